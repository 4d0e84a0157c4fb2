theorem cwL_7 {R : Room} {s : State} {args : Array Value} {rm : Room} (hts : ∀ w ∈ wsL_law, w.before args s = true) (hR : rm.frames + 1 ≤ R.frames ∧ 8 + (2 + 11) + rm.locals ≤ R.locals) : CWV R s args RL RX5 7 yX5_addPerson cX5_addPerson 2 (some .int) rm rm.cells rm.slots 1 :=
  cwV 1 hts (gi_V (r6_in _ (List.mem_of_getElem? (i := 2) rfl)) (r6_in _ (List.mem_of_getElem? (i := 3) rfl)) (r6_in _ (List.mem_of_getElem? (i := 4) rfl)) (r1_in _ (List.mem_of_getElem? (i := 2) rfl)) (r6_in _ (List.mem_of_getElem? (i := 5) rfl))) rfl rfl rfl (by decide +kernel) hR
theorem cwL_17 {R : Room} {s : State} {args : Array Value} {rm : Room} (hts : ∀ w ∈ wsL_law, w.before args s = true) (hR : rm.frames + 1 ≤ R.frames ∧ 8 + (1 + 11) + rm.locals ≤ R.locals) : CWV R s args RL RX5 17 yX5_addHousehold cX5_addHousehold 1 (some .int) rm rm.cells rm.slots 0 :=
  cwV 0 hts (gi_V (r7_in _ (List.mem_of_getElem? (i := 10) rfl)) (r7_in _ (List.mem_of_getElem? (i := 11) rfl)) (r7_in _ (List.mem_of_getElem? (i := 12) rfl)) (r1_in _ (List.mem_of_getElem? (i := 2) rfl)) (r7_in _ (List.mem_of_getElem? (i := 13) rfl))) rfl rfl rfl (by decide +kernel) hR
theorem cwL_21 {R : Room} {s : State} {args : Array Value} {rm : Room} (hts : ∀ w ∈ wsL_law, w.before args s = true) (hR : rm.frames + 1 ≤ R.frames ∧ 8 + (5 + 11) + rm.locals ≤ R.locals) : CWV R s args RL RX5 21 yX5_move cX5_move 5 (some .int) rm rm.cells rm.slots 3 :=
  cwV 3 hts (gi_V (r8_in _ (List.mem_of_getElem? (i := 0) rfl)) (r8_in _ (List.mem_of_getElem? (i := 1) rfl)) (r8_in _ (List.mem_of_getElem? (i := 2) rfl)) (r1_in _ (List.mem_of_getElem? (i := 2) rfl)) (r8_in _ (List.mem_of_getElem? (i := 3) rfl))) rfl rfl rfl (by decide +kernel) hR
theorem cwL_27 {R : Room} {s : State} {args : Array Value} {rm : Room} (hts : ∀ w ∈ wsL_law, w.before args s = true) (hR : rm.frames + 1 ≤ R.frames ∧ 8 + (5 + 11) + rm.locals ≤ R.locals) : CWV R s args RL RX5 27 yX5_setIncome cX5_setIncome 5 (some .int) rm rm.cells rm.slots 3 :=
  cwV 3 hts (gi_V (r9_in _ (List.mem_of_getElem? (i := 18) rfl)) (r9_in _ (List.mem_of_getElem? (i := 19) rfl)) (r9_in _ (List.mem_of_getElem? (i := 20) rfl)) (r1_in _ (List.mem_of_getElem? (i := 2) rfl)) (r9_in _ (List.mem_of_getElem? (i := 21) rfl))) rfl rfl rfl (by decide +kernel) hR
theorem cwL_30 {R : Room} {s : State} {args : Array Value} {rm : Room} (hts : ∀ w ∈ wsL_law, w.before args s = true) (hR : rm.frames + 1 ≤ R.frames ∧ 8 + (5 + 11) + rm.locals ≤ R.locals) : CWV R s args RL RX5 30 yX5_setRent cX5_setRent 5 (some .int) rm rm.cells rm.slots 3 :=
  cwV 3 hts (gi_V (r10_in _ (List.mem_of_getElem? (i := 5) rfl)) (r10_in _ (List.mem_of_getElem? (i := 6) rfl)) (r10_in _ (List.mem_of_getElem? (i := 7) rfl)) (r1_in _ (List.mem_of_getElem? (i := 2) rfl)) (r10_in _ (List.mem_of_getElem? (i := 8) rfl))) rfl rfl rfl (by decide +kernel) hR
theorem cwL_33 {R : Room} {s : State} {args : Array Value} {rm : Room} (hts : ∀ w ∈ wsL_law, w.before args s = true) (hR : rm.frames + 1 ≤ R.frames ∧ 8 + (5 + 11) + rm.locals ≤ R.locals) : CWV R s args RL RX5 33 yX5_setRule cX5_setRule 5 (some .int) rm rm.cells rm.slots 3 :=
  cwV 3 hts (gi_V (r10_in _ (List.mem_of_getElem? (i := 21) rfl)) (r10_in _ (List.mem_of_getElem? (i := 22) rfl)) (r10_in _ (List.mem_of_getElem? (i := 23) rfl)) (r1_in _ (List.mem_of_getElem? (i := 2) rfl)) (r11_in _ (List.mem_of_getElem? (i := 0) rfl))) rfl rfl rfl (by decide +kernel) hR
theorem cwL_39 {R : Room} {s : State} {args : Array Value} {rm : Room} (hts : ∀ w ∈ wsL_law, w.before args s = true) (hR : rm.frames + 1 ≤ R.frames ∧ 8 + (4 + 11) + rm.locals ≤ R.locals) : CWV R s args RL RX5 39 yX5_takeBackMove cX5_takeBackMove 4 (some .int) rm rm.cells rm.slots 2 :=
  cwV 2 hts (gi_V (r11_in _ (List.mem_of_getElem? (i := 21) rfl)) (r11_in _ (List.mem_of_getElem? (i := 22) rfl)) (r11_in _ (List.mem_of_getElem? (i := 23) rfl)) (r1_in _ (List.mem_of_getElem? (i := 2) rfl)) (r12_in _ (List.mem_of_getElem? (i := 0) rfl))) rfl rfl rfl (by decide +kernel) hR
theorem cwL_43 {R : Room} {s : State} {args : Array Value} {rm : Room} (hts : ∀ w ∈ wsL_law, w.before args s = true) (hR : rm.frames + 1 ≤ R.frames ∧ 8 + (4 + 11) + rm.locals ≤ R.locals) : CWV R s args RL RX5 43 yX5_takeBackIncome cX5_takeBackIncome 4 (some .int) rm rm.cells rm.slots 2 :=
  cwV 2 hts (gi_V (r12_in _ (List.mem_of_getElem? (i := 23) rfl)) (r13_in _ (List.mem_of_getElem? (i := 0) rfl)) (r13_in _ (List.mem_of_getElem? (i := 1) rfl)) (r1_in _ (List.mem_of_getElem? (i := 2) rfl)) (r13_in _ (List.mem_of_getElem? (i := 2) rfl))) rfl rfl rfl (by decide +kernel) hR
theorem cwL_46 {R : Room} {s : State} {args : Array Value} {rm : Room} (hts : ∀ w ∈ wsL_law, w.before args s = true) (hR : rm.frames + 1 ≤ R.frames ∧ 8 + (4 + 11) + rm.locals ≤ R.locals) : CWV R s args RL RX5 46 yX5_takeBackRule cX5_takeBackRule 4 (some .int) rm rm.cells rm.slots 2 :=
  cwV 2 hts (gi_V (r13_in _ (List.mem_of_getElem? (i := 11) rfl)) (r13_in _ (List.mem_of_getElem? (i := 12) rfl)) (r13_in _ (List.mem_of_getElem? (i := 13) rfl)) (r1_in _ (List.mem_of_getElem? (i := 2) rfl)) (r13_in _ (List.mem_of_getElem? (i := 14) rfl))) rfl rfl rfl (by decide +kernel) hR
theorem cwL_52 {R : Room} {s : State} {args : Array Value} {rm : Room} (hts : ∀ w ∈ wsL_law, w.before args s = true) (hR : rm.frames + 1 ≤ R.frames ∧ 8 + (3 + 11) + rm.locals ≤ R.locals) : CWV R s args RL RX5 52 yX5_pay cX5_pay 3 (some .int) rm rm.cells rm.slots 0 :=
  cwV 0 hts (gi_V (r14_in _ (List.mem_of_getElem? (i := 0) rfl)) (r14_in _ (List.mem_of_getElem? (i := 1) rfl)) (r14_in _ (List.mem_of_getElem? (i := 2) rfl)) (r1_in _ (List.mem_of_getElem? (i := 2) rfl)) (r14_in _ (List.mem_of_getElem? (i := 3) rfl))) rfl rfl rfl (by decide +kernel) hR
theorem cwL_55 {R : Room} {s : State} {args : Array Value} {rm : Room} (hts : ∀ w ∈ wsL_law, w.before args s = true) (hR : rm.frames + 1 ≤ R.frames ∧ 8 + (4 + 11) + rm.locals ≤ R.locals) : CWV R s args RL RX5 55 yX5_payment cX5_payment 4 (some .int) rm rm.cells rm.slots 2 :=
  cwV 2 hts (gi_V (r19_in _ (List.mem_of_getElem? (i := 14) rfl)) (r19_in _ (List.mem_of_getElem? (i := 15) rfl)) (r19_in _ (List.mem_of_getElem? (i := 16) rfl)) (r1_in _ (List.mem_of_getElem? (i := 2) rfl)) (r19_in _ (List.mem_of_getElem? (i := 17) rfl))) rfl rfl rfl (by decide +kernel) hR
theorem cwL_58 {R : Room} {s : State} {args : Array Value} {rm : Room} (hts : ∀ w ∈ wsL_law, w.before args s = true) (hR : rm.frames + 1 ≤ R.frames ∧ 8 + (4 + 11) + rm.locals ≤ R.locals) : CWV R s args RL RX5 58 yX5_paidFor cX5_paidFor 4 (some .int) rm rm.cells rm.slots 2 :=
  cwV 2 hts (gi_V (r20_in _ (List.mem_of_getElem? (i := 8) rfl)) (r20_in _ (List.mem_of_getElem? (i := 9) rfl)) (r20_in _ (List.mem_of_getElem? (i := 10) rfl)) (r1_in _ (List.mem_of_getElem? (i := 2) rfl)) (r20_in _ (List.mem_of_getElem? (i := 11) rfl))) rfl rfl rfl (by decide +kernel) hR
theorem cwL_61 {R : Room} {s : State} {args : Array Value} {rm : Room} (hts : ∀ w ∈ wsL_law, w.before args s = true) (hR : rm.frames + 1 ≤ R.frames ∧ 8 + (5 + 11) + rm.locals ≤ R.locals) : CWV R s args RL RX5 61 yX5_balance cX5_balance 5 (some .int) rm rm.cells rm.slots 1 :=
  cwV 1 hts (gi_V (r20_in _ (List.mem_of_getElem? (i := 19) rfl)) (r20_in _ (List.mem_of_getElem? (i := 20) rfl)) (r20_in _ (List.mem_of_getElem? (i := 21) rfl)) (r1_in _ (List.mem_of_getElem? (i := 2) rfl)) (r20_in _ (List.mem_of_getElem? (i := 22) rfl))) rfl rfl rfl (by decide +kernel) hR
theorem cwL_68 {R : Room} {s : State} {args : Array Value} {rm : Room} (hts : ∀ w ∈ wsL_law, w.before args s = true) (hR : rm.frames + 1 ≤ R.frames ∧ 8 + (4 + 11) + rm.locals ≤ R.locals) : CWV R s args RL RX5 68 yX5_homeOf cX5_homeOf 4 (some .int) rm rm.cells rm.slots 2 :=
  cwV 2 hts (gi_V (r22_in _ (List.mem_of_getElem? (i := 13) rfl)) (r22_in _ (List.mem_of_getElem? (i := 14) rfl)) (r22_in _ (List.mem_of_getElem? (i := 15) rfl)) (r1_in _ (List.mem_of_getElem? (i := 2) rfl)) (r22_in _ (List.mem_of_getElem? (i := 16) rfl))) rfl rfl rfl (by decide +kernel) hR
theorem cwL_71 {R : Room} {s : State} {args : Array Value} {rm : Room} (hts : ∀ w ∈ wsL_law, w.before args s = true) (hR : rm.frames + 1 ≤ R.frames ∧ 8 + (4 + 11) + rm.locals ≤ R.locals) : CWV R s args RL RX5 71 yX5_ruleAt cX5_ruleAt 4 (some .int) rm rm.cells rm.slots 2 :=
  cwV 2 hts (gi_V (r23_in _ (List.mem_of_getElem? (i := 0) rfl)) (r23_in _ (List.mem_of_getElem? (i := 1) rfl)) (r23_in _ (List.mem_of_getElem? (i := 2) rfl)) (r1_in _ (List.mem_of_getElem? (i := 2) rfl)) (r23_in _ (List.mem_of_getElem? (i := 3) rfl))) rfl rfl rfl (by decide +kernel) hR
theorem cwL_74 {R : Room} {s : State} {args : Array Value} {rm : Room} (hts : ∀ w ∈ wsL_law, w.before args s = true) (hR : rm.frames + 1 ≤ R.frames ∧ 8 + (3 + 11) + rm.locals ≤ R.locals) : CWV R s args RL RX5 74 yX5_adults cX5_adults 3 (some .int) rm rm.cells rm.slots 2 :=
  cwV 2 hts (gi_V (r23_in _ (List.mem_of_getElem? (i := 11) rfl)) (r23_in _ (List.mem_of_getElem? (i := 12) rfl)) (r23_in _ (List.mem_of_getElem? (i := 13) rfl)) (r1_in _ (List.mem_of_getElem? (i := 2) rfl)) (r23_in _ (List.mem_of_getElem? (i := 14) rfl))) rfl rfl rfl (by decide +kernel) hR
theorem cwL_77 {R : Room} {s : State} {args : Array Value} {rm : Room} (hts : ∀ w ∈ wsL_law, w.before args s = true) (hR : rm.frames + 1 ≤ R.frames ∧ 8 + (3 + 11) + rm.locals ≤ R.locals) : CWV R s args RL RX5 77 yX5_children cX5_children 3 (some .int) rm rm.cells rm.slots 2 :=
  cwV 2 hts (gi_V (r24_in _ (List.mem_of_getElem? (i := 2) rfl)) (r24_in _ (List.mem_of_getElem? (i := 3) rfl)) (r24_in _ (List.mem_of_getElem? (i := 4) rfl)) (r1_in _ (List.mem_of_getElem? (i := 2) rfl)) (r24_in _ (List.mem_of_getElem? (i := 5) rfl))) rfl rfl rfl (by decide +kernel) hR
theorem cwL_80 {R : Room} {s : State} {args : Array Value} {rm : Room} (hts : ∀ w ∈ wsL_law, w.before args s = true) (hR : rm.frames + 1 ≤ R.frames ∧ 8 + (3 + 11) + rm.locals ≤ R.locals) : CWV R s args RL RX5 80 yX5_incomeOf cX5_incomeOf 3 (some .int) rm rm.cells rm.slots 2 :=
  cwV 2 hts (gi_V (r24_in _ (List.mem_of_getElem? (i := 13) rfl)) (r24_in _ (List.mem_of_getElem? (i := 14) rfl)) (r24_in _ (List.mem_of_getElem? (i := 15) rfl)) (r1_in _ (List.mem_of_getElem? (i := 2) rfl)) (r24_in _ (List.mem_of_getElem? (i := 16) rfl))) rfl rfl rfl (by decide +kernel) hR
theorem cwL_83 {R : Room} {s : State} {args : Array Value} {rm : Room} (hts : ∀ w ∈ wsL_law, w.before args s = true) (hR : rm.frames + 1 ≤ R.frames ∧ 8 + (3 + 11) + rm.locals ≤ R.locals) : CWV R s args RL RX5 83 yX5_adultAmount cX5_adultAmount 3 (some .int) rm rm.cells rm.slots 2 :=
  cwV 2 hts (gi_V (r25_in _ (List.mem_of_getElem? (i := 0) rfl)) (r25_in _ (List.mem_of_getElem? (i := 1) rfl)) (r25_in _ (List.mem_of_getElem? (i := 2) rfl)) (r1_in _ (List.mem_of_getElem? (i := 2) rfl)) (r25_in _ (List.mem_of_getElem? (i := 3) rfl))) rfl rfl rfl (by decide +kernel) hR
theorem cwL_86 {R : Room} {s : State} {args : Array Value} {rm : Room} (hts : ∀ w ∈ wsL_law, w.before args s = true) (hR : rm.frames + 1 ≤ R.frames ∧ 8 + (3 + 11) + rm.locals ≤ R.locals) : CWV R s args RL RX5 86 yX5_childAmount cX5_childAmount 3 (some .int) rm rm.cells rm.slots 2 :=
  cwV 2 hts (gi_V (r25_in _ (List.mem_of_getElem? (i := 11) rfl)) (r25_in _ (List.mem_of_getElem? (i := 12) rfl)) (r25_in _ (List.mem_of_getElem? (i := 13) rfl)) (r1_in _ (List.mem_of_getElem? (i := 2) rfl)) (r25_in _ (List.mem_of_getElem? (i := 14) rfl))) rfl rfl rfl (by decide +kernel) hR
theorem cwL_89 {R : Room} {s : State} {args : Array Value} {rm : Room} (hts : ∀ w ∈ wsL_law, w.before args s = true) (hR : rm.frames + 1 ≤ R.frames ∧ 8 + (3 + 11) + rm.locals ≤ R.locals) : CWV R s args RL RX5 89 yX5_housingAmount cX5_housingAmount 3 (some .int) rm rm.cells rm.slots 2 :=
  cwV 2 hts (gi_V (r25_in _ (List.mem_of_getElem? (i := 22) rfl)) (r25_in _ (List.mem_of_getElem? (i := 23) rfl)) (r26_in _ (List.mem_of_getElem? (i := 0) rfl)) (r1_in _ (List.mem_of_getElem? (i := 2) rfl)) (r26_in _ (List.mem_of_getElem? (i := 1) rfl))) rfl rfl rfl (by decide +kernel) hR
theorem cwL_92 {R : Room} {s : State} {args : Array Value} {rm : Room} (hts : ∀ w ∈ wsL_law, w.before args s = true) (hR : rm.frames + 1 ≤ R.frames ∧ 8 + (3 + 11) + rm.locals ≤ R.locals) : CWV R s args RL RX5 92 yX5_reason cX5_reason 3 (some .char) rm rm.cells rm.slots 2 :=
  cwV 2 hts (gi_V (r26_in _ (List.mem_of_getElem? (i := 9) rfl)) (r26_in _ (List.mem_of_getElem? (i := 10) rfl)) (r26_in _ (List.mem_of_getElem? (i := 11) rfl)) (r1_in _ (List.mem_of_getElem? (i := 2) rfl)) (r26_in _ (List.mem_of_getElem? (i := 12) rfl))) rfl rfl rfl (by decide +kernel) hR
theorem cwL_96 {R : Room} {s : State} {args : Array Value} {rm : Room} (hts : ∀ w ∈ wsL_law, w.before args s = true) (hR : rm.frames + 1 ≤ R.frames ∧ 8 + (7 + 11) + rm.locals ≤ R.locals) : CWV R s args RL RX5 96 yX5_nextChange cX5_nextChange 7 (some .int) rm rm.cells rm.slots 2 :=
  cwV 2 hts (gi_V (r26_in _ (List.mem_of_getElem? (i := 20) rfl)) (r26_in _ (List.mem_of_getElem? (i := 21) rfl)) (r26_in _ (List.mem_of_getElem? (i := 22) rfl)) (r1_in _ (List.mem_of_getElem? (i := 2) rfl)) (r26_in _ (List.mem_of_getElem? (i := 23) rfl))) rfl rfl rfl (by decide +kernel) hR
theorem cwL_99 {R : Room} {s : State} {args : Array Value} {rm : Room} (hts : ∀ w ∈ wsL_law, w.before args s = true) (hR : rm.frames + 1 ≤ R.frames ∧ 8 + (3 + 11) + rm.locals ≤ R.locals) : CWV R s args RL RX5 99 yX5_entitlement cX5_entitlement 3 (some .int) rm rm.cells rm.slots 2 :=
  cwV 2 hts (gi_V (r27_in _ (List.mem_of_getElem? (i := 7) rfl)) (r27_in _ (List.mem_of_getElem? (i := 8) rfl)) (r27_in _ (List.mem_of_getElem? (i := 9) rfl)) (r1_in _ (List.mem_of_getElem? (i := 2) rfl)) (r27_in _ (List.mem_of_getElem? (i := 10) rfl))) rfl rfl rfl (by decide +kernel) hR
theorem cwL_102 {R : Room} {s : State} {args : Array Value} {rm : Room} (hts : ∀ w ∈ wsL_law, w.before args s = true) (hR : rm.frames + 1 ≤ R.frames ∧ 8 + (6 + 11) + rm.locals ≤ R.locals) : CWV R s args RL RX5 102 yX5_entitlementByDays cX5_entitlementByDays 6 (some .int) rm rm.cells rm.slots 2 :=
  cwV 2 hts (gi_V (r27_in _ (List.mem_of_getElem? (i := 18) rfl)) (r27_in _ (List.mem_of_getElem? (i := 19) rfl)) (r27_in _ (List.mem_of_getElem? (i := 20) rfl)) (r1_in _ (List.mem_of_getElem? (i := 2) rfl)) (r27_in _ (List.mem_of_getElem? (i := 21) rfl))) rfl rfl rfl (by decide +kernel) hR
theorem cwL_64 {R : Room} {s : State} {args : Array Value} {rm : Room} (hts : ∀ w ∈ wsL_law, w.before args s = true) (hR : rm.frames + 1 ≤ R.frames ∧ 8 + (4 + 11) + rm.locals ≤ R.locals) : CWV R s args RL RX5 64 yX5_isSettled cX5_isSettled 4 (some .boolean) rm rm.cells rm.slots 1 :=
  cwV 1 hts (gi_V (r21_in _ (List.mem_of_getElem? (i := 10) rfl)) (r21_in _ (List.mem_of_getElem? (i := 11) rfl)) (r21_in _ (List.mem_of_getElem? (i := 12) rfl)) (r1_in _ (List.mem_of_getElem? (i := 2) rfl)) (r21_in _ (List.mem_of_getElem? (i := 13) rfl))) rfl rfl rfl (by decide +kernel) hR
theorem cwL_105 {R : Room} {s : State} {args : Array Value} {rm : Room} (hts : ∀ w ∈ wsL_law, w.before args s = true) (hR : rm.frames + 1 ≤ R.frames ∧ 8 + (3 + 11) + rm.locals ≤ R.locals) : CWV R s args RL RX5 105 yX5_keptShare cX5_keptShare 3 (some .float) rm rm.cells rm.slots 0 :=
  cwV 0 hts (gi_V (r28_in _ (List.mem_of_getElem? (i := 15) rfl)) (r28_in _ (List.mem_of_getElem? (i := 16) rfl)) (r28_in _ (List.mem_of_getElem? (i := 17) rfl)) (r1_in _ (List.mem_of_getElem? (i := 2) rfl)) (r28_in _ (List.mem_of_getElem? (i := 18) rfl))) rfl rfl rfl (by decide +kernel) hR
theorem cwL_111 {R : Room} {s : State} {args : Array Value} {rm : Room} (hts : ∀ w ∈ wsL_law, w.before args s = true) (hR : rm.frames + 1 ≤ R.frames ∧ 8 + (1 + 11) + rm.locals ≤ R.locals) : CWV R s args RL RX5 111 yX5_meanPayment cX5_meanPayment 1 (some .double) rm rm.cells rm.slots 0 :=
  cwV 0 hts (gi_V (r29_in _ (List.mem_of_getElem? (i := 4) rfl)) (r29_in _ (List.mem_of_getElem? (i := 5) rfl)) (r29_in _ (List.mem_of_getElem? (i := 6) rfl)) (r1_in _ (List.mem_of_getElem? (i := 2) rfl)) (r29_in _ (List.mem_of_getElem? (i := 7) rfl))) rfl rfl rfl (by decide +kernel) hR
/-- the cells of a helper's world: the office's, and the array of the answer -/
def hE (cJ : ClassId) (Ec : Nat → va_E) (o : Nat → Int64) : Nat → va_E := fun k => if k < 109 then Ec k else .inl (cJ, 1, .inr (.inl o))
def hF9 (cF : ClassId) (Ec : Nat → va_E) (o : Nat → UInt64) : Nat → va_E := fun k => if k < 109 then Ec k else .inl (cF, 1, .inr (.inr (.inr (.inl o))))
theorem hE_up {cJ : ClassId} {Ec : Nat → va_E} {o o' : Nat → Int64} (hk : True) : va_up (hE cJ Ec o) 109 (.inl (cJ, 1, .inr (.inl o'))) = fun k => if k < 109 then Ec k else if k = 109 then .inl (cJ, 1, .inr (.inl o')) else hE cJ Ec o k := by
  funext k
  unfold va_up hE
  by_cases h : k = 109
  · subst h; rfl
  · by_cases h2 : k < 109
    · simp [h, h2]
    · simp [h, h2]
theorem hE_w {D : va_G} {ad : Nat → Nat} {cJ : ClassId} {Ec : Nat → va_E} {o o' : Nat → Int64} {H : Heap} (h : hH D ad 110 (va_up (hE cJ Ec o) 109 (.inl (cJ, 1, .inr (.inl o')))) H) : hH D ad 110 (hE cJ Ec o') H := fun k hk => by
  have := h k hk
  rw [hE_up trivial] at this
  unfold hE
  by_cases h2 : k < 109
  · simp only [if_pos h2] at this ⊢; exact this
  · have e : k = 109 := by omega
    subst e
    exact this
theorem hF_w {D : va_G} {ad : Nat → Nat} {cF : ClassId} {Ec : Nat → va_E} {o o' : Nat → UInt64} {H : Heap} (h : hH D ad 110 (va_up (hF9 cF Ec o) 109 (.inl (cF, 1, .inr (.inr (.inr (.inl o')))))) H) : hH D ad 110 (hF9 cF Ec o') H := fun k hk => by
  have := h k hk
  unfold va_up at this
  unfold hF9 at this ⊢
  by_cases h2 : k < 109
  · have h3 : ¬ k = 109 := by omega
    simp only [if_neg h3, if_pos h2] at this ⊢; exact this
  · have e : k = 109 := by omega
    subst e
    exact this
theorem h_out {cJ : ClassId} {Ec : Nat → va_E} {o : Nat → Int64} (E1 : Nat → va_E) (j : Nat) (hj : j < 110) (hno : ∀ k, k < 109 → k ≠ j) : hE cJ E1 o j = hE cJ Ec o j := by
  have h : ¬ j < 109 := fun q => hno j q rfl
  exact (if_neg h).trans (if_neg h).symm
theorem h_outF {cF : ClassId} {Ec : Nat → va_E} {o : Nat → UInt64} (E1 : Nat → va_E) (j : Nat) (hj : j < 110) (hno : ∀ k, k < 109 → k ≠ j) : hF9 cF E1 o j = hF9 cF Ec o j := by
  have h : ¬ j < 109 := fun q => hno j q rfl
  exact (if_neg h).trans (if_neg h).symm
theorem in_01 : vp_in 0 1 := by
  rw [vp_in_iff, i32_0]
  omega
theorem updL_0 (o : Nat → Int64) (x : Int64) : vp_updL o 0 x 0 = x := by simp [vp_updL]
theorem vfu_0 (o : Nat → UInt64) (x : UInt64) : vf_upd o 0 x 0 = x := by simp [vf_upd]
set_option maxHeartbeats 4000000 in
set_option maxRecDepth 100000 in
theorem lh_addPerson {l : Launch} (hlf : l.stackTraces = false) {D : va_G} {tys : List (ClassId × FieldType)} {ad : Nat → Nat} (hI : aI ad 110) {cJ cF : ClassId} (o : Nat → Int64) {cI cZ cH cP cT : ClassId} (V T : Nat → Nat → Int32) (ag : Nat → Int32) (nP nH rN : Nat) (nf pn : Int32) (sp sk : Int64) (py pd : Nat → Nat → Int32) (so en : Nat → Int32) (rA rC rI aA aC aH aT aP : Int32) (x : Int32) (hti : tys[0]? = some (cI, .int)) (htz : tys[1]? = some (cZ, .boolean)) (hth : tys[2]? = some (cH, .object RX1)) (htp : tys[3]? = some (cP, .object RX2)) (htt : tys[4]? = some (cT, .object RX4)) (htj : tys[5]? = some (cJ, .long)) (htf : tys[6]? = some (cF, .double)) (hInv : Inv V T ag nP nH rN so pd)  (sz : Nat) : Met l yL_addPerson (Cond.codeWith yL_addPerson cL_addPerson 4 (some .int) [(0, 9, 12, 13), (0, 9, 15, 15)] :: wsL_law) (rmk 7 8 48) (va_Pc [.ref (ad 0), .int x, .ref (ad 109)] (PN D tys ad 110 (hE cJ (cE cI cZ cH cP cT ad V T ag nP nH rN nf pn sp sk py pd so en rA rC rI aA aC aH aT aP) o) sz)) (Qi D ad 110 (fun r E1 => r = kAddP nP x ∧ ∃ Ec o1, E1 = hE cJ Ec o1 ∧ ((kAddP nP x = 0 ∧ o1 0 = (nI nP).toInt64 ∧ CW cI cZ cH cP cT ad V T (upd ag nP x) (nP + 1) nH rN nf pn sp sk py pd Ec) ∨ (¬ kAddP nP x = 0 ∧ CW cI cZ cH cP cT ad V T ag nP nH rN nf pn sp sk py pd Ec))) (cA ad 110 sz)) 8 48 (cA ad 110 sz) := by
  refine ch_of (own := RL) (Qc := Qi D ad 110 (fun r E1 => r = kAddP nP x ∧ ∃ Ec o1, E1 = hE cJ Ec o1 ∧ ((kAddP nP x = 0 ∧ o1 0 = (nI nP).toInt64 ∧ CW cI cZ cH cP cT ad V T (upd ag nP x) (nP + 1) nH rN nf pn sp sk py pd Ec) ∨ (¬ kAddP nP x = 0 ∧ CW cI cZ cH cP cT ad V T ag nP nH rN nf pn sp sk py pd Ec)))) rfl (by decide +kernel) (Nat.le_of_ble_eq_true rfl) ?_ sz
  intro p e s m args below meth c ls Q B hT hX hN hW hr hlk htab hl hS hA hQ
  have hx := B.1
  have hb := B.2.1
  have hl : lv_has ls 4 [(0, .ref (ad 0)), (1, .int x), (2, .ref (ad 109))] := hl
  refine lv_aload_n hx hb dL_addPerson_0 rfl (lv_at hl 2 rfl) ?_
  refine lv_iconst (v := 0) hx hb dL_addPerson_1 (by decide) ?_
  refine lv_aload_n hx hb dL_addPerson_2 rfl (lv_at hl 0 rfl) ?_
  refine lv_iload_n hx hb dL_addPerson_3 rfl (lv_at hl 1 rfl) ?_
  refine y_xci (y_xrunV (ad' := ad) (σ := fun k => k) (n9 := 109) (E' := cE cI cZ cH cP cT ad V T ag nP nH rN nf pn sp sk py pd so en rA rC rI aA aC aH aT aP) (k := 0) B hT hX hW hS (fun k h => Nat.lt_of_lt_of_le h (by decide)) (fun _ _ => rfl) (fun k h => if_pos h) (As := [.int x]) (rest := [.int 0, .ref (ad 109)]) (fun sz => mt_addPerson hlf (fun i j hi hj => hI i j (by omega) (by omega)) V T ag nP nH rN nf pn sp sk py pd so en rA rC rI aA aC aH aT aP x hti htz hth htp htt hInv sz) (cwL_7 B.2.2.2.2.1 ⟨Nat.le_of_ble_eq_true rfl, Nat.le_of_ble_eq_true rfl⟩) (b_recv B (hW.subw (n := 109) (σ := fun k => k) (fun k h => Nat.lt_of_lt_of_le h (by decide)) (fun _ _ => rfl) (fun k h => if_pos h)) (by decide) cE_0 rfl) rfl hl.1 (Nat.le_of_ble_eq_true rfl) dL_addPerson_4 ⟨Nat.le_of_ble_eq_true rfl, Nat.le_of_ble_eq_true rfl⟩) hI hW hS (fun k h => Nat.lt_of_lt_of_le h (by decide)) (fun _ _ => rfl) (fun E1 => hE cJ E1 o) (fun E1 k h => if_pos h) h_out (fun Ex ce q9 E1 H locs hx9 hW hS hce hcv hcl => ?_) (fun r E1 H locs hp hW hS => ?_)
  · obtain ⟨hx9, hC⟩ := hx9
    rcases hx9 with ⟨rfl, hk⟩ | ⟨rfl, hk⟩
    · skip
      refine h_catch B hT hN htab (pre := []) (suf := [(0, 9, 15, 15)]) (a := 0) (b := 9) (h := 12) (ct := 13) rfl (fun z hz => nomatch hz) (by decide) (by decide) (r6_in _ (List.mem_of_getElem? (i := 0) rfl)) (List.mem_of_getElem? (i := 24) rfl) hce hcv hcl ?_
      refine lv_astore_n (lv' := [(3, .ref q9), (0, .ref (ad 0)), (1, .int x), (2, .ref (ad 109))]) hx hb dL_addPerson_12 rfl hl (by decide) rfl (fun ls hl => ?_)
      refine lv_iconst (v := 1) hx hb dL_addPerson_13 (by decide) ?_
      exact e_i hQ B hr hlk hS hW dL_addPerson_14 (Nat.le_of_ble_eq_true rfl) (Nat.le_of_ble_eq_true rfl) (⟨hk.symm, _, _, rfl, Or.inr ⟨by rw [hk]; decide, hC⟩⟩)
    · skip
      refine h_catch B hT hN htab (pre := [(0, 9, 12, 13)]) (suf := []) (a := 0) (b := 9) (h := 15) (ct := 15) rfl (List.forall_mem_cons.mpr ⟨⟨by decide, "java/lang/IllegalArgumentException", (r6_in _ (List.mem_of_getElem? (i := 0) rfl)), List.mem_of_getElem? (i := 0) rfl⟩, (fun z hz => nomatch hz)⟩) (by decide) (by decide) (r6_in _ (List.mem_of_getElem? (i := 1) rfl)) (List.mem_of_getElem? (i := 23) rfl) hce hcv hcl ?_
      refine lv_astore_n (lv' := [(3, .ref q9), (0, .ref (ad 0)), (1, .int x), (2, .ref (ad 109))]) hx hb dL_addPerson_15 rfl hl (by decide) rfl (fun ls hl => ?_)
      refine lv_iconst (v := 2) hx hb dL_addPerson_16 (by decide) ?_
      exact e_i hQ B hr hlk hS hW dL_addPerson_17 (Nat.le_of_ble_eq_true rfl) (Nat.le_of_ble_eq_true rfl) (⟨hk.symm, _, _, rfl, Or.inr ⟨by rw [hk]; decide, hC⟩⟩)
  · skip
    refine lv_i2l hx hb dL_addPerson_7 rfl ?_
    refine b_last B hI hA hW hS htj (j := 0) (by decide) rfl in_01 rfl dL_addPerson_8 (fun H locs hW hS => ?_)
    have hW := hE_w hW
    refine lv_goto (tgt := 18) hx hb dL_addPerson_9 (by decide) ?_
    refine lv_iconst (v := 0) hx hb dL_addPerson_18 (by decide) ?_
    exact e_i hQ B hr hlk hS hW dL_addPerson_19 (Nat.le_of_ble_eq_true rfl) (Nat.le_of_ble_eq_true rfl) (⟨hp.1.1.symm, _, _, rfl, Or.inl ⟨hp.1.1, by rw [updL_0, hp.1.2], hp.2⟩⟩)
set_option maxHeartbeats 4000000 in
set_option maxRecDepth 100000 in
theorem lh_addHousehold {l : Launch} (hlf : l.stackTraces = false) {D : va_G} {tys : List (ClassId × FieldType)} {ad : Nat → Nat} (hI : aI ad 110) {cJ cF : ClassId} (o : Nat → Int64) {cI cZ cH cP cT : ClassId} (V T : Nat → Nat → Int32) (ag : Nat → Int32) (nP nH rN : Nat) (nf pn : Int32) (sp sk : Int64) (py pd : Nat → Nat → Int32) (so en : Nat → Int32) (rA rC rI aA aC aH aT aP : Int32) (hti : tys[0]? = some (cI, .int)) (htz : tys[1]? = some (cZ, .boolean)) (hth : tys[2]? = some (cH, .object RX1)) (htp : tys[3]? = some (cP, .object RX2)) (htt : tys[4]? = some (cT, .object RX4)) (htj : tys[5]? = some (cJ, .long)) (htf : tys[6]? = some (cF, .double)) (hInv : Inv V T ag nP nH rN so pd)  (sz : Nat) : Met l yL_addHousehold (Cond.codeWith yL_addHousehold cL_addHousehold 3 (some .int) [(0, 8, 11, 15)] :: wsL_law) (rmk 7 8 48) (va_Pc [.ref (ad 0), .ref (ad 109)] (PN D tys ad 110 (hE cJ (cE cI cZ cH cP cT ad V T ag nP nH rN nf pn sp sk py pd so en rA rC rI aA aC aH aT aP) o) sz)) (Qi D ad 110 (fun r E1 => r = kAddH nH ∧ ∃ Ec o1, E1 = hE cJ Ec o1 ∧ ((kAddH nH = 0 ∧ o1 0 = (nI nH).toInt64 ∧ CW cI cZ cH cP cT ad V T ag nP (nH + 1) rN nf pn sp sk py pd Ec) ∨ (¬ kAddH nH = 0 ∧ CW cI cZ cH cP cT ad V T ag nP nH rN nf pn sp sk py pd Ec))) (cA ad 110 sz)) 8 48 (cA ad 110 sz) := by
  refine ch_of (own := RL) (Qc := Qi D ad 110 (fun r E1 => r = kAddH nH ∧ ∃ Ec o1, E1 = hE cJ Ec o1 ∧ ((kAddH nH = 0 ∧ o1 0 = (nI nH).toInt64 ∧ CW cI cZ cH cP cT ad V T ag nP (nH + 1) rN nf pn sp sk py pd Ec) ∨ (¬ kAddH nH = 0 ∧ CW cI cZ cH cP cT ad V T ag nP nH rN nf pn sp sk py pd Ec)))) rfl (by decide +kernel) (Nat.le_of_ble_eq_true rfl) ?_ sz
  intro p e s m args below meth c ls Q B hT hX hN hW hr hlk htab hl hS hA hQ
  have hx := B.1
  have hb := B.2.1
  have hl : lv_has ls 3 [(0, .ref (ad 0)), (1, .ref (ad 109))] := hl
  refine lv_aload_n hx hb dL_addHousehold_0 rfl (lv_at hl 1 rfl) ?_
  refine lv_iconst (v := 0) hx hb dL_addHousehold_1 (by decide) ?_
  refine lv_aload_n hx hb dL_addHousehold_2 rfl (lv_at hl 0 rfl) ?_
  refine y_xci (y_xrunV (ad' := ad) (σ := fun k => k) (n9 := 109) (E' := cE cI cZ cH cP cT ad V T ag nP nH rN nf pn sp sk py pd so en rA rC rI aA aC aH aT aP) (k := 0) B hT hX hW hS (fun k h => Nat.lt_of_lt_of_le h (by decide)) (fun _ _ => rfl) (fun k h => if_pos h) (As := []) (rest := [.int 0, .ref (ad 109)]) (fun sz => mt_addHousehold hlf (fun i j hi hj => hI i j (by omega) (by omega)) V T ag nP nH rN nf pn sp sk py pd so en rA rC rI aA aC aH aT aP  hti htz hth htp htt hInv sz) (cwL_17 B.2.2.2.2.1 ⟨Nat.le_of_ble_eq_true rfl, Nat.le_of_ble_eq_true rfl⟩) (b_recv B (hW.subw (n := 109) (σ := fun k => k) (fun k h => Nat.lt_of_lt_of_le h (by decide)) (fun _ _ => rfl) (fun k h => if_pos h)) (by decide) cE_0 rfl) rfl hl.1 (Nat.le_of_ble_eq_true rfl) dL_addHousehold_3 ⟨Nat.le_of_ble_eq_true rfl, Nat.le_of_ble_eq_true rfl⟩) hI hW hS (fun k h => Nat.lt_of_lt_of_le h (by decide)) (fun _ _ => rfl) (fun E1 => hE cJ E1 o) (fun E1 k h => if_pos h) h_out (fun Ex ce q9 E1 H locs hx9 hW hS hce hcv hcl => ?_) (fun r E1 H locs hp hW hS => ?_)
  · obtain ⟨hx9, hC⟩ := hx9
    obtain ⟨rfl, hk⟩ := hx9
    refine h_catch B hT hN htab (pre := []) (suf := []) (a := 0) (b := 8) (h := 11) (ct := 15) rfl (fun z hz => nomatch hz) (by decide) (by decide) (r6_in _ (List.mem_of_getElem? (i := 1) rfl)) (List.mem_of_getElem? (i := 23) rfl) hce hcv hcl ?_
    refine lv_astore_n (lv' := [(2, .ref q9), (0, .ref (ad 0)), (1, .ref (ad 109))]) hx hb dL_addHousehold_11 rfl hl (by decide) rfl (fun ls hl => ?_)
    refine lv_iconst (v := 1) hx hb dL_addHousehold_12 (by decide) ?_
    exact e_i hQ B hr hlk hS hW dL_addHousehold_13 (Nat.le_of_ble_eq_true rfl) (Nat.le_of_ble_eq_true rfl) (⟨hk.symm, _, _, rfl, Or.inr ⟨by rw [hk]; decide, hC⟩⟩)
  · skip
    refine lv_i2l hx hb dL_addHousehold_6 rfl ?_
    refine b_last B hI hA hW hS htj (j := 0) (by decide) rfl in_01 rfl dL_addHousehold_7 (fun H locs hW hS => ?_)
    have hW := hE_w hW
    refine lv_goto (tgt := 14) hx hb dL_addHousehold_8 (by decide) ?_
    refine lv_iconst (v := 0) hx hb dL_addHousehold_14 (by decide) ?_
    exact e_i hQ B hr hlk hS hW dL_addHousehold_15 (Nat.le_of_ble_eq_true rfl) (Nat.le_of_ble_eq_true rfl) (⟨hp.1.1.symm, _, _, rfl, Or.inl ⟨hp.1.1, by rw [updL_0, hp.1.2], hp.2⟩⟩)
set_option maxHeartbeats 4000000 in
set_option maxRecDepth 100000 in
theorem lh_move {l : Launch} (hlf : l.stackTraces = false) {D : va_G} {tys : List (ClassId × FieldType)} {ad : Nat → Nat} (hI : aI ad 110) {cJ cF : ClassId} (o : Nat → Int64) {cI cZ cH cP cT : ClassId} (V T : Nat → Nat → Int32) (ag : Nat → Int32) (nP nH rN : Nat) (nf pn : Int32) (sp sk : Int64) (py pd : Nat → Nat → Int32) (so en : Nat → Int32) (rA rC rI aA aC aH aT aP : Int32) (x hh dy : Int32) (hti : tys[0]? = some (cI, .int)) (htz : tys[1]? = some (cZ, .boolean)) (hth : tys[2]? = some (cH, .object RX1)) (htp : tys[3]? = some (cP, .object RX2)) (htt : tys[4]? = some (cT, .object RX4)) (htj : tys[5]? = some (cJ, .long)) (htf : tys[6]? = some (cF, .double)) (hInv : Inv V T ag nP nH rN so pd)  (sz : Nat) : Met l yL_move (Cond.codeWith yL_move cL_move 6 (some .int) [(0, 12, 15, 25), (0, 12, 19, 13)] :: wsL_law) (rmk 7 8 48) (va_Pc [.ref (ad 0), .int x, .int hh, .int dy, .ref (ad 109)] (PN D tys ad 110 (hE cJ (cE cI cZ cH cP cT ad V T ag nP nH rN nf pn sp sk py pd so en rA rC rI aA aC aH aT aP) o) sz)) (Qi D ad 110 (fun r E1 => r = kMove nP nH x hh dy ∧ ∃ Ec o1, E1 = hE cJ Ec o1 ∧ ((kMove nP nH x hh dy = 0 ∧ o1 0 = (V (ix x) (ix dy)).toInt64 ∧ CW cI cZ cH cP cT ad (upd2 V (ix x) (tellV (V (ix x)) (T (ix x)) (ix dy) hh)) (upd2 T (ix x) (upd (T (ix x)) (ix dy) 1)) ag nP nH rN (if T (ix x) (ix dy) = 0 then nf + 1 else nf) pn sp sk py pd Ec) ∨ (¬ kMove nP nH x hh dy = 0 ∧ CW cI cZ cH cP cT ad V T ag nP nH rN nf pn sp sk py pd Ec))) (cA ad 110 sz)) 8 48 (cA ad 110 sz) := by
  refine ch_of (own := RL) (Qc := Qi D ad 110 (fun r E1 => r = kMove nP nH x hh dy ∧ ∃ Ec o1, E1 = hE cJ Ec o1 ∧ ((kMove nP nH x hh dy = 0 ∧ o1 0 = (V (ix x) (ix dy)).toInt64 ∧ CW cI cZ cH cP cT ad (upd2 V (ix x) (tellV (V (ix x)) (T (ix x)) (ix dy) hh)) (upd2 T (ix x) (upd (T (ix x)) (ix dy) 1)) ag nP nH rN (if T (ix x) (ix dy) = 0 then nf + 1 else nf) pn sp sk py pd Ec) ∨ (¬ kMove nP nH x hh dy = 0 ∧ CW cI cZ cH cP cT ad V T ag nP nH rN nf pn sp sk py pd Ec)))) rfl (by decide +kernel) (Nat.le_of_ble_eq_true rfl) ?_ sz
  intro p e s m args below meth c ls Q B hT hX hN hW hr hlk htab hl hS hA hQ
  have hx := B.1
  have hb := B.2.1
  have hl : lv_has ls 6 [(0, .ref (ad 0)), (1, .int x), (2, .int hh), (3, .int dy), (4, .ref (ad 109))] := hl
  refine lv_aload hx hb dL_move_0 (lv_at hl 4 rfl) ?_
  refine lv_iconst (v := 0) hx hb dL_move_2 (by decide) ?_
  refine lv_aload_n hx hb dL_move_3 rfl (lv_at hl 0 rfl) ?_
  refine lv_iload_n hx hb dL_move_4 rfl (lv_at hl 1 rfl) ?_
  refine lv_iload_n hx hb dL_move_5 rfl (lv_at hl 2 rfl) ?_
  refine lv_iload_n hx hb dL_move_6 rfl (lv_at hl 3 rfl) ?_
  refine y_xci (y_xrunV (ad' := ad) (σ := fun k => k) (n9 := 109) (E' := cE cI cZ cH cP cT ad V T ag nP nH rN nf pn sp sk py pd so en rA rC rI aA aC aH aT aP) (k := 0) B hT hX hW hS (fun k h => Nat.lt_of_lt_of_le h (by decide)) (fun _ _ => rfl) (fun k h => if_pos h) (As := [.int x, .int hh, .int dy]) (rest := [.int 0, .ref (ad 109)]) (fun sz => mt_move hlf (fun i j hi hj => hI i j (by omega) (by omega)) V T ag nP nH rN nf pn sp sk py pd so en rA rC rI aA aC aH aT aP x hh dy hti htz hth htp htt hInv sz) (cwL_21 B.2.2.2.2.1 ⟨Nat.le_of_ble_eq_true rfl, Nat.le_of_ble_eq_true rfl⟩) (b_recv B (hW.subw (n := 109) (σ := fun k => k) (fun k h => Nat.lt_of_lt_of_le h (by decide)) (fun _ _ => rfl) (fun k h => if_pos h)) (by decide) cE_0 rfl) rfl hl.1 (Nat.le_of_ble_eq_true rfl) dL_move_7 ⟨Nat.le_of_ble_eq_true rfl, Nat.le_of_ble_eq_true rfl⟩) hI hW hS (fun k h => Nat.lt_of_lt_of_le h (by decide)) (fun _ _ => rfl) (fun E1 => hE cJ E1 o) (fun E1 k h => if_pos h) h_out (fun Ex ce q9 E1 H locs hx9 hW hS hce hcv hcl => ?_) (fun r E1 H locs hp hW hS => ?_)
  · obtain ⟨hx9, hC⟩ := hx9
    rcases hx9 with ⟨rfl, hk⟩ | ⟨rfl, hk⟩
    · skip
      refine h_catch B hT hN htab (pre := []) (suf := [(0, 12, 19, 13)]) (a := 0) (b := 12) (h := 15) (ct := 25) rfl (fun z hz => nomatch hz) (by decide) (by decide) (r7_in _ (List.mem_of_getElem? (i := 23) rfl)) (List.mem_of_getElem? (i := 25) rfl) hce hcv hcl ?_
      refine lv_astore (lv' := [(5, .ref q9), (0, .ref (ad 0)), (1, .int x), (2, .int hh), (3, .int dy), (4, .ref (ad 109))]) hx hb dL_move_15 hl (by decide) rfl (fun ls hl => ?_)
      refine lv_iconst (v := 1) hx hb dL_move_17 (by decide) ?_
      exact e_i hQ B hr hlk hS hW dL_move_18 (Nat.le_of_ble_eq_true rfl) (Nat.le_of_ble_eq_true rfl) (⟨hk.symm, _, _, rfl, Or.inr ⟨by rw [hk]; decide, hC⟩⟩)
    · skip
      refine h_catch B hT hN htab (pre := [(0, 12, 15, 25)]) (suf := []) (a := 0) (b := 12) (h := 19) (ct := 13) rfl (List.forall_mem_cons.mpr ⟨⟨by decide, "java/lang/IndexOutOfBoundsException", (r7_in _ (List.mem_of_getElem? (i := 23) rfl)), List.mem_of_getElem? (i := 1) rfl⟩, (fun z hz => nomatch hz)⟩) (by decide) (by decide) (r6_in _ (List.mem_of_getElem? (i := 0) rfl)) (List.mem_of_getElem? (i := 24) rfl) hce hcv hcl ?_
      refine lv_astore (lv' := [(5, .ref q9), (0, .ref (ad 0)), (1, .int x), (2, .int hh), (3, .int dy), (4, .ref (ad 109))]) hx hb dL_move_19 hl (by decide) rfl (fun ls hl => ?_)
      refine lv_iconst (v := 2) hx hb dL_move_21 (by decide) ?_
      exact e_i hQ B hr hlk hS hW dL_move_22 (Nat.le_of_ble_eq_true rfl) (Nat.le_of_ble_eq_true rfl) (⟨hk.symm, _, _, rfl, Or.inr ⟨by rw [hk]; decide, hC⟩⟩)
  · skip
    refine lv_i2l hx hb dL_move_10 rfl ?_
    refine b_last B hI hA hW hS htj (j := 0) (by decide) rfl in_01 rfl dL_move_11 (fun H locs hW hS => ?_)
    have hW := hE_w hW
    refine lv_goto (tgt := 23) hx hb dL_move_12 (by decide) ?_
    refine lv_iconst (v := 0) hx hb dL_move_23 (by decide) ?_
    exact e_i hQ B hr hlk hS hW dL_move_24 (Nat.le_of_ble_eq_true rfl) (Nat.le_of_ble_eq_true rfl) (⟨hp.1.1.symm, _, _, rfl, Or.inl ⟨hp.1.1, by rw [updL_0, hp.1.2], hp.2⟩⟩)
set_option maxHeartbeats 4000000 in
set_option maxRecDepth 100000 in
theorem lh_setIncome {l : Launch} (hlf : l.stackTraces = false) {D : va_G} {tys : List (ClassId × FieldType)} {ad : Nat → Nat} (hI : aI ad 110) {cJ cF : ClassId} (o : Nat → Int64) {cI cZ cH cP cT : ClassId} (V T : Nat → Nat → Int32) (ag : Nat → Int32) (nP nH rN : Nat) (nf pn : Int32) (sp sk : Int64) (py pd : Nat → Nat → Int32) (so en : Nat → Int32) (rA rC rI aA aC aH aT aP : Int32) (x v dy : Int32) (hti : tys[0]? = some (cI, .int)) (htz : tys[1]? = some (cZ, .boolean)) (hth : tys[2]? = some (cH, .object RX1)) (htp : tys[3]? = some (cP, .object RX2)) (htt : tys[4]? = some (cT, .object RX4)) (htj : tys[5]? = some (cJ, .long)) (htf : tys[6]? = some (cF, .double)) (hInv : Inv V T ag nP nH rN so pd)  (sz : Nat) : Met l yL_setIncome (Cond.codeWith yL_setIncome cL_setIncome 6 (some .int) [(0, 12, 15, 25), (0, 12, 19, 13)] :: wsL_law) (rmk 7 8 48) (va_Pc [.ref (ad 0), .int x, .int v, .int dy, .ref (ad 109)] (PN D tys ad 110 (hE cJ (cE cI cZ cH cP cT ad V T ag nP nH rN nf pn sp sk py pd so en rA rC rI aA aC aH aT aP) o) sz)) (Qi D ad 110 (fun r E1 => r = kSet nP x v dy ∧ ∃ Ec o1, E1 = hE cJ Ec o1 ∧ ((kSet nP x v dy = 0 ∧ o1 0 = (V (8 + ix x) (ix dy)).toInt64 ∧ CW cI cZ cH cP cT ad (upd2 V (8 + ix x) (tellV (V (8 + ix x)) (T (8 + ix x)) (ix dy) v)) (upd2 T (8 + ix x) (upd (T (8 + ix x)) (ix dy) 1)) ag nP nH rN (if T (8 + ix x) (ix dy) = 0 then nf + 1 else nf) pn sp sk py pd Ec) ∨ (¬ kSet nP x v dy = 0 ∧ CW cI cZ cH cP cT ad V T ag nP nH rN nf pn sp sk py pd Ec))) (cA ad 110 sz)) 8 48 (cA ad 110 sz) := by
  refine ch_of (own := RL) (Qc := Qi D ad 110 (fun r E1 => r = kSet nP x v dy ∧ ∃ Ec o1, E1 = hE cJ Ec o1 ∧ ((kSet nP x v dy = 0 ∧ o1 0 = (V (8 + ix x) (ix dy)).toInt64 ∧ CW cI cZ cH cP cT ad (upd2 V (8 + ix x) (tellV (V (8 + ix x)) (T (8 + ix x)) (ix dy) v)) (upd2 T (8 + ix x) (upd (T (8 + ix x)) (ix dy) 1)) ag nP nH rN (if T (8 + ix x) (ix dy) = 0 then nf + 1 else nf) pn sp sk py pd Ec) ∨ (¬ kSet nP x v dy = 0 ∧ CW cI cZ cH cP cT ad V T ag nP nH rN nf pn sp sk py pd Ec)))) rfl (by decide +kernel) (Nat.le_of_ble_eq_true rfl) ?_ sz
  intro p e s m args below meth c ls Q B hT hX hN hW hr hlk htab hl hS hA hQ
  have hx := B.1
  have hb := B.2.1
  have hl : lv_has ls 6 [(0, .ref (ad 0)), (1, .int x), (2, .int v), (3, .int dy), (4, .ref (ad 109))] := hl
  refine lv_aload hx hb dL_setIncome_0 (lv_at hl 4 rfl) ?_
  refine lv_iconst (v := 0) hx hb dL_setIncome_2 (by decide) ?_
  refine lv_aload_n hx hb dL_setIncome_3 rfl (lv_at hl 0 rfl) ?_
  refine lv_iload_n hx hb dL_setIncome_4 rfl (lv_at hl 1 rfl) ?_
  refine lv_iload_n hx hb dL_setIncome_5 rfl (lv_at hl 2 rfl) ?_
  refine lv_iload_n hx hb dL_setIncome_6 rfl (lv_at hl 3 rfl) ?_
  refine y_xci (y_xrunV (ad' := ad) (σ := fun k => k) (n9 := 109) (E' := cE cI cZ cH cP cT ad V T ag nP nH rN nf pn sp sk py pd so en rA rC rI aA aC aH aT aP) (k := 0) B hT hX hW hS (fun k h => Nat.lt_of_lt_of_le h (by decide)) (fun _ _ => rfl) (fun k h => if_pos h) (As := [.int x, .int v, .int dy]) (rest := [.int 0, .ref (ad 109)]) (fun sz => mt_setIncome hlf (fun i j hi hj => hI i j (by omega) (by omega)) V T ag nP nH rN nf pn sp sk py pd so en rA rC rI aA aC aH aT aP x v dy hti htz hth htp htt hInv sz) (cwL_27 B.2.2.2.2.1 ⟨Nat.le_of_ble_eq_true rfl, Nat.le_of_ble_eq_true rfl⟩) (b_recv B (hW.subw (n := 109) (σ := fun k => k) (fun k h => Nat.lt_of_lt_of_le h (by decide)) (fun _ _ => rfl) (fun k h => if_pos h)) (by decide) cE_0 rfl) rfl hl.1 (Nat.le_of_ble_eq_true rfl) dL_setIncome_7 ⟨Nat.le_of_ble_eq_true rfl, Nat.le_of_ble_eq_true rfl⟩) hI hW hS (fun k h => Nat.lt_of_lt_of_le h (by decide)) (fun _ _ => rfl) (fun E1 => hE cJ E1 o) (fun E1 k h => if_pos h) h_out (fun Ex ce q9 E1 H locs hx9 hW hS hce hcv hcl => ?_) (fun r E1 H locs hp hW hS => ?_)
  · obtain ⟨hx9, hC⟩ := hx9
    rcases hx9 with ⟨rfl, hk⟩ | ⟨rfl, hk⟩
    · skip
      refine h_catch B hT hN htab (pre := []) (suf := [(0, 12, 19, 13)]) (a := 0) (b := 12) (h := 15) (ct := 25) rfl (fun z hz => nomatch hz) (by decide) (by decide) (r7_in _ (List.mem_of_getElem? (i := 23) rfl)) (List.mem_of_getElem? (i := 25) rfl) hce hcv hcl ?_
      refine lv_astore (lv' := [(5, .ref q9), (0, .ref (ad 0)), (1, .int x), (2, .int v), (3, .int dy), (4, .ref (ad 109))]) hx hb dL_setIncome_15 hl (by decide) rfl (fun ls hl => ?_)
      refine lv_iconst (v := 1) hx hb dL_setIncome_17 (by decide) ?_
      exact e_i hQ B hr hlk hS hW dL_setIncome_18 (Nat.le_of_ble_eq_true rfl) (Nat.le_of_ble_eq_true rfl) (⟨hk.symm, _, _, rfl, Or.inr ⟨by rw [hk]; decide, hC⟩⟩)
    · skip
      refine h_catch B hT hN htab (pre := [(0, 12, 15, 25)]) (suf := []) (a := 0) (b := 12) (h := 19) (ct := 13) rfl (List.forall_mem_cons.mpr ⟨⟨by decide, "java/lang/IndexOutOfBoundsException", (r7_in _ (List.mem_of_getElem? (i := 23) rfl)), List.mem_of_getElem? (i := 1) rfl⟩, (fun z hz => nomatch hz)⟩) (by decide) (by decide) (r6_in _ (List.mem_of_getElem? (i := 0) rfl)) (List.mem_of_getElem? (i := 24) rfl) hce hcv hcl ?_
      refine lv_astore (lv' := [(5, .ref q9), (0, .ref (ad 0)), (1, .int x), (2, .int v), (3, .int dy), (4, .ref (ad 109))]) hx hb dL_setIncome_19 hl (by decide) rfl (fun ls hl => ?_)
      refine lv_iconst (v := 2) hx hb dL_setIncome_21 (by decide) ?_
      exact e_i hQ B hr hlk hS hW dL_setIncome_22 (Nat.le_of_ble_eq_true rfl) (Nat.le_of_ble_eq_true rfl) (⟨hk.symm, _, _, rfl, Or.inr ⟨by rw [hk]; decide, hC⟩⟩)
  · skip
    refine lv_i2l hx hb dL_setIncome_10 rfl ?_
    refine b_last B hI hA hW hS htj (j := 0) (by decide) rfl in_01 rfl dL_setIncome_11 (fun H locs hW hS => ?_)
    have hW := hE_w hW
    refine lv_goto (tgt := 23) hx hb dL_setIncome_12 (by decide) ?_
    refine lv_iconst (v := 0) hx hb dL_setIncome_23 (by decide) ?_
    exact e_i hQ B hr hlk hS hW dL_setIncome_24 (Nat.le_of_ble_eq_true rfl) (Nat.le_of_ble_eq_true rfl) (⟨hp.1.1.symm, _, _, rfl, Or.inl ⟨hp.1.1, by rw [updL_0, hp.1.2], hp.2⟩⟩)
set_option maxHeartbeats 4000000 in
set_option maxRecDepth 100000 in
theorem lh_setRent {l : Launch} (hlf : l.stackTraces = false) {D : va_G} {tys : List (ClassId × FieldType)} {ad : Nat → Nat} (hI : aI ad 110) {cJ cF : ClassId} (o : Nat → Int64) {cI cZ cH cP cT : ClassId} (V T : Nat → Nat → Int32) (ag : Nat → Int32) (nP nH rN : Nat) (nf pn : Int32) (sp sk : Int64) (py pd : Nat → Nat → Int32) (so en : Nat → Int32) (rA rC rI aA aC aH aT aP : Int32) (x v dy : Int32) (hti : tys[0]? = some (cI, .int)) (htz : tys[1]? = some (cZ, .boolean)) (hth : tys[2]? = some (cH, .object RX1)) (htp : tys[3]? = some (cP, .object RX2)) (htt : tys[4]? = some (cT, .object RX4)) (htj : tys[5]? = some (cJ, .long)) (htf : tys[6]? = some (cF, .double)) (hInv : Inv V T ag nP nH rN so pd)  (sz : Nat) : Met l yL_setRent (Cond.codeWith yL_setRent cL_setRent 6 (some .int) [(0, 12, 15, 25), (0, 12, 19, 13)] :: wsL_law) (rmk 7 8 48) (va_Pc [.ref (ad 0), .int x, .int v, .int dy, .ref (ad 109)] (PN D tys ad 110 (hE cJ (cE cI cZ cH cP cT ad V T ag nP nH rN nf pn sp sk py pd so en rA rC rI aA aC aH aT aP) o) sz)) (Qi D ad 110 (fun r E1 => r = kSet nH x v dy ∧ ∃ Ec o1, E1 = hE cJ Ec o1 ∧ ((kSet nH x v dy = 0 ∧ o1 0 = (V (16 + ix x) (ix dy)).toInt64 ∧ CW cI cZ cH cP cT ad (upd2 V (16 + ix x) (tellV (V (16 + ix x)) (T (16 + ix x)) (ix dy) v)) (upd2 T (16 + ix x) (upd (T (16 + ix x)) (ix dy) 1)) ag nP nH rN (if T (16 + ix x) (ix dy) = 0 then nf + 1 else nf) pn sp sk py pd Ec) ∨ (¬ kSet nH x v dy = 0 ∧ CW cI cZ cH cP cT ad V T ag nP nH rN nf pn sp sk py pd Ec))) (cA ad 110 sz)) 8 48 (cA ad 110 sz) := by
  refine ch_of (own := RL) (Qc := Qi D ad 110 (fun r E1 => r = kSet nH x v dy ∧ ∃ Ec o1, E1 = hE cJ Ec o1 ∧ ((kSet nH x v dy = 0 ∧ o1 0 = (V (16 + ix x) (ix dy)).toInt64 ∧ CW cI cZ cH cP cT ad (upd2 V (16 + ix x) (tellV (V (16 + ix x)) (T (16 + ix x)) (ix dy) v)) (upd2 T (16 + ix x) (upd (T (16 + ix x)) (ix dy) 1)) ag nP nH rN (if T (16 + ix x) (ix dy) = 0 then nf + 1 else nf) pn sp sk py pd Ec) ∨ (¬ kSet nH x v dy = 0 ∧ CW cI cZ cH cP cT ad V T ag nP nH rN nf pn sp sk py pd Ec)))) rfl (by decide +kernel) (Nat.le_of_ble_eq_true rfl) ?_ sz
  intro p e s m args below meth c ls Q B hT hX hN hW hr hlk htab hl hS hA hQ
  have hx := B.1
  have hb := B.2.1
  have hl : lv_has ls 6 [(0, .ref (ad 0)), (1, .int x), (2, .int v), (3, .int dy), (4, .ref (ad 109))] := hl
  refine lv_aload hx hb dL_setRent_0 (lv_at hl 4 rfl) ?_
  refine lv_iconst (v := 0) hx hb dL_setRent_2 (by decide) ?_
  refine lv_aload_n hx hb dL_setRent_3 rfl (lv_at hl 0 rfl) ?_
  refine lv_iload_n hx hb dL_setRent_4 rfl (lv_at hl 1 rfl) ?_
  refine lv_iload_n hx hb dL_setRent_5 rfl (lv_at hl 2 rfl) ?_
  refine lv_iload_n hx hb dL_setRent_6 rfl (lv_at hl 3 rfl) ?_
  refine y_xci (y_xrunV (ad' := ad) (σ := fun k => k) (n9 := 109) (E' := cE cI cZ cH cP cT ad V T ag nP nH rN nf pn sp sk py pd so en rA rC rI aA aC aH aT aP) (k := 0) B hT hX hW hS (fun k h => Nat.lt_of_lt_of_le h (by decide)) (fun _ _ => rfl) (fun k h => if_pos h) (As := [.int x, .int v, .int dy]) (rest := [.int 0, .ref (ad 109)]) (fun sz => mt_setRent hlf (fun i j hi hj => hI i j (by omega) (by omega)) V T ag nP nH rN nf pn sp sk py pd so en rA rC rI aA aC aH aT aP x v dy hti htz hth htp htt hInv sz) (cwL_30 B.2.2.2.2.1 ⟨Nat.le_of_ble_eq_true rfl, Nat.le_of_ble_eq_true rfl⟩) (b_recv B (hW.subw (n := 109) (σ := fun k => k) (fun k h => Nat.lt_of_lt_of_le h (by decide)) (fun _ _ => rfl) (fun k h => if_pos h)) (by decide) cE_0 rfl) rfl hl.1 (Nat.le_of_ble_eq_true rfl) dL_setRent_7 ⟨Nat.le_of_ble_eq_true rfl, Nat.le_of_ble_eq_true rfl⟩) hI hW hS (fun k h => Nat.lt_of_lt_of_le h (by decide)) (fun _ _ => rfl) (fun E1 => hE cJ E1 o) (fun E1 k h => if_pos h) h_out (fun Ex ce q9 E1 H locs hx9 hW hS hce hcv hcl => ?_) (fun r E1 H locs hp hW hS => ?_)
  · obtain ⟨hx9, hC⟩ := hx9
    rcases hx9 with ⟨rfl, hk⟩ | ⟨rfl, hk⟩
    · skip
      refine h_catch B hT hN htab (pre := []) (suf := [(0, 12, 19, 13)]) (a := 0) (b := 12) (h := 15) (ct := 25) rfl (fun z hz => nomatch hz) (by decide) (by decide) (r7_in _ (List.mem_of_getElem? (i := 23) rfl)) (List.mem_of_getElem? (i := 25) rfl) hce hcv hcl ?_
      refine lv_astore (lv' := [(5, .ref q9), (0, .ref (ad 0)), (1, .int x), (2, .int v), (3, .int dy), (4, .ref (ad 109))]) hx hb dL_setRent_15 hl (by decide) rfl (fun ls hl => ?_)
      refine lv_iconst (v := 1) hx hb dL_setRent_17 (by decide) ?_
      exact e_i hQ B hr hlk hS hW dL_setRent_18 (Nat.le_of_ble_eq_true rfl) (Nat.le_of_ble_eq_true rfl) (⟨hk.symm, _, _, rfl, Or.inr ⟨by rw [hk]; decide, hC⟩⟩)
    · skip
      refine h_catch B hT hN htab (pre := [(0, 12, 15, 25)]) (suf := []) (a := 0) (b := 12) (h := 19) (ct := 13) rfl (List.forall_mem_cons.mpr ⟨⟨by decide, "java/lang/IndexOutOfBoundsException", (r7_in _ (List.mem_of_getElem? (i := 23) rfl)), List.mem_of_getElem? (i := 1) rfl⟩, (fun z hz => nomatch hz)⟩) (by decide) (by decide) (r6_in _ (List.mem_of_getElem? (i := 0) rfl)) (List.mem_of_getElem? (i := 24) rfl) hce hcv hcl ?_
      refine lv_astore (lv' := [(5, .ref q9), (0, .ref (ad 0)), (1, .int x), (2, .int v), (3, .int dy), (4, .ref (ad 109))]) hx hb dL_setRent_19 hl (by decide) rfl (fun ls hl => ?_)
      refine lv_iconst (v := 2) hx hb dL_setRent_21 (by decide) ?_
      exact e_i hQ B hr hlk hS hW dL_setRent_22 (Nat.le_of_ble_eq_true rfl) (Nat.le_of_ble_eq_true rfl) (⟨hk.symm, _, _, rfl, Or.inr ⟨by rw [hk]; decide, hC⟩⟩)
  · skip
    refine lv_i2l hx hb dL_setRent_10 rfl ?_
    refine b_last B hI hA hW hS htj (j := 0) (by decide) rfl in_01 rfl dL_setRent_11 (fun H locs hW hS => ?_)
    have hW := hE_w hW
    refine lv_goto (tgt := 23) hx hb dL_setRent_12 (by decide) ?_
    refine lv_iconst (v := 0) hx hb dL_setRent_23 (by decide) ?_
    exact e_i hQ B hr hlk hS hW dL_setRent_24 (Nat.le_of_ble_eq_true rfl) (Nat.le_of_ble_eq_true rfl) (⟨hp.1.1.symm, _, _, rfl, Or.inl ⟨hp.1.1, by rw [updL_0, hp.1.2], hp.2⟩⟩)
set_option maxHeartbeats 4000000 in
set_option maxRecDepth 100000 in
theorem lh_setRule {l : Launch} (hlf : l.stackTraces = false) {D : va_G} {tys : List (ClassId × FieldType)} {ad : Nat → Nat} (hI : aI ad 110) {cJ cF : ClassId} (o : Nat → Int64) {cI cZ cH cP cT : ClassId} (V T : Nat → Nat → Int32) (ag : Nat → Int32) (nP nH rN : Nat) (nf pn : Int32) (sp sk : Int64) (py pd : Nat → Nat → Int32) (so en : Nat → Int32) (rA rC rI aA aC aH aT aP : Int32) (x v dy : Int32) (hti : tys[0]? = some (cI, .int)) (htz : tys[1]? = some (cZ, .boolean)) (hth : tys[2]? = some (cH, .object RX1)) (htp : tys[3]? = some (cP, .object RX2)) (htt : tys[4]? = some (cT, .object RX4)) (htj : tys[5]? = some (cJ, .long)) (htf : tys[6]? = some (cF, .double)) (hInv : Inv V T ag nP nH rN so pd)  (sz : Nat) : Met l yL_setRule (Cond.codeWith yL_setRule cL_setRule 6 (some .int) [(0, 12, 15, 37), (0, 12, 19, 13)] :: wsL_law) (rmk 7 8 48) (va_Pc [.ref (ad 0), .int x, .int v, .int dy, .ref (ad 109)] (PN D tys ad 110 (hE cJ (cE cI cZ cH cP cT ad V T ag nP nH rN nf pn sp sk py pd so en rA rC rI aA aC aH aT aP) o) sz)) (Qi D ad 110 (fun r E1 => r = kRule x v dy ∧ ∃ Ec o1, E1 = hE cJ Ec o1 ∧ ((kRule x v dy = 0 ∧ o1 0 = (V (20 + rIx x) (ix dy)).toInt64 ∧ CW cI cZ cH cP cT ad (upd2 V (20 + rIx x) (tellV (V (20 + rIx x)) (T (20 + rIx x)) (ix dy) v)) (upd2 T (20 + rIx x) (upd (T (20 + rIx x)) (ix dy) 1)) ag nP nH rN (if T (20 + rIx x) (ix dy) = 0 then nf + 1 else nf) pn sp sk py pd Ec) ∨ (¬ kRule x v dy = 0 ∧ CW cI cZ cH cP cT ad V T ag nP nH rN nf pn sp sk py pd Ec))) (cA ad 110 sz)) 8 48 (cA ad 110 sz) := by
  refine ch_of (own := RL) (Qc := Qi D ad 110 (fun r E1 => r = kRule x v dy ∧ ∃ Ec o1, E1 = hE cJ Ec o1 ∧ ((kRule x v dy = 0 ∧ o1 0 = (V (20 + rIx x) (ix dy)).toInt64 ∧ CW cI cZ cH cP cT ad (upd2 V (20 + rIx x) (tellV (V (20 + rIx x)) (T (20 + rIx x)) (ix dy) v)) (upd2 T (20 + rIx x) (upd (T (20 + rIx x)) (ix dy) 1)) ag nP nH rN (if T (20 + rIx x) (ix dy) = 0 then nf + 1 else nf) pn sp sk py pd Ec) ∨ (¬ kRule x v dy = 0 ∧ CW cI cZ cH cP cT ad V T ag nP nH rN nf pn sp sk py pd Ec)))) rfl (by decide +kernel) (Nat.le_of_ble_eq_true rfl) ?_ sz
  intro p e s m args below meth c ls Q B hT hX hN hW hr hlk htab hl hS hA hQ
  have hx := B.1
  have hb := B.2.1
  have hl : lv_has ls 6 [(0, .ref (ad 0)), (1, .int x), (2, .int v), (3, .int dy), (4, .ref (ad 109))] := hl
  refine lv_aload hx hb dL_setRule_0 (lv_at hl 4 rfl) ?_
  refine lv_iconst (v := 0) hx hb dL_setRule_2 (by decide) ?_
  refine lv_aload_n hx hb dL_setRule_3 rfl (lv_at hl 0 rfl) ?_
  refine lv_iload_n hx hb dL_setRule_4 rfl (lv_at hl 1 rfl) ?_
  refine lv_iload_n hx hb dL_setRule_5 rfl (lv_at hl 2 rfl) ?_
  refine lv_iload_n hx hb dL_setRule_6 rfl (lv_at hl 3 rfl) ?_
  refine y_xci (y_xrunV (ad' := ad) (σ := fun k => k) (n9 := 109) (E' := cE cI cZ cH cP cT ad V T ag nP nH rN nf pn sp sk py pd so en rA rC rI aA aC aH aT aP) (k := 0) B hT hX hW hS (fun k h => Nat.lt_of_lt_of_le h (by decide)) (fun _ _ => rfl) (fun k h => if_pos h) (As := [.int x, .int v, .int dy]) (rest := [.int 0, .ref (ad 109)]) (fun sz => mt_setRule hlf (fun i j hi hj => hI i j (by omega) (by omega)) V T ag nP nH rN nf pn sp sk py pd so en rA rC rI aA aC aH aT aP x v dy hti htz hth htp htt hInv sz) (cwL_33 B.2.2.2.2.1 ⟨Nat.le_of_ble_eq_true rfl, Nat.le_of_ble_eq_true rfl⟩) (b_recv B (hW.subw (n := 109) (σ := fun k => k) (fun k h => Nat.lt_of_lt_of_le h (by decide)) (fun _ _ => rfl) (fun k h => if_pos h)) (by decide) cE_0 rfl) rfl hl.1 (Nat.le_of_ble_eq_true rfl) dL_setRule_7 ⟨Nat.le_of_ble_eq_true rfl, Nat.le_of_ble_eq_true rfl⟩) hI hW hS (fun k h => Nat.lt_of_lt_of_le h (by decide)) (fun _ _ => rfl) (fun E1 => hE cJ E1 o) (fun E1 k h => if_pos h) h_out (fun Ex ce q9 E1 H locs hx9 hW hS hce hcv hcl => ?_) (fun r E1 H locs hp hW hS => ?_)
  · obtain ⟨hx9, hC⟩ := hx9
    rcases hx9 with ⟨rfl, hk⟩ | ⟨rfl, hk⟩
    · skip
      refine h_catch B hT hN htab (pre := []) (suf := [(0, 12, 19, 13)]) (a := 0) (b := 12) (h := 15) (ct := 37) rfl (fun z hz => nomatch hz) (by decide) (by decide) (r10_in _ (List.mem_of_getElem? (i := 20) rfl)) (List.mem_of_getElem? (i := 26) rfl) hce hcv hcl ?_
      refine lv_astore (lv' := [(5, .ref q9), (0, .ref (ad 0)), (1, .int x), (2, .int v), (3, .int dy), (4, .ref (ad 109))]) hx hb dL_setRule_15 hl (by decide) rfl (fun ls hl => ?_)
      refine lv_iconst (v := 1) hx hb dL_setRule_17 (by decide) ?_
      exact e_i hQ B hr hlk hS hW dL_setRule_18 (Nat.le_of_ble_eq_true rfl) (Nat.le_of_ble_eq_true rfl) (⟨hk.symm, _, _, rfl, Or.inr ⟨by rw [hk]; decide, hC⟩⟩)
    · skip
      refine h_catch B hT hN htab (pre := [(0, 12, 15, 37)]) (suf := []) (a := 0) (b := 12) (h := 19) (ct := 13) rfl (List.forall_mem_cons.mpr ⟨⟨by decide, "java/util/NoSuchElementException", (r10_in _ (List.mem_of_getElem? (i := 20) rfl)), List.mem_of_getElem? (i := 2) rfl⟩, (fun z hz => nomatch hz)⟩) (by decide) (by decide) (r6_in _ (List.mem_of_getElem? (i := 0) rfl)) (List.mem_of_getElem? (i := 24) rfl) hce hcv hcl ?_
      refine lv_astore (lv' := [(5, .ref q9), (0, .ref (ad 0)), (1, .int x), (2, .int v), (3, .int dy), (4, .ref (ad 109))]) hx hb dL_setRule_19 hl (by decide) rfl (fun ls hl => ?_)
      refine lv_iconst (v := 2) hx hb dL_setRule_21 (by decide) ?_
      exact e_i hQ B hr hlk hS hW dL_setRule_22 (Nat.le_of_ble_eq_true rfl) (Nat.le_of_ble_eq_true rfl) (⟨hk.symm, _, _, rfl, Or.inr ⟨by rw [hk]; decide, hC⟩⟩)
  · skip
    refine lv_i2l hx hb dL_setRule_10 rfl ?_
    refine b_last B hI hA hW hS htj (j := 0) (by decide) rfl in_01 rfl dL_setRule_11 (fun H locs hW hS => ?_)
    have hW := hE_w hW
    refine lv_goto (tgt := 23) hx hb dL_setRule_12 (by decide) ?_
    refine lv_iconst (v := 0) hx hb dL_setRule_23 (by decide) ?_
    exact e_i hQ B hr hlk hS hW dL_setRule_24 (Nat.le_of_ble_eq_true rfl) (Nat.le_of_ble_eq_true rfl) (⟨hp.1.1.symm, _, _, rfl, Or.inl ⟨hp.1.1, by rw [updL_0, hp.1.2], hp.2⟩⟩)
set_option maxHeartbeats 4000000 in
set_option maxRecDepth 100000 in
theorem lh_takeBackMove {l : Launch} (hlf : l.stackTraces = false) {D : va_G} {tys : List (ClassId × FieldType)} {ad : Nat → Nat} (hI : aI ad 110) {cJ cF : ClassId} (o : Nat → Int64) {cI cZ cH cP cT : ClassId} (V T : Nat → Nat → Int32) (ag : Nat → Int32) (nP nH rN : Nat) (nf pn : Int32) (sp sk : Int64) (py pd : Nat → Nat → Int32) (so en : Nat → Int32) (rA rC rI aA aC aH aT aP : Int32) (x dy : Int32) (hti : tys[0]? = some (cI, .int)) (htz : tys[1]? = some (cZ, .boolean)) (hth : tys[2]? = some (cH, .object RX1)) (htp : tys[3]? = some (cP, .object RX2)) (htt : tys[4]? = some (cT, .object RX4)) (htj : tys[5]? = some (cJ, .long)) (htf : tys[6]? = some (cF, .double)) (hInv : Inv V T ag nP nH rN so pd)  (sz : Nat) : Met l yL_takeBackMove (Cond.codeWith yL_takeBackMove cL_takeBackMove 5 (some .int) [(0, 10, 13, 25), (0, 10, 17, 37)] :: wsL_law) (rmk 7 8 48) (va_Pc [.ref (ad 0), .int x, .int dy, .ref (ad 109)] (PN D tys ad 110 (hE cJ (cE cI cZ cH cP cT ad V T ag nP nH rN nf pn sp sk py pd so en rA rC rI aA aC aH aT aP) o) sz)) (Qi D ad 110 (fun r E1 => r = kTake T 0 nP x dy ∧ ∃ Ec o1, E1 = hE cJ Ec o1 ∧ ((kTake T 0 nP x dy = 0 ∧ o1 0 = (V (0 + ix x) (ix dy)).toInt64 ∧ CW cI cZ cH cP cT ad (upd2 V (0 + ix x) (takeV (V (0 + ix x)) (T (0 + ix x)) (ix dy) (w0 (0 + ix x)))) (upd2 T (0 + ix x) (upd (T (0 + ix x)) (ix dy) 0)) ag nP nH rN (nf - 1) pn sp sk py pd Ec) ∨ (¬ kTake T 0 nP x dy = 0 ∧ CW cI cZ cH cP cT ad V T ag nP nH rN nf pn sp sk py pd Ec))) (cA ad 110 sz)) 8 48 (cA ad 110 sz) := by
  refine ch_of (own := RL) (Qc := Qi D ad 110 (fun r E1 => r = kTake T 0 nP x dy ∧ ∃ Ec o1, E1 = hE cJ Ec o1 ∧ ((kTake T 0 nP x dy = 0 ∧ o1 0 = (V (0 + ix x) (ix dy)).toInt64 ∧ CW cI cZ cH cP cT ad (upd2 V (0 + ix x) (takeV (V (0 + ix x)) (T (0 + ix x)) (ix dy) (w0 (0 + ix x)))) (upd2 T (0 + ix x) (upd (T (0 + ix x)) (ix dy) 0)) ag nP nH rN (nf - 1) pn sp sk py pd Ec) ∨ (¬ kTake T 0 nP x dy = 0 ∧ CW cI cZ cH cP cT ad V T ag nP nH rN nf pn sp sk py pd Ec)))) rfl (by decide +kernel) (Nat.le_of_ble_eq_true rfl) ?_ sz
  intro p e s m args below meth c ls Q B hT hX hN hW hr hlk htab hl hS hA hQ
  have hx := B.1
  have hb := B.2.1
  have hl : lv_has ls 5 [(0, .ref (ad 0)), (1, .int x), (2, .int dy), (3, .ref (ad 109))] := hl
  refine lv_aload_n hx hb dL_takeBackMove_0 rfl (lv_at hl 3 rfl) ?_
  refine lv_iconst (v := 0) hx hb dL_takeBackMove_1 (by decide) ?_
  refine lv_aload_n hx hb dL_takeBackMove_2 rfl (lv_at hl 0 rfl) ?_
  refine lv_iload_n hx hb dL_takeBackMove_3 rfl (lv_at hl 1 rfl) ?_
  refine lv_iload_n hx hb dL_takeBackMove_4 rfl (lv_at hl 2 rfl) ?_
  refine y_xci (y_xrunV (ad' := ad) (σ := fun k => k) (n9 := 109) (E' := cE cI cZ cH cP cT ad V T ag nP nH rN nf pn sp sk py pd so en rA rC rI aA aC aH aT aP) (k := 0) B hT hX hW hS (fun k h => Nat.lt_of_lt_of_le h (by decide)) (fun _ _ => rfl) (fun k h => if_pos h) (As := [.int x, .int dy]) (rest := [.int 0, .ref (ad 109)]) (fun sz => mt_takeBackMove hlf (fun i j hi hj => hI i j (by omega) (by omega)) V T ag nP nH rN nf pn sp sk py pd so en rA rC rI aA aC aH aT aP x dy hti htz hth htp htt hInv sz) (cwL_39 B.2.2.2.2.1 ⟨Nat.le_of_ble_eq_true rfl, Nat.le_of_ble_eq_true rfl⟩) (b_recv B (hW.subw (n := 109) (σ := fun k => k) (fun k h => Nat.lt_of_lt_of_le h (by decide)) (fun _ _ => rfl) (fun k h => if_pos h)) (by decide) cE_0 rfl) rfl hl.1 (Nat.le_of_ble_eq_true rfl) dL_takeBackMove_5 ⟨Nat.le_of_ble_eq_true rfl, Nat.le_of_ble_eq_true rfl⟩) hI hW hS (fun k h => Nat.lt_of_lt_of_le h (by decide)) (fun _ _ => rfl) (fun E1 => hE cJ E1 o) (fun E1 k h => if_pos h) h_out (fun Ex ce q9 E1 H locs hx9 hW hS hce hcv hcl => ?_) (fun r E1 H locs hp hW hS => ?_)
  · obtain ⟨hx9, hC⟩ := hx9
    rcases hx9 with ⟨rfl, hk⟩ | ⟨rfl, hk⟩
    · skip
      refine h_catch B hT hN htab (pre := []) (suf := [(0, 10, 17, 37)]) (a := 0) (b := 10) (h := 13) (ct := 25) rfl (fun z hz => nomatch hz) (by decide) (by decide) (r7_in _ (List.mem_of_getElem? (i := 23) rfl)) (List.mem_of_getElem? (i := 25) rfl) hce hcv hcl ?_
      refine lv_astore (lv' := [(4, .ref q9), (0, .ref (ad 0)), (1, .int x), (2, .int dy), (3, .ref (ad 109))]) hx hb dL_takeBackMove_13 hl (by decide) rfl (fun ls hl => ?_)
      refine lv_iconst (v := 1) hx hb dL_takeBackMove_15 (by decide) ?_
      exact e_i hQ B hr hlk hS hW dL_takeBackMove_16 (Nat.le_of_ble_eq_true rfl) (Nat.le_of_ble_eq_true rfl) (⟨hk.symm, _, _, rfl, Or.inr ⟨by rw [hk]; decide, hC⟩⟩)
    · skip
      refine h_catch B hT hN htab (pre := [(0, 10, 13, 25)]) (suf := []) (a := 0) (b := 10) (h := 17) (ct := 37) rfl (List.forall_mem_cons.mpr ⟨⟨by decide, "java/lang/IndexOutOfBoundsException", (r7_in _ (List.mem_of_getElem? (i := 23) rfl)), List.mem_of_getElem? (i := 3) rfl⟩, (fun z hz => nomatch hz)⟩) (by decide) (by decide) (r10_in _ (List.mem_of_getElem? (i := 20) rfl)) (List.mem_of_getElem? (i := 26) rfl) hce hcv hcl ?_
      refine lv_astore (lv' := [(4, .ref q9), (0, .ref (ad 0)), (1, .int x), (2, .int dy), (3, .ref (ad 109))]) hx hb dL_takeBackMove_17 hl (by decide) rfl (fun ls hl => ?_)
      refine lv_iconst (v := 2) hx hb dL_takeBackMove_19 (by decide) ?_
      exact e_i hQ B hr hlk hS hW dL_takeBackMove_20 (Nat.le_of_ble_eq_true rfl) (Nat.le_of_ble_eq_true rfl) (⟨hk.symm, _, _, rfl, Or.inr ⟨by rw [hk]; decide, hC⟩⟩)
  · skip
    refine lv_i2l hx hb dL_takeBackMove_8 rfl ?_
    refine b_last B hI hA hW hS htj (j := 0) (by decide) rfl in_01 rfl dL_takeBackMove_9 (fun H locs hW hS => ?_)
    have hW := hE_w hW
    refine lv_goto (tgt := 21) hx hb dL_takeBackMove_10 (by decide) ?_
    refine lv_iconst (v := 0) hx hb dL_takeBackMove_21 (by decide) ?_
    exact e_i hQ B hr hlk hS hW dL_takeBackMove_22 (Nat.le_of_ble_eq_true rfl) (Nat.le_of_ble_eq_true rfl) (⟨hp.1.1.symm, _, _, rfl, Or.inl ⟨hp.1.1, by rw [updL_0, hp.1.2], hp.2⟩⟩)
set_option maxHeartbeats 4000000 in
set_option maxRecDepth 100000 in
theorem lh_takeBackIncome {l : Launch} (hlf : l.stackTraces = false) {D : va_G} {tys : List (ClassId × FieldType)} {ad : Nat → Nat} (hI : aI ad 110) {cJ cF : ClassId} (o : Nat → Int64) {cI cZ cH cP cT : ClassId} (V T : Nat → Nat → Int32) (ag : Nat → Int32) (nP nH rN : Nat) (nf pn : Int32) (sp sk : Int64) (py pd : Nat → Nat → Int32) (so en : Nat → Int32) (rA rC rI aA aC aH aT aP : Int32) (x dy : Int32) (hti : tys[0]? = some (cI, .int)) (htz : tys[1]? = some (cZ, .boolean)) (hth : tys[2]? = some (cH, .object RX1)) (htp : tys[3]? = some (cP, .object RX2)) (htt : tys[4]? = some (cT, .object RX4)) (htj : tys[5]? = some (cJ, .long)) (htf : tys[6]? = some (cF, .double)) (hInv : Inv V T ag nP nH rN so pd)  (sz : Nat) : Met l yL_takeBackIncome (Cond.codeWith yL_takeBackIncome cL_takeBackIncome 5 (some .int) [(0, 10, 13, 25), (0, 10, 17, 37)] :: wsL_law) (rmk 7 8 48) (va_Pc [.ref (ad 0), .int x, .int dy, .ref (ad 109)] (PN D tys ad 110 (hE cJ (cE cI cZ cH cP cT ad V T ag nP nH rN nf pn sp sk py pd so en rA rC rI aA aC aH aT aP) o) sz)) (Qi D ad 110 (fun r E1 => r = kTake T 8 nP x dy ∧ ∃ Ec o1, E1 = hE cJ Ec o1 ∧ ((kTake T 8 nP x dy = 0 ∧ o1 0 = (V (8 + ix x) (ix dy)).toInt64 ∧ CW cI cZ cH cP cT ad (upd2 V (8 + ix x) (takeV (V (8 + ix x)) (T (8 + ix x)) (ix dy) (w0 (8 + ix x)))) (upd2 T (8 + ix x) (upd (T (8 + ix x)) (ix dy) 0)) ag nP nH rN (nf - 1) pn sp sk py pd Ec) ∨ (¬ kTake T 8 nP x dy = 0 ∧ CW cI cZ cH cP cT ad V T ag nP nH rN nf pn sp sk py pd Ec))) (cA ad 110 sz)) 8 48 (cA ad 110 sz) := by
  refine ch_of (own := RL) (Qc := Qi D ad 110 (fun r E1 => r = kTake T 8 nP x dy ∧ ∃ Ec o1, E1 = hE cJ Ec o1 ∧ ((kTake T 8 nP x dy = 0 ∧ o1 0 = (V (8 + ix x) (ix dy)).toInt64 ∧ CW cI cZ cH cP cT ad (upd2 V (8 + ix x) (takeV (V (8 + ix x)) (T (8 + ix x)) (ix dy) (w0 (8 + ix x)))) (upd2 T (8 + ix x) (upd (T (8 + ix x)) (ix dy) 0)) ag nP nH rN (nf - 1) pn sp sk py pd Ec) ∨ (¬ kTake T 8 nP x dy = 0 ∧ CW cI cZ cH cP cT ad V T ag nP nH rN nf pn sp sk py pd Ec)))) rfl (by decide +kernel) (Nat.le_of_ble_eq_true rfl) ?_ sz
  intro p e s m args below meth c ls Q B hT hX hN hW hr hlk htab hl hS hA hQ
  have hx := B.1
  have hb := B.2.1
  have hl : lv_has ls 5 [(0, .ref (ad 0)), (1, .int x), (2, .int dy), (3, .ref (ad 109))] := hl
  refine lv_aload_n hx hb dL_takeBackIncome_0 rfl (lv_at hl 3 rfl) ?_
  refine lv_iconst (v := 0) hx hb dL_takeBackIncome_1 (by decide) ?_
  refine lv_aload_n hx hb dL_takeBackIncome_2 rfl (lv_at hl 0 rfl) ?_
  refine lv_iload_n hx hb dL_takeBackIncome_3 rfl (lv_at hl 1 rfl) ?_
  refine lv_iload_n hx hb dL_takeBackIncome_4 rfl (lv_at hl 2 rfl) ?_
  refine y_xci (y_xrunV (ad' := ad) (σ := fun k => k) (n9 := 109) (E' := cE cI cZ cH cP cT ad V T ag nP nH rN nf pn sp sk py pd so en rA rC rI aA aC aH aT aP) (k := 0) B hT hX hW hS (fun k h => Nat.lt_of_lt_of_le h (by decide)) (fun _ _ => rfl) (fun k h => if_pos h) (As := [.int x, .int dy]) (rest := [.int 0, .ref (ad 109)]) (fun sz => mt_takeBackIncome hlf (fun i j hi hj => hI i j (by omega) (by omega)) V T ag nP nH rN nf pn sp sk py pd so en rA rC rI aA aC aH aT aP x dy hti htz hth htp htt hInv sz) (cwL_43 B.2.2.2.2.1 ⟨Nat.le_of_ble_eq_true rfl, Nat.le_of_ble_eq_true rfl⟩) (b_recv B (hW.subw (n := 109) (σ := fun k => k) (fun k h => Nat.lt_of_lt_of_le h (by decide)) (fun _ _ => rfl) (fun k h => if_pos h)) (by decide) cE_0 rfl) rfl hl.1 (Nat.le_of_ble_eq_true rfl) dL_takeBackIncome_5 ⟨Nat.le_of_ble_eq_true rfl, Nat.le_of_ble_eq_true rfl⟩) hI hW hS (fun k h => Nat.lt_of_lt_of_le h (by decide)) (fun _ _ => rfl) (fun E1 => hE cJ E1 o) (fun E1 k h => if_pos h) h_out (fun Ex ce q9 E1 H locs hx9 hW hS hce hcv hcl => ?_) (fun r E1 H locs hp hW hS => ?_)
  · obtain ⟨hx9, hC⟩ := hx9
    rcases hx9 with ⟨rfl, hk⟩ | ⟨rfl, hk⟩
    · skip
      refine h_catch B hT hN htab (pre := []) (suf := [(0, 10, 17, 37)]) (a := 0) (b := 10) (h := 13) (ct := 25) rfl (fun z hz => nomatch hz) (by decide) (by decide) (r7_in _ (List.mem_of_getElem? (i := 23) rfl)) (List.mem_of_getElem? (i := 25) rfl) hce hcv hcl ?_
      refine lv_astore (lv' := [(4, .ref q9), (0, .ref (ad 0)), (1, .int x), (2, .int dy), (3, .ref (ad 109))]) hx hb dL_takeBackIncome_13 hl (by decide) rfl (fun ls hl => ?_)
      refine lv_iconst (v := 1) hx hb dL_takeBackIncome_15 (by decide) ?_
      exact e_i hQ B hr hlk hS hW dL_takeBackIncome_16 (Nat.le_of_ble_eq_true rfl) (Nat.le_of_ble_eq_true rfl) (⟨hk.symm, _, _, rfl, Or.inr ⟨by rw [hk]; decide, hC⟩⟩)
    · skip
      refine h_catch B hT hN htab (pre := [(0, 10, 13, 25)]) (suf := []) (a := 0) (b := 10) (h := 17) (ct := 37) rfl (List.forall_mem_cons.mpr ⟨⟨by decide, "java/lang/IndexOutOfBoundsException", (r7_in _ (List.mem_of_getElem? (i := 23) rfl)), List.mem_of_getElem? (i := 3) rfl⟩, (fun z hz => nomatch hz)⟩) (by decide) (by decide) (r10_in _ (List.mem_of_getElem? (i := 20) rfl)) (List.mem_of_getElem? (i := 26) rfl) hce hcv hcl ?_
      refine lv_astore (lv' := [(4, .ref q9), (0, .ref (ad 0)), (1, .int x), (2, .int dy), (3, .ref (ad 109))]) hx hb dL_takeBackIncome_17 hl (by decide) rfl (fun ls hl => ?_)
      refine lv_iconst (v := 2) hx hb dL_takeBackIncome_19 (by decide) ?_
      exact e_i hQ B hr hlk hS hW dL_takeBackIncome_20 (Nat.le_of_ble_eq_true rfl) (Nat.le_of_ble_eq_true rfl) (⟨hk.symm, _, _, rfl, Or.inr ⟨by rw [hk]; decide, hC⟩⟩)
  · skip
    refine lv_i2l hx hb dL_takeBackIncome_8 rfl ?_
    refine b_last B hI hA hW hS htj (j := 0) (by decide) rfl in_01 rfl dL_takeBackIncome_9 (fun H locs hW hS => ?_)
    have hW := hE_w hW
    refine lv_goto (tgt := 21) hx hb dL_takeBackIncome_10 (by decide) ?_
    refine lv_iconst (v := 0) hx hb dL_takeBackIncome_21 (by decide) ?_
    exact e_i hQ B hr hlk hS hW dL_takeBackIncome_22 (Nat.le_of_ble_eq_true rfl) (Nat.le_of_ble_eq_true rfl) (⟨hp.1.1.symm, _, _, rfl, Or.inl ⟨hp.1.1, by rw [updL_0, hp.1.2], hp.2⟩⟩)
set_option maxHeartbeats 4000000 in
set_option maxRecDepth 100000 in
theorem lh_takeBackRule {l : Launch} (hlf : l.stackTraces = false) {D : va_G} {tys : List (ClassId × FieldType)} {ad : Nat → Nat} (hI : aI ad 110) {cJ cF : ClassId} (o : Nat → Int64) {cI cZ cH cP cT : ClassId} (V T : Nat → Nat → Int32) (ag : Nat → Int32) (nP nH rN : Nat) (nf pn : Int32) (sp sk : Int64) (py pd : Nat → Nat → Int32) (so en : Nat → Int32) (rA rC rI aA aC aH aT aP : Int32) (x dy : Int32) (hti : tys[0]? = some (cI, .int)) (htz : tys[1]? = some (cZ, .boolean)) (hth : tys[2]? = some (cH, .object RX1)) (htp : tys[3]? = some (cP, .object RX2)) (htt : tys[4]? = some (cT, .object RX4)) (htj : tys[5]? = some (cJ, .long)) (htf : tys[6]? = some (cF, .double)) (hInv : Inv V T ag nP nH rN so pd)  (sz : Nat) : Met l yL_takeBackRule (Cond.codeWith yL_takeBackRule cL_takeBackRule 5 (some .int) [(0, 10, 13, 37), (0, 10, 17, 50)] :: wsL_law) (rmk 7 8 48) (va_Pc [.ref (ad 0), .int x, .int dy, .ref (ad 109)] (PN D tys ad 110 (hE cJ (cE cI cZ cH cP cT ad V T ag nP nH rN nf pn sp sk py pd so en rA rC rI aA aC aH aT aP) o) sz)) (Qi D ad 110 (fun r E1 => r = kTakeR T x dy ∧ ∃ Ec o1, E1 = hE cJ Ec o1 ∧ ((kTakeR T x dy = 0 ∧ o1 0 = (V (20 + rIx x) (ix dy)).toInt64 ∧ CW cI cZ cH cP cT ad (upd2 V (20 + rIx x) (takeV (V (20 + rIx x)) (T (20 + rIx x)) (ix dy) (w0 (20 + rIx x)))) (upd2 T (20 + rIx x) (upd (T (20 + rIx x)) (ix dy) 0)) ag nP nH rN (nf - 1) pn sp sk py pd Ec) ∨ (¬ kTakeR T x dy = 0 ∧ CW cI cZ cH cP cT ad V T ag nP nH rN nf pn sp sk py pd Ec))) (cA ad 110 sz)) 8 48 (cA ad 110 sz) := by
  refine ch_of (own := RL) (Qc := Qi D ad 110 (fun r E1 => r = kTakeR T x dy ∧ ∃ Ec o1, E1 = hE cJ Ec o1 ∧ ((kTakeR T x dy = 0 ∧ o1 0 = (V (20 + rIx x) (ix dy)).toInt64 ∧ CW cI cZ cH cP cT ad (upd2 V (20 + rIx x) (takeV (V (20 + rIx x)) (T (20 + rIx x)) (ix dy) (w0 (20 + rIx x)))) (upd2 T (20 + rIx x) (upd (T (20 + rIx x)) (ix dy) 0)) ag nP nH rN (nf - 1) pn sp sk py pd Ec) ∨ (¬ kTakeR T x dy = 0 ∧ CW cI cZ cH cP cT ad V T ag nP nH rN nf pn sp sk py pd Ec)))) rfl (by decide +kernel) (Nat.le_of_ble_eq_true rfl) ?_ sz
  intro p e s m args below meth c ls Q B hT hX hN hW hr hlk htab hl hS hA hQ
  have hx := B.1
  have hb := B.2.1
  have hl : lv_has ls 5 [(0, .ref (ad 0)), (1, .int x), (2, .int dy), (3, .ref (ad 109))] := hl
  refine lv_aload_n hx hb dL_takeBackRule_0 rfl (lv_at hl 3 rfl) ?_
  refine lv_iconst (v := 0) hx hb dL_takeBackRule_1 (by decide) ?_
  refine lv_aload_n hx hb dL_takeBackRule_2 rfl (lv_at hl 0 rfl) ?_
  refine lv_iload_n hx hb dL_takeBackRule_3 rfl (lv_at hl 1 rfl) ?_
  refine lv_iload_n hx hb dL_takeBackRule_4 rfl (lv_at hl 2 rfl) ?_
  refine y_xci (y_xrunV (ad' := ad) (σ := fun k => k) (n9 := 109) (E' := cE cI cZ cH cP cT ad V T ag nP nH rN nf pn sp sk py pd so en rA rC rI aA aC aH aT aP) (k := 0) B hT hX hW hS (fun k h => Nat.lt_of_lt_of_le h (by decide)) (fun _ _ => rfl) (fun k h => if_pos h) (As := [.int x, .int dy]) (rest := [.int 0, .ref (ad 109)]) (fun sz => mt_takeBackRule hlf (fun i j hi hj => hI i j (by omega) (by omega)) V T ag nP nH rN nf pn sp sk py pd so en rA rC rI aA aC aH aT aP x dy hti htz hth htp htt hInv sz) (cwL_46 B.2.2.2.2.1 ⟨Nat.le_of_ble_eq_true rfl, Nat.le_of_ble_eq_true rfl⟩) (b_recv B (hW.subw (n := 109) (σ := fun k => k) (fun k h => Nat.lt_of_lt_of_le h (by decide)) (fun _ _ => rfl) (fun k h => if_pos h)) (by decide) cE_0 rfl) rfl hl.1 (Nat.le_of_ble_eq_true rfl) dL_takeBackRule_5 ⟨Nat.le_of_ble_eq_true rfl, Nat.le_of_ble_eq_true rfl⟩) hI hW hS (fun k h => Nat.lt_of_lt_of_le h (by decide)) (fun _ _ => rfl) (fun E1 => hE cJ E1 o) (fun E1 k h => if_pos h) h_out (fun Ex ce q9 E1 H locs hx9 hW hS hce hcv hcl => ?_) (fun r E1 H locs hp hW hS => ?_)
  · obtain ⟨hx9, hC⟩ := hx9
    rcases hx9 with ⟨rfl, hk⟩ | ⟨rfl, hk⟩
    · skip
      refine h_catch B hT hN htab (pre := []) (suf := [(0, 10, 17, 50)]) (a := 0) (b := 10) (h := 13) (ct := 37) rfl (fun z hz => nomatch hz) (by decide) (by decide) (r10_in _ (List.mem_of_getElem? (i := 20) rfl)) (List.mem_of_getElem? (i := 26) rfl) hce hcv hcl ?_
      refine lv_astore (lv' := [(4, .ref q9), (0, .ref (ad 0)), (1, .int x), (2, .int dy), (3, .ref (ad 109))]) hx hb dL_takeBackRule_13 hl (by decide) rfl (fun ls hl => ?_)
      refine lv_iconst (v := 1) hx hb dL_takeBackRule_15 (by decide) ?_
      exact e_i hQ B hr hlk hS hW dL_takeBackRule_16 (Nat.le_of_ble_eq_true rfl) (Nat.le_of_ble_eq_true rfl) (⟨hk.symm, _, _, rfl, Or.inr ⟨by rw [hk]; decide, hC⟩⟩)
    · skip
      refine h_catch B hT hN htab (pre := [(0, 10, 13, 37)]) (suf := []) (a := 0) (b := 10) (h := 17) (ct := 50) rfl (List.forall_mem_cons.mpr ⟨⟨by decide, "java/util/NoSuchElementException", (r10_in _ (List.mem_of_getElem? (i := 20) rfl)), List.mem_of_getElem? (i := 4) rfl⟩, (fun z hz => nomatch hz)⟩) (by decide) (by decide) (r13_in _ (List.mem_of_getElem? (i := 10) rfl)) (List.mem_of_getElem? (i := 27) rfl) hce hcv hcl ?_
      refine lv_astore (lv' := [(4, .ref q9), (0, .ref (ad 0)), (1, .int x), (2, .int dy), (3, .ref (ad 109))]) hx hb dL_takeBackRule_17 hl (by decide) rfl (fun ls hl => ?_)
      refine lv_iconst (v := 2) hx hb dL_takeBackRule_19 (by decide) ?_
      exact e_i hQ B hr hlk hS hW dL_takeBackRule_20 (Nat.le_of_ble_eq_true rfl) (Nat.le_of_ble_eq_true rfl) (⟨hk.symm, _, _, rfl, Or.inr ⟨by rw [hk]; decide, hC⟩⟩)
  · skip
    refine lv_i2l hx hb dL_takeBackRule_8 rfl ?_
    refine b_last B hI hA hW hS htj (j := 0) (by decide) rfl in_01 rfl dL_takeBackRule_9 (fun H locs hW hS => ?_)
    have hW := hE_w hW
    refine lv_goto (tgt := 21) hx hb dL_takeBackRule_10 (by decide) ?_
    refine lv_iconst (v := 0) hx hb dL_takeBackRule_21 (by decide) ?_
    exact e_i hQ B hr hlk hS hW dL_takeBackRule_22 (Nat.le_of_ble_eq_true rfl) (Nat.le_of_ble_eq_true rfl) (⟨hp.1.1.symm, _, _, rfl, Or.inl ⟨hp.1.1, by rw [updL_0, hp.1.2], hp.2⟩⟩)
