theorem cwL_14 {R : Room} {s : State} {args : Array Value} {rm : Room} (hts : ∀ w ∈ wsL_law, w.before args s = true) (hR : rm.frames + 1 ≤ R.frames ∧ 8 + (2 + 11) + rm.locals ≤ R.locals) : CWV R s args RL RX5 14 yX5_addPerson cX5_addPerson 2 (some .int) rm rm.cells rm.slots 1 :=
  cwV 1 hts (gi_V (r5_in _ (List.mem_of_getElem? (i := 7) rfl)) (r5_in _ (List.mem_of_getElem? (i := 8) rfl)) (r5_in _ (List.mem_of_getElem? (i := 9) rfl)) (r1_in _ (List.mem_of_getElem? (i := 2) rfl)) (r5_in _ (List.mem_of_getElem? (i := 10) rfl))) rfl rfl rfl (by decide +kernel) hR
theorem cwL_24 {R : Room} {s : State} {args : Array Value} {rm : Room} (hts : ∀ w ∈ wsL_law, w.before args s = true) (hR : rm.frames + 1 ≤ R.frames ∧ 8 + (1 + 11) + rm.locals ≤ R.locals) : CWV R s args RL RX5 24 yX5_addHousehold cX5_addHousehold 1 (some .int) rm rm.cells rm.slots 0 :=
  cwV 0 hts (gi_V (r5_in _ (List.mem_of_getElem? (i := 22) rfl)) (r5_in _ (List.mem_of_getElem? (i := 23) rfl)) (r6_in _ (List.mem_of_getElem? (i := 0) rfl)) (r1_in _ (List.mem_of_getElem? (i := 2) rfl)) (r6_in _ (List.mem_of_getElem? (i := 1) rfl))) rfl rfl rfl (by decide +kernel) hR
theorem cwL_28 {R : Room} {s : State} {args : Array Value} {rm : Room} (hts : ∀ w ∈ wsL_law, w.before args s = true) (hR : rm.frames + 1 ≤ R.frames ∧ 8 + (5 + 11) + rm.locals ≤ R.locals) : CWV R s args RL RX5 28 yX5_move cX5_move 5 (some .int) rm rm.cells rm.slots 3 :=
  cwV 3 hts (gi_V (r6_in _ (List.mem_of_getElem? (i := 7) rfl)) (r6_in _ (List.mem_of_getElem? (i := 8) rfl)) (r6_in _ (List.mem_of_getElem? (i := 9) rfl)) (r1_in _ (List.mem_of_getElem? (i := 2) rfl)) (r6_in _ (List.mem_of_getElem? (i := 10) rfl))) rfl rfl rfl (by decide +kernel) hR
theorem cwL_34 {R : Room} {s : State} {args : Array Value} {rm : Room} (hts : ∀ w ∈ wsL_law, w.before args s = true) (hR : rm.frames + 1 ≤ R.frames ∧ 8 + (5 + 11) + rm.locals ≤ R.locals) : CWV R s args RL RX5 34 yX5_setIncome cX5_setIncome 5 (some .int) rm rm.cells rm.slots 3 :=
  cwV 3 hts (gi_V (r11_in _ (List.mem_of_getElem? (i := 11) rfl)) (r11_in _ (List.mem_of_getElem? (i := 12) rfl)) (r11_in _ (List.mem_of_getElem? (i := 13) rfl)) (r1_in _ (List.mem_of_getElem? (i := 2) rfl)) (r11_in _ (List.mem_of_getElem? (i := 14) rfl))) rfl rfl rfl (by decide +kernel) hR
theorem cwL_37 {R : Room} {s : State} {args : Array Value} {rm : Room} (hts : ∀ w ∈ wsL_law, w.before args s = true) (hR : rm.frames + 1 ≤ R.frames ∧ 8 + (5 + 11) + rm.locals ≤ R.locals) : CWV R s args RL RX5 37 yX5_setRent cX5_setRent 5 (some .int) rm rm.cells rm.slots 3 :=
  cwV 3 hts (gi_V (r11_in _ (List.mem_of_getElem? (i := 18) rfl)) (r11_in _ (List.mem_of_getElem? (i := 19) rfl)) (r11_in _ (List.mem_of_getElem? (i := 20) rfl)) (r1_in _ (List.mem_of_getElem? (i := 2) rfl)) (r11_in _ (List.mem_of_getElem? (i := 21) rfl))) rfl rfl rfl (by decide +kernel) hR
theorem cwL_40 {R : Room} {s : State} {args : Array Value} {rm : Room} (hts : ∀ w ∈ wsL_law, w.before args s = true) (hR : rm.frames + 1 ≤ R.frames ∧ 8 + (5 + 11) + rm.locals ≤ R.locals) : CWV R s args RL RX5 40 yX5_setRule cX5_setRule 5 (some .int) rm rm.cells rm.slots 3 :=
  cwV 3 hts (gi_V (r12_in _ (List.mem_of_getElem? (i := 15) rfl)) (r12_in _ (List.mem_of_getElem? (i := 16) rfl)) (r12_in _ (List.mem_of_getElem? (i := 17) rfl)) (r1_in _ (List.mem_of_getElem? (i := 2) rfl)) (r12_in _ (List.mem_of_getElem? (i := 18) rfl))) rfl rfl rfl (by decide +kernel) hR
theorem cwL_46 {R : Room} {s : State} {args : Array Value} {rm : Room} (hts : ∀ w ∈ wsL_law, w.before args s = true) (hR : rm.frames + 1 ≤ R.frames ∧ 8 + (4 + 11) + rm.locals ≤ R.locals) : CWV R s args RL RX5 46 yX5_takeBackMove cX5_takeBackMove 4 (some .int) rm rm.cells rm.slots 2 :=
  cwV 2 hts (gi_V (r12_in _ (List.mem_of_getElem? (i := 23) rfl)) (r13_in _ (List.mem_of_getElem? (i := 0) rfl)) (r13_in _ (List.mem_of_getElem? (i := 1) rfl)) (r1_in _ (List.mem_of_getElem? (i := 2) rfl)) (r13_in _ (List.mem_of_getElem? (i := 2) rfl))) rfl rfl rfl (by decide +kernel) hR
theorem cwL_50 {R : Room} {s : State} {args : Array Value} {rm : Room} (hts : ∀ w ∈ wsL_law, w.before args s = true) (hR : rm.frames + 1 ≤ R.frames ∧ 8 + (4 + 11) + rm.locals ≤ R.locals) : CWV R s args RL RX5 50 yX5_takeBackIncome cX5_takeBackIncome 4 (some .int) rm rm.cells rm.slots 2 :=
  cwV 2 hts (gi_V (r13_in _ (List.mem_of_getElem? (i := 17) rfl)) (r13_in _ (List.mem_of_getElem? (i := 18) rfl)) (r13_in _ (List.mem_of_getElem? (i := 19) rfl)) (r1_in _ (List.mem_of_getElem? (i := 2) rfl)) (r13_in _ (List.mem_of_getElem? (i := 20) rfl))) rfl rfl rfl (by decide +kernel) hR
theorem cwL_53 {R : Room} {s : State} {args : Array Value} {rm : Room} (hts : ∀ w ∈ wsL_law, w.before args s = true) (hR : rm.frames + 1 ≤ R.frames ∧ 8 + (4 + 11) + rm.locals ≤ R.locals) : CWV R s args RL RX5 53 yX5_takeBackRule cX5_takeBackRule 4 (some .int) rm rm.cells rm.slots 2 :=
  cwV 2 hts (gi_V (r14_in _ (List.mem_of_getElem? (i := 1) rfl)) (r14_in _ (List.mem_of_getElem? (i := 2) rfl)) (r14_in _ (List.mem_of_getElem? (i := 3) rfl)) (r1_in _ (List.mem_of_getElem? (i := 2) rfl)) (r14_in _ (List.mem_of_getElem? (i := 4) rfl))) rfl rfl rfl (by decide +kernel) hR
theorem cwL_59 {R : Room} {s : State} {args : Array Value} {rm : Room} (hts : ∀ w ∈ wsL_law, w.before args s = true) (hR : rm.frames + 1 ≤ R.frames ∧ 8 + (3 + 11) + rm.locals ≤ R.locals) : CWV R s args RL RX5 59 yX5_pay cX5_pay 3 (some .int) rm rm.cells rm.slots 0 :=
  cwV 0 hts (gi_V (r14_in _ (List.mem_of_getElem? (i := 13) rfl)) (r14_in _ (List.mem_of_getElem? (i := 14) rfl)) (r14_in _ (List.mem_of_getElem? (i := 15) rfl)) (r1_in _ (List.mem_of_getElem? (i := 2) rfl)) (r14_in _ (List.mem_of_getElem? (i := 16) rfl))) rfl rfl rfl (by decide +kernel) hR
theorem cwL_62 {R : Room} {s : State} {args : Array Value} {rm : Room} (hts : ∀ w ∈ wsL_law, w.before args s = true) (hR : rm.frames + 1 ≤ R.frames ∧ 8 + (4 + 11) + rm.locals ≤ R.locals) : CWV R s args RL RX5 62 yX5_payment cX5_payment 4 (some .int) rm rm.cells rm.slots 2 :=
  cwV 2 hts (gi_V (r15_in _ (List.mem_of_getElem? (i := 17) rfl)) (r15_in _ (List.mem_of_getElem? (i := 18) rfl)) (r15_in _ (List.mem_of_getElem? (i := 19) rfl)) (r1_in _ (List.mem_of_getElem? (i := 2) rfl)) (r15_in _ (List.mem_of_getElem? (i := 20) rfl))) rfl rfl rfl (by decide +kernel) hR
theorem cwL_65 {R : Room} {s : State} {args : Array Value} {rm : Room} (hts : ∀ w ∈ wsL_law, w.before args s = true) (hR : rm.frames + 1 ≤ R.frames ∧ 8 + (4 + 11) + rm.locals ≤ R.locals) : CWV R s args RL RX5 65 yX5_paidFor cX5_paidFor 4 (some .int) rm rm.cells rm.slots 2 :=
  cwV 2 hts (gi_V (r16_in _ (List.mem_of_getElem? (i := 0) rfl)) (r16_in _ (List.mem_of_getElem? (i := 1) rfl)) (r16_in _ (List.mem_of_getElem? (i := 2) rfl)) (r1_in _ (List.mem_of_getElem? (i := 2) rfl)) (r16_in _ (List.mem_of_getElem? (i := 3) rfl))) rfl rfl rfl (by decide +kernel) hR
theorem cwL_68 {R : Room} {s : State} {args : Array Value} {rm : Room} (hts : ∀ w ∈ wsL_law, w.before args s = true) (hR : rm.frames + 1 ≤ R.frames ∧ 8 + (5 + 11) + rm.locals ≤ R.locals) : CWV R s args RL RX5 68 yX5_balance cX5_balance 5 (some .int) rm rm.cells rm.slots 1 :=
  cwV 1 hts (gi_V (r7_in _ (List.mem_of_getElem? (i := 23) rfl)) (r8_in _ (List.mem_of_getElem? (i := 0) rfl)) (r8_in _ (List.mem_of_getElem? (i := 1) rfl)) (r1_in _ (List.mem_of_getElem? (i := 2) rfl)) (r8_in _ (List.mem_of_getElem? (i := 2) rfl))) rfl rfl rfl (by decide +kernel) hR
theorem cwL_75 {R : Room} {s : State} {args : Array Value} {rm : Room} (hts : ∀ w ∈ wsL_law, w.before args s = true) (hR : rm.frames + 1 ≤ R.frames ∧ 8 + (4 + 11) + rm.locals ≤ R.locals) : CWV R s args RL RX5 75 yX5_homeOf cX5_homeOf 4 (some .int) rm rm.cells rm.slots 2 :=
  cwV 2 hts (gi_V (r11_in _ (List.mem_of_getElem? (i := 4) rfl)) (r11_in _ (List.mem_of_getElem? (i := 5) rfl)) (r11_in _ (List.mem_of_getElem? (i := 6) rfl)) (r1_in _ (List.mem_of_getElem? (i := 2) rfl)) (r11_in _ (List.mem_of_getElem? (i := 7) rfl))) rfl rfl rfl (by decide +kernel) hR
theorem cwL_78 {R : Room} {s : State} {args : Array Value} {rm : Room} (hts : ∀ w ∈ wsL_law, w.before args s = true) (hR : rm.frames + 1 ≤ R.frames ∧ 8 + (4 + 11) + rm.locals ≤ R.locals) : CWV R s args RL RX5 78 yX5_ruleAt cX5_ruleAt 4 (some .int) rm rm.cells rm.slots 2 :=
  cwV 2 hts (gi_V (r12_in _ (List.mem_of_getElem? (i := 2) rfl)) (r12_in _ (List.mem_of_getElem? (i := 3) rfl)) (r12_in _ (List.mem_of_getElem? (i := 4) rfl)) (r1_in _ (List.mem_of_getElem? (i := 2) rfl)) (r12_in _ (List.mem_of_getElem? (i := 5) rfl))) rfl rfl rfl (by decide +kernel) hR
theorem cwL_81 {R : Room} {s : State} {args : Array Value} {rm : Room} (hts : ∀ w ∈ wsL_law, w.before args s = true) (hR : rm.frames + 1 ≤ R.frames ∧ 8 + (3 + 11) + rm.locals ≤ R.locals) : CWV R s args RL RX5 81 yX5_adults cX5_adults 3 (some .int) rm rm.cells rm.slots 2 :=
  cwV 2 hts (gi_V (r17_in _ (List.mem_of_getElem? (i := 21) rfl)) (r17_in _ (List.mem_of_getElem? (i := 22) rfl)) (r17_in _ (List.mem_of_getElem? (i := 23) rfl)) (r1_in _ (List.mem_of_getElem? (i := 2) rfl)) (r18_in _ (List.mem_of_getElem? (i := 0) rfl))) rfl rfl rfl (by decide +kernel) hR
theorem cwL_84 {R : Room} {s : State} {args : Array Value} {rm : Room} (hts : ∀ w ∈ wsL_law, w.before args s = true) (hR : rm.frames + 1 ≤ R.frames ∧ 8 + (3 + 11) + rm.locals ≤ R.locals) : CWV R s args RL RX5 84 yX5_children cX5_children 3 (some .int) rm rm.cells rm.slots 2 :=
  cwV 2 hts (gi_V (r18_in _ (List.mem_of_getElem? (i := 11) rfl)) (r18_in _ (List.mem_of_getElem? (i := 12) rfl)) (r18_in _ (List.mem_of_getElem? (i := 13) rfl)) (r1_in _ (List.mem_of_getElem? (i := 2) rfl)) (r18_in _ (List.mem_of_getElem? (i := 14) rfl))) rfl rfl rfl (by decide +kernel) hR
theorem cwL_87 {R : Room} {s : State} {args : Array Value} {rm : Room} (hts : ∀ w ∈ wsL_law, w.before args s = true) (hR : rm.frames + 1 ≤ R.frames ∧ 8 + (3 + 11) + rm.locals ≤ R.locals) : CWV R s args RL RX5 87 yX5_adultAmount cX5_adultAmount 3 (some .int) rm rm.cells rm.slots 2 :=
  cwV 2 hts (gi_V (r16_in _ (List.mem_of_getElem? (i := 17) rfl)) (r16_in _ (List.mem_of_getElem? (i := 18) rfl)) (r16_in _ (List.mem_of_getElem? (i := 19) rfl)) (r1_in _ (List.mem_of_getElem? (i := 2) rfl)) (r16_in _ (List.mem_of_getElem? (i := 20) rfl))) rfl rfl rfl (by decide +kernel) hR
theorem cwL_90 {R : Room} {s : State} {args : Array Value} {rm : Room} (hts : ∀ w ∈ wsL_law, w.before args s = true) (hR : rm.frames + 1 ≤ R.frames ∧ 8 + (3 + 11) + rm.locals ≤ R.locals) : CWV R s args RL RX5 90 yX5_childAmount cX5_childAmount 3 (some .int) rm rm.cells rm.slots 2 :=
  cwV 2 hts (gi_V (r17_in _ (List.mem_of_getElem? (i := 0) rfl)) (r17_in _ (List.mem_of_getElem? (i := 1) rfl)) (r17_in _ (List.mem_of_getElem? (i := 2) rfl)) (r1_in _ (List.mem_of_getElem? (i := 2) rfl)) (r17_in _ (List.mem_of_getElem? (i := 3) rfl))) rfl rfl rfl (by decide +kernel) hR
theorem cwL_93 {R : Room} {s : State} {args : Array Value} {rm : Room} (hts : ∀ w ∈ wsL_law, w.before args s = true) (hR : rm.frames + 1 ≤ R.frames ∧ 8 + (3 + 11) + rm.locals ≤ R.locals) : CWV R s args RL RX5 93 yX5_housingAmount cX5_housingAmount 3 (some .int) rm rm.cells rm.slots 2 :=
  cwV 2 hts (gi_V (r17_in _ (List.mem_of_getElem? (i := 7) rfl)) (r17_in _ (List.mem_of_getElem? (i := 8) rfl)) (r17_in _ (List.mem_of_getElem? (i := 9) rfl)) (r1_in _ (List.mem_of_getElem? (i := 2) rfl)) (r17_in _ (List.mem_of_getElem? (i := 10) rfl))) rfl rfl rfl (by decide +kernel) hR
theorem cwL_96 {R : Room} {s : State} {args : Array Value} {rm : Room} (hts : ∀ w ∈ wsL_law, w.before args s = true) (hR : rm.frames + 1 ≤ R.frames ∧ 8 + (3 + 11) + rm.locals ≤ R.locals) : CWV R s args RL RX5 96 yX5_reason cX5_reason 3 (some .char) rm rm.cells rm.slots 2 :=
  cwV 2 hts (gi_V (r17_in _ (List.mem_of_getElem? (i := 14) rfl)) (r17_in _ (List.mem_of_getElem? (i := 15) rfl)) (r17_in _ (List.mem_of_getElem? (i := 16) rfl)) (r1_in _ (List.mem_of_getElem? (i := 2) rfl)) (r17_in _ (List.mem_of_getElem? (i := 17) rfl))) rfl rfl rfl (by decide +kernel) hR
theorem cwL_100 {R : Room} {s : State} {args : Array Value} {rm : Room} (hts : ∀ w ∈ wsL_law, w.before args s = true) (hR : rm.frames + 1 ≤ R.frames ∧ 8 + (7 + 11) + rm.locals ≤ R.locals) : CWV R s args RL RX5 100 yX5_nextChange cX5_nextChange 7 (some .int) rm rm.cells rm.slots 2 :=
  cwV 2 hts (gi_V (r18_in _ (List.mem_of_getElem? (i := 4) rfl)) (r18_in _ (List.mem_of_getElem? (i := 5) rfl)) (r18_in _ (List.mem_of_getElem? (i := 6) rfl)) (r1_in _ (List.mem_of_getElem? (i := 2) rfl)) (r18_in _ (List.mem_of_getElem? (i := 7) rfl))) rfl rfl rfl (by decide +kernel) hR
theorem cwL_103 {R : Room} {s : State} {args : Array Value} {rm : Room} (hts : ∀ w ∈ wsL_law, w.before args s = true) (hR : rm.frames + 1 ≤ R.frames ∧ 8 + (3 + 11) + rm.locals ≤ R.locals) : CWV R s args RL RX5 103 yX5_entitlement cX5_entitlement 3 (some .int) rm rm.cells rm.slots 2 :=
  cwV 2 hts (gi_V (r10_in _ (List.mem_of_getElem? (i := 18) rfl)) (r10_in _ (List.mem_of_getElem? (i := 19) rfl)) (r10_in _ (List.mem_of_getElem? (i := 20) rfl)) (r1_in _ (List.mem_of_getElem? (i := 2) rfl)) (r10_in _ (List.mem_of_getElem? (i := 21) rfl))) rfl rfl rfl (by decide +kernel) hR
theorem cwL_106 {R : Room} {s : State} {args : Array Value} {rm : Room} (hts : ∀ w ∈ wsL_law, w.before args s = true) (hR : rm.frames + 1 ≤ R.frames ∧ 8 + (6 + 11) + rm.locals ≤ R.locals) : CWV R s args RL RX5 106 yX5_entitlementByDays cX5_entitlementByDays 6 (some .int) rm rm.cells rm.slots 2 :=
  cwV 2 hts (gi_V (r18_in _ (List.mem_of_getElem? (i := 23) rfl)) (r19_in _ (List.mem_of_getElem? (i := 0) rfl)) (r19_in _ (List.mem_of_getElem? (i := 1) rfl)) (r1_in _ (List.mem_of_getElem? (i := 2) rfl)) (r19_in _ (List.mem_of_getElem? (i := 2) rfl))) rfl rfl rfl (by decide +kernel) hR
theorem cwL_71 {R : Room} {s : State} {args : Array Value} {rm : Room} (hts : ∀ w ∈ wsL_law, w.before args s = true) (hR : rm.frames + 1 ≤ R.frames ∧ 8 + (4 + 11) + rm.locals ≤ R.locals) : CWV R s args RL RX5 71 yX5_isSettled cX5_isSettled 4 (some .boolean) rm rm.cells rm.slots 1 :=
  cwV 1 hts (gi_V (r16_in _ (List.mem_of_getElem? (i := 7) rfl)) (r16_in _ (List.mem_of_getElem? (i := 8) rfl)) (r16_in _ (List.mem_of_getElem? (i := 9) rfl)) (r1_in _ (List.mem_of_getElem? (i := 2) rfl)) (r16_in _ (List.mem_of_getElem? (i := 10) rfl))) rfl rfl rfl (by decide +kernel) hR
theorem cwL_109 {R : Room} {s : State} {args : Array Value} {rm : Room} (hts : ∀ w ∈ wsL_law, w.before args s = true) (hR : rm.frames + 1 ≤ R.frames ∧ 8 + (3 + 11) + rm.locals ≤ R.locals) : CWV R s args RL RX5 109 yX5_keptShare cX5_keptShare 3 (some .float) rm rm.cells rm.slots 0 :=
  cwV 0 hts (gi_V (r19_in _ (List.mem_of_getElem? (i := 7) rfl)) (r19_in _ (List.mem_of_getElem? (i := 8) rfl)) (r19_in _ (List.mem_of_getElem? (i := 9) rfl)) (r1_in _ (List.mem_of_getElem? (i := 2) rfl)) (r19_in _ (List.mem_of_getElem? (i := 10) rfl))) rfl rfl rfl (by decide +kernel) hR
theorem cwL_116 {R : Room} {s : State} {args : Array Value} {rm : Room} (hts : ∀ w ∈ wsL_law, w.before args s = true) (hR : rm.frames + 1 ≤ R.frames ∧ 8 + (1 + 11) + rm.locals ≤ R.locals) : CWV R s args RL RX5 116 yX5_meanPayment cX5_meanPayment 1 (some .double) rm rm.cells rm.slots 0 :=
  cwV 0 hts (gi_V (r19_in _ (List.mem_of_getElem? (i := 16) rfl)) (r19_in _ (List.mem_of_getElem? (i := 17) rfl)) (r19_in _ (List.mem_of_getElem? (i := 18) rfl)) (r1_in _ (List.mem_of_getElem? (i := 2) rfl)) (r19_in _ (List.mem_of_getElem? (i := 19) rfl))) rfl rfl rfl (by decide +kernel) hR
set_option maxHeartbeats 4000000 in
set_option maxRecDepth 100000 in
theorem lq_addPerson {l : Launch} (hlf : l.stackTraces = false) {D : va_G} {tys : List (ClassId × FieldType)} {ad : Nat → Nat} (hI : aI ad 109) {cI cZ cH cP cT : ClassId} {V T : Nat → Nat → Int32} {ag : Nat → Int32} {nP nH rN : Nat} {nf pn : Int32} {sp sk : Int64} {py pd : Nat → Nat → Int32} (hty : TY tys cI cZ cH cP cT) (x : Int32) {E : Nat → va_E} (hC : CW cI cZ cH cP cT ad V T ag nP nH rN nf pn sp sk py pd E) (sz : Nat) : Met l yL_addPerson (Cond.codeWith yL_addPerson cL_addPerson 3 (some .int) [(0, 5, 6, 20), (0, 5, 10, 22)] :: wsL_law) (rmk 7 8 48) (va_Pc [.ref (ad 0), .int x] (PN D tys ad 109 E sz)) (Qi D ad 109 (fun r E1 => r = hv (kAddP nP x) (-78) (-79) 0 (nI nP) ∧ (kAddP nP x = 0 ∧ CW cI cZ cH cP cT ad V T (upd ag nP x) (nP + 1) nH rN nf pn sp sk py pd E1 ∨ ¬ kAddP nP x = 0 ∧ CW cI cZ cH cP cT ad V T ag nP nH rN nf pn sp sk py pd E1)) (cA ad 109 sz)) 8 48 (cA ad 109 sz) := by
  obtain ⟨so, en, rA, rC, rI, aA, aC, aH, aT, aP, rfl, hInv⟩ := hC
  obtain ⟨hti, htz, hth, htp, htt⟩ := hty
  refine ch_of (own := RL) (Qc := Qi D ad 109 (fun r E1 => r = hv (kAddP nP x) (-78) (-79) 0 (nI nP) ∧ (kAddP nP x = 0 ∧ CW cI cZ cH cP cT ad V T (upd ag nP x) (nP + 1) nH rN nf pn sp sk py pd E1 ∨ ¬ kAddP nP x = 0 ∧ CW cI cZ cH cP cT ad V T ag nP nH rN nf pn sp sk py pd E1))) rfl (by decide +kernel) (Nat.le_of_ble_eq_true rfl) ?_ sz
  intro p e s m args below meth c ls Q B hT hX hN hW hr hlk htab hl hS hA hQ
  have hx := B.1
  have hb := B.2.1
  have hl : lv_has ls 3 [(0, .ref (ad 0)), (1, .int x)] := hl
  refine lv_aload_n hx hb dL_addPerson_0 rfl (lv_at hl 0 rfl) ?_
  refine lv_iload_n hx hb dL_addPerson_1 rfl (lv_at hl 1 rfl) ?_
  refine y_xci (y_xrunV (ad' := ad) (σ := fun k => k) (n9 := 109) (k := 0) B hT hX hW hS (fun k h => h) (fun _ _ => rfl) (fun _ _ => rfl) (As := [.int x]) (rest := []) (fun sz => mt_addPerson hlf hI V T ag nP nH rN nf pn sp sk py pd so en rA rC rI aA aC aH aT aP x hti htz hth htp htt hInv sz) (cwL_14 B.2.2.2.2.1 ⟨Nat.le_of_ble_eq_true rfl, Nat.le_of_ble_eq_true rfl⟩) (b_recv B hW (by decide) cE_0 rfl) rfl hl.1 (Nat.le_of_ble_eq_true rfl) dL_addPerson_2 ⟨Nat.le_of_ble_eq_true rfl, Nat.le_of_ble_eq_true rfl⟩) hI hW hS (fun k h => h) (fun _ _ => rfl) (fun E1 => E1) (fun _ _ _ => rfl) (fun E1 j hj hno => absurd rfl (hno j hj)) (fun Ex ce q9 E1 H locs hx9 hW hS hce hcv hcl => ?_) (fun r E1 H locs hp hW hS => ?_)
  · obtain ⟨hx9, hC⟩ := hx9
    rcases hx9 with ⟨rfl, hk⟩ | ⟨rfl, hk⟩
    · skip
      refine h_catch B hT hN htab (pre := []) (suf := [(0, 5, 10, 22)]) (a := 0) (b := 5) (h := 6) (ct := 20) rfl (fun z hz => nomatch hz) (by decide) (by decide) (r5_in _ (List.mem_of_getElem? (i := 5) rfl)) (List.mem_of_getElem? (i := 24) rfl) hce hcv hcl ?_
      refine lv_astore_n (lv' := [(2, .ref q9), (0, .ref (ad 0)), (1, .int x)]) hx hb dL_addPerson_6 rfl hl (by decide) rfl (fun ls hl => ?_)
      refine lv_bipush (v := (-78)) hx hb dL_addPerson_7 (by decide) ?_
      exact e_i hQ B hr hlk hS hW dL_addPerson_9 (Nat.le_of_ble_eq_true rfl) (Nat.le_of_ble_eq_true rfl) (⟨by rw [hk, hv_1], Or.inr ⟨by rw [hk]; decide, hC⟩⟩)
    · skip
      refine h_catch B hT hN htab (pre := [(0, 5, 6, 20)]) (suf := []) (a := 0) (b := 5) (h := 10) (ct := 22) rfl (List.forall_mem_cons.mpr ⟨⟨by decide, "java/lang/IllegalArgumentException", (r5_in _ (List.mem_of_getElem? (i := 5) rfl)), List.mem_of_getElem? (i := 0) rfl⟩, (fun z hz => nomatch hz)⟩) (by decide) (by decide) (r5_in _ (List.mem_of_getElem? (i := 6) rfl)) (List.mem_of_getElem? (i := 23) rfl) hce hcv hcl ?_
      refine lv_astore_n (lv' := [(2, .ref q9), (0, .ref (ad 0)), (1, .int x)]) hx hb dL_addPerson_10 rfl hl (by decide) rfl (fun ls hl => ?_)
      refine lv_bipush (v := (-79)) hx hb dL_addPerson_11 (by decide) ?_
      exact e_i hQ B hr hlk hS hW dL_addPerson_13 (Nat.le_of_ble_eq_true rfl) (Nat.le_of_ble_eq_true rfl) (⟨by rw [hk, hv_2], Or.inr ⟨by rw [hk]; decide, hC⟩⟩)
  · skip
    exact e_i hQ B hr hlk hS hW dL_addPerson_5 (Nat.le_of_ble_eq_true rfl) (Nat.le_of_ble_eq_true rfl) (⟨by rw [hp.1.1, hv_0, hp.1.2], Or.inl ⟨hp.1.1, hp.2⟩⟩)
set_option maxHeartbeats 4000000 in
set_option maxRecDepth 100000 in
theorem lq_addHousehold {l : Launch} (hlf : l.stackTraces = false) {D : va_G} {tys : List (ClassId × FieldType)} {ad : Nat → Nat} (hI : aI ad 109) {cI cZ cH cP cT : ClassId} {V T : Nat → Nat → Int32} {ag : Nat → Int32} {nP nH rN : Nat} {nf pn : Int32} {sp sk : Int64} {py pd : Nat → Nat → Int32} (hty : TY tys cI cZ cH cP cT) {E : Nat → va_E} (hC : CW cI cZ cH cP cT ad V T ag nP nH rN nf pn sp sk py pd E) (sz : Nat) : Met l yL_addHousehold (Cond.codeWith yL_addHousehold cL_addHousehold 2 (some .int) [(0, 4, 5, 22)] :: wsL_law) (rmk 7 8 48) (va_Pc [.ref (ad 0)] (PN D tys ad 109 E sz)) (Qi D ad 109 (fun r E1 => r = hv (kAddH nH) (-79) 0 0 (nI nH) ∧ (kAddH nH = 0 ∧ CW cI cZ cH cP cT ad V T ag nP (nH + 1) rN nf pn sp sk py pd E1 ∨ ¬ kAddH nH = 0 ∧ CW cI cZ cH cP cT ad V T ag nP nH rN nf pn sp sk py pd E1)) (cA ad 109 sz)) 8 48 (cA ad 109 sz) := by
  obtain ⟨so, en, rA, rC, rI, aA, aC, aH, aT, aP, rfl, hInv⟩ := hC
  obtain ⟨hti, htz, hth, htp, htt⟩ := hty
  refine ch_of (own := RL) (Qc := Qi D ad 109 (fun r E1 => r = hv (kAddH nH) (-79) 0 0 (nI nH) ∧ (kAddH nH = 0 ∧ CW cI cZ cH cP cT ad V T ag nP (nH + 1) rN nf pn sp sk py pd E1 ∨ ¬ kAddH nH = 0 ∧ CW cI cZ cH cP cT ad V T ag nP nH rN nf pn sp sk py pd E1))) rfl (by decide +kernel) (Nat.le_of_ble_eq_true rfl) ?_ sz
  intro p e s m args below meth c ls Q B hT hX hN hW hr hlk htab hl hS hA hQ
  have hx := B.1
  have hb := B.2.1
  have hl : lv_has ls 2 [(0, .ref (ad 0))] := hl
  refine lv_aload_n hx hb dL_addHousehold_0 rfl (lv_at hl 0 rfl) ?_
  refine y_xci (y_xrunV (ad' := ad) (σ := fun k => k) (n9 := 109) (k := 0) B hT hX hW hS (fun k h => h) (fun _ _ => rfl) (fun _ _ => rfl) (As := []) (rest := []) (fun sz => mt_addHousehold hlf hI V T ag nP nH rN nf pn sp sk py pd so en rA rC rI aA aC aH aT aP  hti htz hth htp htt hInv sz) (cwL_24 B.2.2.2.2.1 ⟨Nat.le_of_ble_eq_true rfl, Nat.le_of_ble_eq_true rfl⟩) (b_recv B hW (by decide) cE_0 rfl) rfl hl.1 (Nat.le_of_ble_eq_true rfl) dL_addHousehold_1 ⟨Nat.le_of_ble_eq_true rfl, Nat.le_of_ble_eq_true rfl⟩) hI hW hS (fun k h => h) (fun _ _ => rfl) (fun E1 => E1) (fun _ _ _ => rfl) (fun E1 j hj hno => absurd rfl (hno j hj)) (fun Ex ce q9 E1 H locs hx9 hW hS hce hcv hcl => ?_) (fun r E1 H locs hp hW hS => ?_)
  · obtain ⟨hx9, hC⟩ := hx9
    obtain ⟨rfl, hk⟩ := hx9
    refine h_catch B hT hN htab (pre := []) (suf := []) (a := 0) (b := 4) (h := 5) (ct := 22) rfl (fun z hz => nomatch hz) (by decide) (by decide) (r5_in _ (List.mem_of_getElem? (i := 6) rfl)) (List.mem_of_getElem? (i := 23) rfl) hce hcv hcl ?_
    refine lv_astore_n (lv' := [(1, .ref q9), (0, .ref (ad 0))]) hx hb dL_addHousehold_5 rfl hl (by decide) rfl (fun ls hl => ?_)
    refine lv_bipush (v := (-79)) hx hb dL_addHousehold_6 (by decide) ?_
    exact e_i hQ B hr hlk hS hW dL_addHousehold_8 (Nat.le_of_ble_eq_true rfl) (Nat.le_of_ble_eq_true rfl) (⟨by rw [hk, hv_1], Or.inr ⟨by rw [hk]; decide, hC⟩⟩)
  · skip
    exact e_i hQ B hr hlk hS hW dL_addHousehold_4 (Nat.le_of_ble_eq_true rfl) (Nat.le_of_ble_eq_true rfl) (⟨by rw [hp.1.1, hv_0, hp.1.2], Or.inl ⟨hp.1.1, hp.2⟩⟩)
set_option maxHeartbeats 4000000 in
set_option maxRecDepth 100000 in
theorem lq_move {l : Launch} (hlf : l.stackTraces = false) {D : va_G} {tys : List (ClassId × FieldType)} {ad : Nat → Nat} (hI : aI ad 109) {cI cZ cH cP cT : ClassId} {V T : Nat → Nat → Int32} {ag : Nat → Int32} {nP nH rN : Nat} {nf pn : Int32} {sp sk : Int64} {py pd : Nat → Nat → Int32} (hty : TY tys cI cZ cH cP cT) (x hh dy : Int32) {E : Nat → va_E} (hC : CW cI cZ cH cP cT ad V T ag nP nH rN nf pn sp sk py pd E) (sz : Nat) : Met l yL_move (Cond.codeWith yL_move cL_move 5 (some .int) [(0, 7, 8, 32), (0, 7, 13, 20)] :: wsL_law) (rmk 7 8 48) (va_Pc [.ref (ad 0), .int x, .int hh, .int dy] (PN D tys ad 109 E sz)) (Qi D ad 109 (fun r E1 => r = hv (kMove nP nH x hh dy) (-77) (-78) 0 (V (ix x) (ix dy)) ∧ (kMove nP nH x hh dy = 0 ∧ CW cI cZ cH cP cT ad (upd2 V (ix x) (tellV (V (ix x)) (T (ix x)) (ix dy) hh)) (upd2 T (ix x) (upd (T (ix x)) (ix dy) 1)) ag nP nH rN (if T (ix x) (ix dy) = 0 then nf + 1 else nf) pn sp sk py pd E1 ∨ ¬ kMove nP nH x hh dy = 0 ∧ CW cI cZ cH cP cT ad V T ag nP nH rN nf pn sp sk py pd E1)) (cA ad 109 sz)) 8 48 (cA ad 109 sz) := by
  obtain ⟨so, en, rA, rC, rI, aA, aC, aH, aT, aP, rfl, hInv⟩ := hC
  obtain ⟨hti, htz, hth, htp, htt⟩ := hty
  refine ch_of (own := RL) (Qc := Qi D ad 109 (fun r E1 => r = hv (kMove nP nH x hh dy) (-77) (-78) 0 (V (ix x) (ix dy)) ∧ (kMove nP nH x hh dy = 0 ∧ CW cI cZ cH cP cT ad (upd2 V (ix x) (tellV (V (ix x)) (T (ix x)) (ix dy) hh)) (upd2 T (ix x) (upd (T (ix x)) (ix dy) 1)) ag nP nH rN (if T (ix x) (ix dy) = 0 then nf + 1 else nf) pn sp sk py pd E1 ∨ ¬ kMove nP nH x hh dy = 0 ∧ CW cI cZ cH cP cT ad V T ag nP nH rN nf pn sp sk py pd E1))) rfl (by decide +kernel) (Nat.le_of_ble_eq_true rfl) ?_ sz
  intro p e s m args below meth c ls Q B hT hX hN hW hr hlk htab hl hS hA hQ
  have hx := B.1
  have hb := B.2.1
  have hl : lv_has ls 5 [(0, .ref (ad 0)), (1, .int x), (2, .int hh), (3, .int dy)] := hl
  refine lv_aload_n hx hb dL_move_0 rfl (lv_at hl 0 rfl) ?_
  refine lv_iload_n hx hb dL_move_1 rfl (lv_at hl 1 rfl) ?_
  refine lv_iload_n hx hb dL_move_2 rfl (lv_at hl 2 rfl) ?_
  refine lv_iload_n hx hb dL_move_3 rfl (lv_at hl 3 rfl) ?_
  refine y_xci (y_xrunV (ad' := ad) (σ := fun k => k) (n9 := 109) (k := 0) B hT hX hW hS (fun k h => h) (fun _ _ => rfl) (fun _ _ => rfl) (As := [.int x, .int hh, .int dy]) (rest := []) (fun sz => mt_move hlf hI V T ag nP nH rN nf pn sp sk py pd so en rA rC rI aA aC aH aT aP x hh dy hti htz hth htp htt hInv sz) (cwL_28 B.2.2.2.2.1 ⟨Nat.le_of_ble_eq_true rfl, Nat.le_of_ble_eq_true rfl⟩) (b_recv B hW (by decide) cE_0 rfl) rfl hl.1 (Nat.le_of_ble_eq_true rfl) dL_move_4 ⟨Nat.le_of_ble_eq_true rfl, Nat.le_of_ble_eq_true rfl⟩) hI hW hS (fun k h => h) (fun _ _ => rfl) (fun E1 => E1) (fun _ _ _ => rfl) (fun E1 j hj hno => absurd rfl (hno j hj)) (fun Ex ce q9 E1 H locs hx9 hW hS hce hcv hcl => ?_) (fun r E1 H locs hp hW hS => ?_)
  · obtain ⟨hx9, hC⟩ := hx9
    rcases hx9 with ⟨rfl, hk⟩ | ⟨rfl, hk⟩
    · skip
      refine h_catch B hT hN htab (pre := []) (suf := [(0, 7, 13, 20)]) (a := 0) (b := 7) (h := 8) (ct := 32) rfl (fun z hz => nomatch hz) (by decide) (by decide) (r6_in _ (List.mem_of_getElem? (i := 6) rfl)) (List.mem_of_getElem? (i := 25) rfl) hce hcv hcl ?_
      refine lv_astore (lv' := [(4, .ref q9), (0, .ref (ad 0)), (1, .int x), (2, .int hh), (3, .int dy)]) hx hb dL_move_8 hl (by decide) rfl (fun ls hl => ?_)
      refine lv_bipush (v := (-77)) hx hb dL_move_10 (by decide) ?_
      exact e_i hQ B hr hlk hS hW dL_move_12 (Nat.le_of_ble_eq_true rfl) (Nat.le_of_ble_eq_true rfl) (⟨by rw [hk, hv_1], Or.inr ⟨by rw [hk]; decide, hC⟩⟩)
    · skip
      refine h_catch B hT hN htab (pre := [(0, 7, 8, 32)]) (suf := []) (a := 0) (b := 7) (h := 13) (ct := 20) rfl (List.forall_mem_cons.mpr ⟨⟨by decide, "java/lang/IndexOutOfBoundsException", (r6_in _ (List.mem_of_getElem? (i := 6) rfl)), List.mem_of_getElem? (i := 1) rfl⟩, (fun z hz => nomatch hz)⟩) (by decide) (by decide) (r5_in _ (List.mem_of_getElem? (i := 5) rfl)) (List.mem_of_getElem? (i := 24) rfl) hce hcv hcl ?_
      refine lv_astore (lv' := [(4, .ref q9), (0, .ref (ad 0)), (1, .int x), (2, .int hh), (3, .int dy)]) hx hb dL_move_13 hl (by decide) rfl (fun ls hl => ?_)
      refine lv_bipush (v := (-78)) hx hb dL_move_15 (by decide) ?_
      exact e_i hQ B hr hlk hS hW dL_move_17 (Nat.le_of_ble_eq_true rfl) (Nat.le_of_ble_eq_true rfl) (⟨by rw [hk, hv_2], Or.inr ⟨by rw [hk]; decide, hC⟩⟩)
  · skip
    exact e_i hQ B hr hlk hS hW dL_move_7 (Nat.le_of_ble_eq_true rfl) (Nat.le_of_ble_eq_true rfl) (⟨by rw [hp.1.1, hv_0, hp.1.2], Or.inl ⟨hp.1.1, hp.2⟩⟩)
set_option maxHeartbeats 4000000 in
set_option maxRecDepth 100000 in
theorem lq_setIncome {l : Launch} (hlf : l.stackTraces = false) {D : va_G} {tys : List (ClassId × FieldType)} {ad : Nat → Nat} (hI : aI ad 109) {cI cZ cH cP cT : ClassId} {V T : Nat → Nat → Int32} {ag : Nat → Int32} {nP nH rN : Nat} {nf pn : Int32} {sp sk : Int64} {py pd : Nat → Nat → Int32} (hty : TY tys cI cZ cH cP cT) (x v dy : Int32) {E : Nat → va_E} (hC : CW cI cZ cH cP cT ad V T ag nP nH rN nf pn sp sk py pd E) (sz : Nat) : Met l yL_setIncome (Cond.codeWith yL_setIncome cL_setIncome 5 (some .int) [(0, 7, 8, 32), (0, 7, 13, 20)] :: wsL_law) (rmk 7 8 48) (va_Pc [.ref (ad 0), .int x, .int v, .int dy] (PN D tys ad 109 E sz)) (Qi D ad 109 (fun r E1 => r = hv (kSet nP x v dy) (-77) (-78) 0 (V (8 + ix x) (ix dy)) ∧ (kSet nP x v dy = 0 ∧ CW cI cZ cH cP cT ad (upd2 V (8 + ix x) (tellV (V (8 + ix x)) (T (8 + ix x)) (ix dy) v)) (upd2 T (8 + ix x) (upd (T (8 + ix x)) (ix dy) 1)) ag nP nH rN (if T (8 + ix x) (ix dy) = 0 then nf + 1 else nf) pn sp sk py pd E1 ∨ ¬ kSet nP x v dy = 0 ∧ CW cI cZ cH cP cT ad V T ag nP nH rN nf pn sp sk py pd E1)) (cA ad 109 sz)) 8 48 (cA ad 109 sz) := by
  obtain ⟨so, en, rA, rC, rI, aA, aC, aH, aT, aP, rfl, hInv⟩ := hC
  obtain ⟨hti, htz, hth, htp, htt⟩ := hty
  refine ch_of (own := RL) (Qc := Qi D ad 109 (fun r E1 => r = hv (kSet nP x v dy) (-77) (-78) 0 (V (8 + ix x) (ix dy)) ∧ (kSet nP x v dy = 0 ∧ CW cI cZ cH cP cT ad (upd2 V (8 + ix x) (tellV (V (8 + ix x)) (T (8 + ix x)) (ix dy) v)) (upd2 T (8 + ix x) (upd (T (8 + ix x)) (ix dy) 1)) ag nP nH rN (if T (8 + ix x) (ix dy) = 0 then nf + 1 else nf) pn sp sk py pd E1 ∨ ¬ kSet nP x v dy = 0 ∧ CW cI cZ cH cP cT ad V T ag nP nH rN nf pn sp sk py pd E1))) rfl (by decide +kernel) (Nat.le_of_ble_eq_true rfl) ?_ sz
  intro p e s m args below meth c ls Q B hT hX hN hW hr hlk htab hl hS hA hQ
  have hx := B.1
  have hb := B.2.1
  have hl : lv_has ls 5 [(0, .ref (ad 0)), (1, .int x), (2, .int v), (3, .int dy)] := hl
  refine lv_aload_n hx hb dL_setIncome_0 rfl (lv_at hl 0 rfl) ?_
  refine lv_iload_n hx hb dL_setIncome_1 rfl (lv_at hl 1 rfl) ?_
  refine lv_iload_n hx hb dL_setIncome_2 rfl (lv_at hl 2 rfl) ?_
  refine lv_iload_n hx hb dL_setIncome_3 rfl (lv_at hl 3 rfl) ?_
  refine y_xci (y_xrunV (ad' := ad) (σ := fun k => k) (n9 := 109) (k := 0) B hT hX hW hS (fun k h => h) (fun _ _ => rfl) (fun _ _ => rfl) (As := [.int x, .int v, .int dy]) (rest := []) (fun sz => mt_setIncome hlf hI V T ag nP nH rN nf pn sp sk py pd so en rA rC rI aA aC aH aT aP x v dy hti htz hth htp htt hInv sz) (cwL_34 B.2.2.2.2.1 ⟨Nat.le_of_ble_eq_true rfl, Nat.le_of_ble_eq_true rfl⟩) (b_recv B hW (by decide) cE_0 rfl) rfl hl.1 (Nat.le_of_ble_eq_true rfl) dL_setIncome_4 ⟨Nat.le_of_ble_eq_true rfl, Nat.le_of_ble_eq_true rfl⟩) hI hW hS (fun k h => h) (fun _ _ => rfl) (fun E1 => E1) (fun _ _ _ => rfl) (fun E1 j hj hno => absurd rfl (hno j hj)) (fun Ex ce q9 E1 H locs hx9 hW hS hce hcv hcl => ?_) (fun r E1 H locs hp hW hS => ?_)
  · obtain ⟨hx9, hC⟩ := hx9
    rcases hx9 with ⟨rfl, hk⟩ | ⟨rfl, hk⟩
    · skip
      refine h_catch B hT hN htab (pre := []) (suf := [(0, 7, 13, 20)]) (a := 0) (b := 7) (h := 8) (ct := 32) rfl (fun z hz => nomatch hz) (by decide) (by decide) (r6_in _ (List.mem_of_getElem? (i := 6) rfl)) (List.mem_of_getElem? (i := 25) rfl) hce hcv hcl ?_
      refine lv_astore (lv' := [(4, .ref q9), (0, .ref (ad 0)), (1, .int x), (2, .int v), (3, .int dy)]) hx hb dL_setIncome_8 hl (by decide) rfl (fun ls hl => ?_)
      refine lv_bipush (v := (-77)) hx hb dL_setIncome_10 (by decide) ?_
      exact e_i hQ B hr hlk hS hW dL_setIncome_12 (Nat.le_of_ble_eq_true rfl) (Nat.le_of_ble_eq_true rfl) (⟨by rw [hk, hv_1], Or.inr ⟨by rw [hk]; decide, hC⟩⟩)
    · skip
      refine h_catch B hT hN htab (pre := [(0, 7, 8, 32)]) (suf := []) (a := 0) (b := 7) (h := 13) (ct := 20) rfl (List.forall_mem_cons.mpr ⟨⟨by decide, "java/lang/IndexOutOfBoundsException", (r6_in _ (List.mem_of_getElem? (i := 6) rfl)), List.mem_of_getElem? (i := 1) rfl⟩, (fun z hz => nomatch hz)⟩) (by decide) (by decide) (r5_in _ (List.mem_of_getElem? (i := 5) rfl)) (List.mem_of_getElem? (i := 24) rfl) hce hcv hcl ?_
      refine lv_astore (lv' := [(4, .ref q9), (0, .ref (ad 0)), (1, .int x), (2, .int v), (3, .int dy)]) hx hb dL_setIncome_13 hl (by decide) rfl (fun ls hl => ?_)
      refine lv_bipush (v := (-78)) hx hb dL_setIncome_15 (by decide) ?_
      exact e_i hQ B hr hlk hS hW dL_setIncome_17 (Nat.le_of_ble_eq_true rfl) (Nat.le_of_ble_eq_true rfl) (⟨by rw [hk, hv_2], Or.inr ⟨by rw [hk]; decide, hC⟩⟩)
  · skip
    exact e_i hQ B hr hlk hS hW dL_setIncome_7 (Nat.le_of_ble_eq_true rfl) (Nat.le_of_ble_eq_true rfl) (⟨by rw [hp.1.1, hv_0, hp.1.2], Or.inl ⟨hp.1.1, hp.2⟩⟩)
set_option maxHeartbeats 4000000 in
set_option maxRecDepth 100000 in
theorem lq_setRent {l : Launch} (hlf : l.stackTraces = false) {D : va_G} {tys : List (ClassId × FieldType)} {ad : Nat → Nat} (hI : aI ad 109) {cI cZ cH cP cT : ClassId} {V T : Nat → Nat → Int32} {ag : Nat → Int32} {nP nH rN : Nat} {nf pn : Int32} {sp sk : Int64} {py pd : Nat → Nat → Int32} (hty : TY tys cI cZ cH cP cT) (x v dy : Int32) {E : Nat → va_E} (hC : CW cI cZ cH cP cT ad V T ag nP nH rN nf pn sp sk py pd E) (sz : Nat) : Met l yL_setRent (Cond.codeWith yL_setRent cL_setRent 5 (some .int) [(0, 7, 8, 32), (0, 7, 13, 20)] :: wsL_law) (rmk 7 8 48) (va_Pc [.ref (ad 0), .int x, .int v, .int dy] (PN D tys ad 109 E sz)) (Qi D ad 109 (fun r E1 => r = hv (kSet nH x v dy) (-77) (-78) 0 (V (16 + ix x) (ix dy)) ∧ (kSet nH x v dy = 0 ∧ CW cI cZ cH cP cT ad (upd2 V (16 + ix x) (tellV (V (16 + ix x)) (T (16 + ix x)) (ix dy) v)) (upd2 T (16 + ix x) (upd (T (16 + ix x)) (ix dy) 1)) ag nP nH rN (if T (16 + ix x) (ix dy) = 0 then nf + 1 else nf) pn sp sk py pd E1 ∨ ¬ kSet nH x v dy = 0 ∧ CW cI cZ cH cP cT ad V T ag nP nH rN nf pn sp sk py pd E1)) (cA ad 109 sz)) 8 48 (cA ad 109 sz) := by
  obtain ⟨so, en, rA, rC, rI, aA, aC, aH, aT, aP, rfl, hInv⟩ := hC
  obtain ⟨hti, htz, hth, htp, htt⟩ := hty
  refine ch_of (own := RL) (Qc := Qi D ad 109 (fun r E1 => r = hv (kSet nH x v dy) (-77) (-78) 0 (V (16 + ix x) (ix dy)) ∧ (kSet nH x v dy = 0 ∧ CW cI cZ cH cP cT ad (upd2 V (16 + ix x) (tellV (V (16 + ix x)) (T (16 + ix x)) (ix dy) v)) (upd2 T (16 + ix x) (upd (T (16 + ix x)) (ix dy) 1)) ag nP nH rN (if T (16 + ix x) (ix dy) = 0 then nf + 1 else nf) pn sp sk py pd E1 ∨ ¬ kSet nH x v dy = 0 ∧ CW cI cZ cH cP cT ad V T ag nP nH rN nf pn sp sk py pd E1))) rfl (by decide +kernel) (Nat.le_of_ble_eq_true rfl) ?_ sz
  intro p e s m args below meth c ls Q B hT hX hN hW hr hlk htab hl hS hA hQ
  have hx := B.1
  have hb := B.2.1
  have hl : lv_has ls 5 [(0, .ref (ad 0)), (1, .int x), (2, .int v), (3, .int dy)] := hl
  refine lv_aload_n hx hb dL_setRent_0 rfl (lv_at hl 0 rfl) ?_
  refine lv_iload_n hx hb dL_setRent_1 rfl (lv_at hl 1 rfl) ?_
  refine lv_iload_n hx hb dL_setRent_2 rfl (lv_at hl 2 rfl) ?_
  refine lv_iload_n hx hb dL_setRent_3 rfl (lv_at hl 3 rfl) ?_
  refine y_xci (y_xrunV (ad' := ad) (σ := fun k => k) (n9 := 109) (k := 0) B hT hX hW hS (fun k h => h) (fun _ _ => rfl) (fun _ _ => rfl) (As := [.int x, .int v, .int dy]) (rest := []) (fun sz => mt_setRent hlf hI V T ag nP nH rN nf pn sp sk py pd so en rA rC rI aA aC aH aT aP x v dy hti htz hth htp htt hInv sz) (cwL_37 B.2.2.2.2.1 ⟨Nat.le_of_ble_eq_true rfl, Nat.le_of_ble_eq_true rfl⟩) (b_recv B hW (by decide) cE_0 rfl) rfl hl.1 (Nat.le_of_ble_eq_true rfl) dL_setRent_4 ⟨Nat.le_of_ble_eq_true rfl, Nat.le_of_ble_eq_true rfl⟩) hI hW hS (fun k h => h) (fun _ _ => rfl) (fun E1 => E1) (fun _ _ _ => rfl) (fun E1 j hj hno => absurd rfl (hno j hj)) (fun Ex ce q9 E1 H locs hx9 hW hS hce hcv hcl => ?_) (fun r E1 H locs hp hW hS => ?_)
  · obtain ⟨hx9, hC⟩ := hx9
    rcases hx9 with ⟨rfl, hk⟩ | ⟨rfl, hk⟩
    · skip
      refine h_catch B hT hN htab (pre := []) (suf := [(0, 7, 13, 20)]) (a := 0) (b := 7) (h := 8) (ct := 32) rfl (fun z hz => nomatch hz) (by decide) (by decide) (r6_in _ (List.mem_of_getElem? (i := 6) rfl)) (List.mem_of_getElem? (i := 25) rfl) hce hcv hcl ?_
      refine lv_astore (lv' := [(4, .ref q9), (0, .ref (ad 0)), (1, .int x), (2, .int v), (3, .int dy)]) hx hb dL_setRent_8 hl (by decide) rfl (fun ls hl => ?_)
      refine lv_bipush (v := (-77)) hx hb dL_setRent_10 (by decide) ?_
      exact e_i hQ B hr hlk hS hW dL_setRent_12 (Nat.le_of_ble_eq_true rfl) (Nat.le_of_ble_eq_true rfl) (⟨by rw [hk, hv_1], Or.inr ⟨by rw [hk]; decide, hC⟩⟩)
    · skip
      refine h_catch B hT hN htab (pre := [(0, 7, 8, 32)]) (suf := []) (a := 0) (b := 7) (h := 13) (ct := 20) rfl (List.forall_mem_cons.mpr ⟨⟨by decide, "java/lang/IndexOutOfBoundsException", (r6_in _ (List.mem_of_getElem? (i := 6) rfl)), List.mem_of_getElem? (i := 1) rfl⟩, (fun z hz => nomatch hz)⟩) (by decide) (by decide) (r5_in _ (List.mem_of_getElem? (i := 5) rfl)) (List.mem_of_getElem? (i := 24) rfl) hce hcv hcl ?_
      refine lv_astore (lv' := [(4, .ref q9), (0, .ref (ad 0)), (1, .int x), (2, .int v), (3, .int dy)]) hx hb dL_setRent_13 hl (by decide) rfl (fun ls hl => ?_)
      refine lv_bipush (v := (-78)) hx hb dL_setRent_15 (by decide) ?_
      exact e_i hQ B hr hlk hS hW dL_setRent_17 (Nat.le_of_ble_eq_true rfl) (Nat.le_of_ble_eq_true rfl) (⟨by rw [hk, hv_2], Or.inr ⟨by rw [hk]; decide, hC⟩⟩)
  · skip
    exact e_i hQ B hr hlk hS hW dL_setRent_7 (Nat.le_of_ble_eq_true rfl) (Nat.le_of_ble_eq_true rfl) (⟨by rw [hp.1.1, hv_0, hp.1.2], Or.inl ⟨hp.1.1, hp.2⟩⟩)
set_option maxHeartbeats 4000000 in
set_option maxRecDepth 100000 in
theorem lq_setRule {l : Launch} (hlf : l.stackTraces = false) {D : va_G} {tys : List (ClassId × FieldType)} {ad : Nat → Nat} (hI : aI ad 109) {cI cZ cH cP cT : ClassId} {V T : Nat → Nat → Int32} {ag : Nat → Int32} {nP nH rN : Nat} {nf pn : Int32} {sp sk : Int64} {py pd : Nat → Nat → Int32} (hty : TY tys cI cZ cH cP cT) (x v dy : Int32) {E : Nat → va_E} (hC : CW cI cZ cH cP cT ad V T ag nP nH rN nf pn sp sk py pd E) (sz : Nat) : Met l yL_setRule (Cond.codeWith yL_setRule cL_setRule 5 (some .int) [(0, 7, 8, 44), (0, 7, 13, 20)] :: wsL_law) (rmk 7 8 48) (va_Pc [.ref (ad 0), .int x, .int v, .int dy] (PN D tys ad 109 E sz)) (Qi D ad 109 (fun r E1 => r = hv (kRule x v dy) (-75) (-78) 0 (V (20 + rIx x) (ix dy)) ∧ (kRule x v dy = 0 ∧ CW cI cZ cH cP cT ad (upd2 V (20 + rIx x) (tellV (V (20 + rIx x)) (T (20 + rIx x)) (ix dy) v)) (upd2 T (20 + rIx x) (upd (T (20 + rIx x)) (ix dy) 1)) ag nP nH rN (if T (20 + rIx x) (ix dy) = 0 then nf + 1 else nf) pn sp sk py pd E1 ∨ ¬ kRule x v dy = 0 ∧ CW cI cZ cH cP cT ad V T ag nP nH rN nf pn sp sk py pd E1)) (cA ad 109 sz)) 8 48 (cA ad 109 sz) := by
  obtain ⟨so, en, rA, rC, rI, aA, aC, aH, aT, aP, rfl, hInv⟩ := hC
  obtain ⟨hti, htz, hth, htp, htt⟩ := hty
  refine ch_of (own := RL) (Qc := Qi D ad 109 (fun r E1 => r = hv (kRule x v dy) (-75) (-78) 0 (V (20 + rIx x) (ix dy)) ∧ (kRule x v dy = 0 ∧ CW cI cZ cH cP cT ad (upd2 V (20 + rIx x) (tellV (V (20 + rIx x)) (T (20 + rIx x)) (ix dy) v)) (upd2 T (20 + rIx x) (upd (T (20 + rIx x)) (ix dy) 1)) ag nP nH rN (if T (20 + rIx x) (ix dy) = 0 then nf + 1 else nf) pn sp sk py pd E1 ∨ ¬ kRule x v dy = 0 ∧ CW cI cZ cH cP cT ad V T ag nP nH rN nf pn sp sk py pd E1))) rfl (by decide +kernel) (Nat.le_of_ble_eq_true rfl) ?_ sz
  intro p e s m args below meth c ls Q B hT hX hN hW hr hlk htab hl hS hA hQ
  have hx := B.1
  have hb := B.2.1
  have hl : lv_has ls 5 [(0, .ref (ad 0)), (1, .int x), (2, .int v), (3, .int dy)] := hl
  refine lv_aload_n hx hb dL_setRule_0 rfl (lv_at hl 0 rfl) ?_
  refine lv_iload_n hx hb dL_setRule_1 rfl (lv_at hl 1 rfl) ?_
  refine lv_iload_n hx hb dL_setRule_2 rfl (lv_at hl 2 rfl) ?_
  refine lv_iload_n hx hb dL_setRule_3 rfl (lv_at hl 3 rfl) ?_
  refine y_xci (y_xrunV (ad' := ad) (σ := fun k => k) (n9 := 109) (k := 0) B hT hX hW hS (fun k h => h) (fun _ _ => rfl) (fun _ _ => rfl) (As := [.int x, .int v, .int dy]) (rest := []) (fun sz => mt_setRule hlf hI V T ag nP nH rN nf pn sp sk py pd so en rA rC rI aA aC aH aT aP x v dy hti htz hth htp htt hInv sz) (cwL_40 B.2.2.2.2.1 ⟨Nat.le_of_ble_eq_true rfl, Nat.le_of_ble_eq_true rfl⟩) (b_recv B hW (by decide) cE_0 rfl) rfl hl.1 (Nat.le_of_ble_eq_true rfl) dL_setRule_4 ⟨Nat.le_of_ble_eq_true rfl, Nat.le_of_ble_eq_true rfl⟩) hI hW hS (fun k h => h) (fun _ _ => rfl) (fun E1 => E1) (fun _ _ _ => rfl) (fun E1 j hj hno => absurd rfl (hno j hj)) (fun Ex ce q9 E1 H locs hx9 hW hS hce hcv hcl => ?_) (fun r E1 H locs hp hW hS => ?_)
  · obtain ⟨hx9, hC⟩ := hx9
    rcases hx9 with ⟨rfl, hk⟩ | ⟨rfl, hk⟩
    · skip
      refine h_catch B hT hN htab (pre := []) (suf := [(0, 7, 13, 20)]) (a := 0) (b := 7) (h := 8) (ct := 44) rfl (fun z hz => nomatch hz) (by decide) (by decide) (r12_in _ (List.mem_of_getElem? (i := 1) rfl)) (List.mem_of_getElem? (i := 26) rfl) hce hcv hcl ?_
      refine lv_astore (lv' := [(4, .ref q9), (0, .ref (ad 0)), (1, .int x), (2, .int v), (3, .int dy)]) hx hb dL_setRule_8 hl (by decide) rfl (fun ls hl => ?_)
      refine lv_bipush (v := (-75)) hx hb dL_setRule_10 (by decide) ?_
      exact e_i hQ B hr hlk hS hW dL_setRule_12 (Nat.le_of_ble_eq_true rfl) (Nat.le_of_ble_eq_true rfl) (⟨by rw [hk, hv_1], Or.inr ⟨by rw [hk]; decide, hC⟩⟩)
    · skip
      refine h_catch B hT hN htab (pre := [(0, 7, 8, 44)]) (suf := []) (a := 0) (b := 7) (h := 13) (ct := 20) rfl (List.forall_mem_cons.mpr ⟨⟨by decide, "java/util/NoSuchElementException", (r12_in _ (List.mem_of_getElem? (i := 1) rfl)), List.mem_of_getElem? (i := 2) rfl⟩, (fun z hz => nomatch hz)⟩) (by decide) (by decide) (r5_in _ (List.mem_of_getElem? (i := 5) rfl)) (List.mem_of_getElem? (i := 24) rfl) hce hcv hcl ?_
      refine lv_astore (lv' := [(4, .ref q9), (0, .ref (ad 0)), (1, .int x), (2, .int v), (3, .int dy)]) hx hb dL_setRule_13 hl (by decide) rfl (fun ls hl => ?_)
      refine lv_bipush (v := (-78)) hx hb dL_setRule_15 (by decide) ?_
      exact e_i hQ B hr hlk hS hW dL_setRule_17 (Nat.le_of_ble_eq_true rfl) (Nat.le_of_ble_eq_true rfl) (⟨by rw [hk, hv_2], Or.inr ⟨by rw [hk]; decide, hC⟩⟩)
  · skip
    exact e_i hQ B hr hlk hS hW dL_setRule_7 (Nat.le_of_ble_eq_true rfl) (Nat.le_of_ble_eq_true rfl) (⟨by rw [hp.1.1, hv_0, hp.1.2], Or.inl ⟨hp.1.1, hp.2⟩⟩)
set_option maxHeartbeats 4000000 in
set_option maxRecDepth 100000 in
theorem lq_takeBackMove {l : Launch} (hlf : l.stackTraces = false) {D : va_G} {tys : List (ClassId × FieldType)} {ad : Nat → Nat} (hI : aI ad 109) {cI cZ cH cP cT : ClassId} {V T : Nat → Nat → Int32} {ag : Nat → Int32} {nP nH rN : Nat} {nf pn : Int32} {sp sk : Int64} {py pd : Nat → Nat → Int32} (hty : TY tys cI cZ cH cP cT) (x dy : Int32) {E : Nat → va_E} (hC : CW cI cZ cH cP cT ad V T ag nP nH rN nf pn sp sk py pd E) (sz : Nat) : Met l yL_takeBackMove (Cond.codeWith yL_takeBackMove cL_takeBackMove 4 (some .int) [(0, 6, 7, 32), (0, 6, 11, 44)] :: wsL_law) (rmk 7 8 48) (va_Pc [.ref (ad 0), .int x, .int dy] (PN D tys ad 109 E sz)) (Qi D ad 109 (fun r E1 => r = hv (kTake T 0 nP x dy) (-77) (-75) 0 (V (0 + ix x) (ix dy)) ∧ (kTake T 0 nP x dy = 0 ∧ CW cI cZ cH cP cT ad (upd2 V (0 + ix x) (takeV (V (0 + ix x)) (T (0 + ix x)) (ix dy) (w0 (0 + ix x)))) (upd2 T (0 + ix x) (upd (T (0 + ix x)) (ix dy) 0)) ag nP nH rN (nf - 1) pn sp sk py pd E1 ∨ ¬ kTake T 0 nP x dy = 0 ∧ CW cI cZ cH cP cT ad V T ag nP nH rN nf pn sp sk py pd E1)) (cA ad 109 sz)) 8 48 (cA ad 109 sz) := by
  obtain ⟨so, en, rA, rC, rI, aA, aC, aH, aT, aP, rfl, hInv⟩ := hC
  obtain ⟨hti, htz, hth, htp, htt⟩ := hty
  refine ch_of (own := RL) (Qc := Qi D ad 109 (fun r E1 => r = hv (kTake T 0 nP x dy) (-77) (-75) 0 (V (0 + ix x) (ix dy)) ∧ (kTake T 0 nP x dy = 0 ∧ CW cI cZ cH cP cT ad (upd2 V (0 + ix x) (takeV (V (0 + ix x)) (T (0 + ix x)) (ix dy) (w0 (0 + ix x)))) (upd2 T (0 + ix x) (upd (T (0 + ix x)) (ix dy) 0)) ag nP nH rN (nf - 1) pn sp sk py pd E1 ∨ ¬ kTake T 0 nP x dy = 0 ∧ CW cI cZ cH cP cT ad V T ag nP nH rN nf pn sp sk py pd E1))) rfl (by decide +kernel) (Nat.le_of_ble_eq_true rfl) ?_ sz
  intro p e s m args below meth c ls Q B hT hX hN hW hr hlk htab hl hS hA hQ
  have hx := B.1
  have hb := B.2.1
  have hl : lv_has ls 4 [(0, .ref (ad 0)), (1, .int x), (2, .int dy)] := hl
  refine lv_aload_n hx hb dL_takeBackMove_0 rfl (lv_at hl 0 rfl) ?_
  refine lv_iload_n hx hb dL_takeBackMove_1 rfl (lv_at hl 1 rfl) ?_
  refine lv_iload_n hx hb dL_takeBackMove_2 rfl (lv_at hl 2 rfl) ?_
  refine y_xci (y_xrunV (ad' := ad) (σ := fun k => k) (n9 := 109) (k := 0) B hT hX hW hS (fun k h => h) (fun _ _ => rfl) (fun _ _ => rfl) (As := [.int x, .int dy]) (rest := []) (fun sz => mt_takeBackMove hlf hI V T ag nP nH rN nf pn sp sk py pd so en rA rC rI aA aC aH aT aP x dy hti htz hth htp htt hInv sz) (cwL_46 B.2.2.2.2.1 ⟨Nat.le_of_ble_eq_true rfl, Nat.le_of_ble_eq_true rfl⟩) (b_recv B hW (by decide) cE_0 rfl) rfl hl.1 (Nat.le_of_ble_eq_true rfl) dL_takeBackMove_3 ⟨Nat.le_of_ble_eq_true rfl, Nat.le_of_ble_eq_true rfl⟩) hI hW hS (fun k h => h) (fun _ _ => rfl) (fun E1 => E1) (fun _ _ _ => rfl) (fun E1 j hj hno => absurd rfl (hno j hj)) (fun Ex ce q9 E1 H locs hx9 hW hS hce hcv hcl => ?_) (fun r E1 H locs hp hW hS => ?_)
  · obtain ⟨hx9, hC⟩ := hx9
    rcases hx9 with ⟨rfl, hk⟩ | ⟨rfl, hk⟩
    · skip
      refine h_catch B hT hN htab (pre := []) (suf := [(0, 6, 11, 44)]) (a := 0) (b := 6) (h := 7) (ct := 32) rfl (fun z hz => nomatch hz) (by decide) (by decide) (r6_in _ (List.mem_of_getElem? (i := 6) rfl)) (List.mem_of_getElem? (i := 25) rfl) hce hcv hcl ?_
      refine lv_astore_n (lv' := [(3, .ref q9), (0, .ref (ad 0)), (1, .int x), (2, .int dy)]) hx hb dL_takeBackMove_7 rfl hl (by decide) rfl (fun ls hl => ?_)
      refine lv_bipush (v := (-77)) hx hb dL_takeBackMove_8 (by decide) ?_
      exact e_i hQ B hr hlk hS hW dL_takeBackMove_10 (Nat.le_of_ble_eq_true rfl) (Nat.le_of_ble_eq_true rfl) (⟨by rw [hk, hv_1], Or.inr ⟨by rw [hk]; decide, hC⟩⟩)
    · skip
      refine h_catch B hT hN htab (pre := [(0, 6, 7, 32)]) (suf := []) (a := 0) (b := 6) (h := 11) (ct := 44) rfl (List.forall_mem_cons.mpr ⟨⟨by decide, "java/lang/IndexOutOfBoundsException", (r6_in _ (List.mem_of_getElem? (i := 6) rfl)), List.mem_of_getElem? (i := 3) rfl⟩, (fun z hz => nomatch hz)⟩) (by decide) (by decide) (r12_in _ (List.mem_of_getElem? (i := 1) rfl)) (List.mem_of_getElem? (i := 26) rfl) hce hcv hcl ?_
      refine lv_astore_n (lv' := [(3, .ref q9), (0, .ref (ad 0)), (1, .int x), (2, .int dy)]) hx hb dL_takeBackMove_11 rfl hl (by decide) rfl (fun ls hl => ?_)
      refine lv_bipush (v := (-75)) hx hb dL_takeBackMove_12 (by decide) ?_
      exact e_i hQ B hr hlk hS hW dL_takeBackMove_14 (Nat.le_of_ble_eq_true rfl) (Nat.le_of_ble_eq_true rfl) (⟨by rw [hk, hv_2], Or.inr ⟨by rw [hk]; decide, hC⟩⟩)
  · skip
    exact e_i hQ B hr hlk hS hW dL_takeBackMove_6 (Nat.le_of_ble_eq_true rfl) (Nat.le_of_ble_eq_true rfl) (⟨by rw [hp.1.1, hv_0, hp.1.2], Or.inl ⟨hp.1.1, hp.2⟩⟩)
set_option maxHeartbeats 4000000 in
set_option maxRecDepth 100000 in
theorem lq_takeBackIncome {l : Launch} (hlf : l.stackTraces = false) {D : va_G} {tys : List (ClassId × FieldType)} {ad : Nat → Nat} (hI : aI ad 109) {cI cZ cH cP cT : ClassId} {V T : Nat → Nat → Int32} {ag : Nat → Int32} {nP nH rN : Nat} {nf pn : Int32} {sp sk : Int64} {py pd : Nat → Nat → Int32} (hty : TY tys cI cZ cH cP cT) (x dy : Int32) {E : Nat → va_E} (hC : CW cI cZ cH cP cT ad V T ag nP nH rN nf pn sp sk py pd E) (sz : Nat) : Met l yL_takeBackIncome (Cond.codeWith yL_takeBackIncome cL_takeBackIncome 4 (some .int) [(0, 6, 7, 32), (0, 6, 11, 44)] :: wsL_law) (rmk 7 8 48) (va_Pc [.ref (ad 0), .int x, .int dy] (PN D tys ad 109 E sz)) (Qi D ad 109 (fun r E1 => r = hv (kTake T 8 nP x dy) (-77) (-75) 0 (V (8 + ix x) (ix dy)) ∧ (kTake T 8 nP x dy = 0 ∧ CW cI cZ cH cP cT ad (upd2 V (8 + ix x) (takeV (V (8 + ix x)) (T (8 + ix x)) (ix dy) (w0 (8 + ix x)))) (upd2 T (8 + ix x) (upd (T (8 + ix x)) (ix dy) 0)) ag nP nH rN (nf - 1) pn sp sk py pd E1 ∨ ¬ kTake T 8 nP x dy = 0 ∧ CW cI cZ cH cP cT ad V T ag nP nH rN nf pn sp sk py pd E1)) (cA ad 109 sz)) 8 48 (cA ad 109 sz) := by
  obtain ⟨so, en, rA, rC, rI, aA, aC, aH, aT, aP, rfl, hInv⟩ := hC
  obtain ⟨hti, htz, hth, htp, htt⟩ := hty
  refine ch_of (own := RL) (Qc := Qi D ad 109 (fun r E1 => r = hv (kTake T 8 nP x dy) (-77) (-75) 0 (V (8 + ix x) (ix dy)) ∧ (kTake T 8 nP x dy = 0 ∧ CW cI cZ cH cP cT ad (upd2 V (8 + ix x) (takeV (V (8 + ix x)) (T (8 + ix x)) (ix dy) (w0 (8 + ix x)))) (upd2 T (8 + ix x) (upd (T (8 + ix x)) (ix dy) 0)) ag nP nH rN (nf - 1) pn sp sk py pd E1 ∨ ¬ kTake T 8 nP x dy = 0 ∧ CW cI cZ cH cP cT ad V T ag nP nH rN nf pn sp sk py pd E1))) rfl (by decide +kernel) (Nat.le_of_ble_eq_true rfl) ?_ sz
  intro p e s m args below meth c ls Q B hT hX hN hW hr hlk htab hl hS hA hQ
  have hx := B.1
  have hb := B.2.1
  have hl : lv_has ls 4 [(0, .ref (ad 0)), (1, .int x), (2, .int dy)] := hl
  refine lv_aload_n hx hb dL_takeBackIncome_0 rfl (lv_at hl 0 rfl) ?_
  refine lv_iload_n hx hb dL_takeBackIncome_1 rfl (lv_at hl 1 rfl) ?_
  refine lv_iload_n hx hb dL_takeBackIncome_2 rfl (lv_at hl 2 rfl) ?_
  refine y_xci (y_xrunV (ad' := ad) (σ := fun k => k) (n9 := 109) (k := 0) B hT hX hW hS (fun k h => h) (fun _ _ => rfl) (fun _ _ => rfl) (As := [.int x, .int dy]) (rest := []) (fun sz => mt_takeBackIncome hlf hI V T ag nP nH rN nf pn sp sk py pd so en rA rC rI aA aC aH aT aP x dy hti htz hth htp htt hInv sz) (cwL_50 B.2.2.2.2.1 ⟨Nat.le_of_ble_eq_true rfl, Nat.le_of_ble_eq_true rfl⟩) (b_recv B hW (by decide) cE_0 rfl) rfl hl.1 (Nat.le_of_ble_eq_true rfl) dL_takeBackIncome_3 ⟨Nat.le_of_ble_eq_true rfl, Nat.le_of_ble_eq_true rfl⟩) hI hW hS (fun k h => h) (fun _ _ => rfl) (fun E1 => E1) (fun _ _ _ => rfl) (fun E1 j hj hno => absurd rfl (hno j hj)) (fun Ex ce q9 E1 H locs hx9 hW hS hce hcv hcl => ?_) (fun r E1 H locs hp hW hS => ?_)
  · obtain ⟨hx9, hC⟩ := hx9
    rcases hx9 with ⟨rfl, hk⟩ | ⟨rfl, hk⟩
    · skip
      refine h_catch B hT hN htab (pre := []) (suf := [(0, 6, 11, 44)]) (a := 0) (b := 6) (h := 7) (ct := 32) rfl (fun z hz => nomatch hz) (by decide) (by decide) (r6_in _ (List.mem_of_getElem? (i := 6) rfl)) (List.mem_of_getElem? (i := 25) rfl) hce hcv hcl ?_
      refine lv_astore_n (lv' := [(3, .ref q9), (0, .ref (ad 0)), (1, .int x), (2, .int dy)]) hx hb dL_takeBackIncome_7 rfl hl (by decide) rfl (fun ls hl => ?_)
      refine lv_bipush (v := (-77)) hx hb dL_takeBackIncome_8 (by decide) ?_
      exact e_i hQ B hr hlk hS hW dL_takeBackIncome_10 (Nat.le_of_ble_eq_true rfl) (Nat.le_of_ble_eq_true rfl) (⟨by rw [hk, hv_1], Or.inr ⟨by rw [hk]; decide, hC⟩⟩)
    · skip
      refine h_catch B hT hN htab (pre := [(0, 6, 7, 32)]) (suf := []) (a := 0) (b := 6) (h := 11) (ct := 44) rfl (List.forall_mem_cons.mpr ⟨⟨by decide, "java/lang/IndexOutOfBoundsException", (r6_in _ (List.mem_of_getElem? (i := 6) rfl)), List.mem_of_getElem? (i := 3) rfl⟩, (fun z hz => nomatch hz)⟩) (by decide) (by decide) (r12_in _ (List.mem_of_getElem? (i := 1) rfl)) (List.mem_of_getElem? (i := 26) rfl) hce hcv hcl ?_
      refine lv_astore_n (lv' := [(3, .ref q9), (0, .ref (ad 0)), (1, .int x), (2, .int dy)]) hx hb dL_takeBackIncome_11 rfl hl (by decide) rfl (fun ls hl => ?_)
      refine lv_bipush (v := (-75)) hx hb dL_takeBackIncome_12 (by decide) ?_
      exact e_i hQ B hr hlk hS hW dL_takeBackIncome_14 (Nat.le_of_ble_eq_true rfl) (Nat.le_of_ble_eq_true rfl) (⟨by rw [hk, hv_2], Or.inr ⟨by rw [hk]; decide, hC⟩⟩)
  · skip
    exact e_i hQ B hr hlk hS hW dL_takeBackIncome_6 (Nat.le_of_ble_eq_true rfl) (Nat.le_of_ble_eq_true rfl) (⟨by rw [hp.1.1, hv_0, hp.1.2], Or.inl ⟨hp.1.1, hp.2⟩⟩)
set_option maxHeartbeats 4000000 in
set_option maxRecDepth 100000 in
theorem lq_takeBackRule {l : Launch} (hlf : l.stackTraces = false) {D : va_G} {tys : List (ClassId × FieldType)} {ad : Nat → Nat} (hI : aI ad 109) {cI cZ cH cP cT : ClassId} {V T : Nat → Nat → Int32} {ag : Nat → Int32} {nP nH rN : Nat} {nf pn : Int32} {sp sk : Int64} {py pd : Nat → Nat → Int32} (hty : TY tys cI cZ cH cP cT) (x dy : Int32) {E : Nat → va_E} (hC : CW cI cZ cH cP cT ad V T ag nP nH rN nf pn sp sk py pd E) (sz : Nat) : Met l yL_takeBackRule (Cond.codeWith yL_takeBackRule cL_takeBackRule 4 (some .int) [(0, 6, 7, 44), (0, 6, 11, 57)] :: wsL_law) (rmk 7 8 48) (va_Pc [.ref (ad 0), .int x, .int dy] (PN D tys ad 109 E sz)) (Qi D ad 109 (fun r E1 => r = hv (kTakeR T x dy) (-75) (-76) 0 (V (20 + rIx x) (ix dy)) ∧ (kTakeR T x dy = 0 ∧ CW cI cZ cH cP cT ad (upd2 V (20 + rIx x) (takeV (V (20 + rIx x)) (T (20 + rIx x)) (ix dy) (w0 (20 + rIx x)))) (upd2 T (20 + rIx x) (upd (T (20 + rIx x)) (ix dy) 0)) ag nP nH rN (nf - 1) pn sp sk py pd E1 ∨ ¬ kTakeR T x dy = 0 ∧ CW cI cZ cH cP cT ad V T ag nP nH rN nf pn sp sk py pd E1)) (cA ad 109 sz)) 8 48 (cA ad 109 sz) := by
  obtain ⟨so, en, rA, rC, rI, aA, aC, aH, aT, aP, rfl, hInv⟩ := hC
  obtain ⟨hti, htz, hth, htp, htt⟩ := hty
  refine ch_of (own := RL) (Qc := Qi D ad 109 (fun r E1 => r = hv (kTakeR T x dy) (-75) (-76) 0 (V (20 + rIx x) (ix dy)) ∧ (kTakeR T x dy = 0 ∧ CW cI cZ cH cP cT ad (upd2 V (20 + rIx x) (takeV (V (20 + rIx x)) (T (20 + rIx x)) (ix dy) (w0 (20 + rIx x)))) (upd2 T (20 + rIx x) (upd (T (20 + rIx x)) (ix dy) 0)) ag nP nH rN (nf - 1) pn sp sk py pd E1 ∨ ¬ kTakeR T x dy = 0 ∧ CW cI cZ cH cP cT ad V T ag nP nH rN nf pn sp sk py pd E1))) rfl (by decide +kernel) (Nat.le_of_ble_eq_true rfl) ?_ sz
  intro p e s m args below meth c ls Q B hT hX hN hW hr hlk htab hl hS hA hQ
  have hx := B.1
  have hb := B.2.1
  have hl : lv_has ls 4 [(0, .ref (ad 0)), (1, .int x), (2, .int dy)] := hl
  refine lv_aload_n hx hb dL_takeBackRule_0 rfl (lv_at hl 0 rfl) ?_
  refine lv_iload_n hx hb dL_takeBackRule_1 rfl (lv_at hl 1 rfl) ?_
  refine lv_iload_n hx hb dL_takeBackRule_2 rfl (lv_at hl 2 rfl) ?_
  refine y_xci (y_xrunV (ad' := ad) (σ := fun k => k) (n9 := 109) (k := 0) B hT hX hW hS (fun k h => h) (fun _ _ => rfl) (fun _ _ => rfl) (As := [.int x, .int dy]) (rest := []) (fun sz => mt_takeBackRule hlf hI V T ag nP nH rN nf pn sp sk py pd so en rA rC rI aA aC aH aT aP x dy hti htz hth htp htt hInv sz) (cwL_53 B.2.2.2.2.1 ⟨Nat.le_of_ble_eq_true rfl, Nat.le_of_ble_eq_true rfl⟩) (b_recv B hW (by decide) cE_0 rfl) rfl hl.1 (Nat.le_of_ble_eq_true rfl) dL_takeBackRule_3 ⟨Nat.le_of_ble_eq_true rfl, Nat.le_of_ble_eq_true rfl⟩) hI hW hS (fun k h => h) (fun _ _ => rfl) (fun E1 => E1) (fun _ _ _ => rfl) (fun E1 j hj hno => absurd rfl (hno j hj)) (fun Ex ce q9 E1 H locs hx9 hW hS hce hcv hcl => ?_) (fun r E1 H locs hp hW hS => ?_)
  · obtain ⟨hx9, hC⟩ := hx9
    rcases hx9 with ⟨rfl, hk⟩ | ⟨rfl, hk⟩
    · skip
      refine h_catch B hT hN htab (pre := []) (suf := [(0, 6, 11, 57)]) (a := 0) (b := 6) (h := 7) (ct := 44) rfl (fun z hz => nomatch hz) (by decide) (by decide) (r12_in _ (List.mem_of_getElem? (i := 1) rfl)) (List.mem_of_getElem? (i := 26) rfl) hce hcv hcl ?_
      refine lv_astore_n (lv' := [(3, .ref q9), (0, .ref (ad 0)), (1, .int x), (2, .int dy)]) hx hb dL_takeBackRule_7 rfl hl (by decide) rfl (fun ls hl => ?_)
      refine lv_bipush (v := (-75)) hx hb dL_takeBackRule_8 (by decide) ?_
      exact e_i hQ B hr hlk hS hW dL_takeBackRule_10 (Nat.le_of_ble_eq_true rfl) (Nat.le_of_ble_eq_true rfl) (⟨by rw [hk, hv_1], Or.inr ⟨by rw [hk]; decide, hC⟩⟩)
    · skip
      refine h_catch B hT hN htab (pre := [(0, 6, 7, 44)]) (suf := []) (a := 0) (b := 6) (h := 11) (ct := 57) rfl (List.forall_mem_cons.mpr ⟨⟨by decide, "java/util/NoSuchElementException", (r12_in _ (List.mem_of_getElem? (i := 1) rfl)), List.mem_of_getElem? (i := 4) rfl⟩, (fun z hz => nomatch hz)⟩) (by decide) (by decide) (r14_in _ (List.mem_of_getElem? (i := 0) rfl)) (List.mem_of_getElem? (i := 27) rfl) hce hcv hcl ?_
      refine lv_astore_n (lv' := [(3, .ref q9), (0, .ref (ad 0)), (1, .int x), (2, .int dy)]) hx hb dL_takeBackRule_11 rfl hl (by decide) rfl (fun ls hl => ?_)
      refine lv_bipush (v := (-76)) hx hb dL_takeBackRule_12 (by decide) ?_
      exact e_i hQ B hr hlk hS hW dL_takeBackRule_14 (Nat.le_of_ble_eq_true rfl) (Nat.le_of_ble_eq_true rfl) (⟨by rw [hk, hv_2], Or.inr ⟨by rw [hk]; decide, hC⟩⟩)
  · skip
    exact e_i hQ B hr hlk hS hW dL_takeBackRule_6 (Nat.le_of_ble_eq_true rfl) (Nat.le_of_ble_eq_true rfl) (⟨by rw [hp.1.1, hv_0, hp.1.2], Or.inl ⟨hp.1.1, hp.2⟩⟩)
set_option maxHeartbeats 4000000 in
set_option maxRecDepth 100000 in
theorem lq_pay {l : Launch} (hlf : l.stackTraces = false) {D : va_G} {tys : List (ClassId × FieldType)} {ad : Nat → Nat} (hI : aI ad 109) {cI cZ cH cP cT : ClassId} {V T : Nat → Nat → Int32} {ag : Nat → Int32} {nP nH rN : Nat} {nf pn : Int32} {sp sk : Int64} {py pd : Nat → Nat → Int32} (hty : TY tys cI cZ cH cP cT) {E : Nat → va_E} (hC : CW cI cZ cH cP cT ad V T ag nP nH rN nf pn sp sk py pd E) (sz : Nat) : Met l yL_pay (Cond.codeWith yL_pay cL_pay 2 (some .int) [(0, 4, 5, 22)] :: wsL_law) (rmk 7 8 48) (va_Pc [.ref (ad 0)] (PN D tys ad 109 E sz)) (Qi D ad 109 (fun r E1 => r = hv (kPay rN) (-79) 0 0 ((runS (due V ag nP) rN py pd sk nH).1) ∧ (kPay rN = 0 ∧ CW cI cZ cH cP cT ad V T ag nP nH (rN + 1) nf (pn + nI nH) (sp + (runS (due V ag nP) rN py pd sk nH).1.toInt64) ((runS (due V ag nP) rN py pd sk nH).2.2.2) ((runS (due V ag nP) rN py pd sk nH).2.1) ((runS (due V ag nP) rN py pd sk nH).2.2.1) E1 ∨ ¬ kPay rN = 0 ∧ CW cI cZ cH cP cT ad V T ag nP nH rN nf pn sp sk py pd E1)) (cA ad 109 sz)) 8 48 (cA ad 109 sz) := by
  obtain ⟨so, en, rA, rC, rI, aA, aC, aH, aT, aP, rfl, hInv⟩ := hC
  obtain ⟨hti, htz, hth, htp, htt⟩ := hty
  refine ch_of (own := RL) (Qc := Qi D ad 109 (fun r E1 => r = hv (kPay rN) (-79) 0 0 ((runS (due V ag nP) rN py pd sk nH).1) ∧ (kPay rN = 0 ∧ CW cI cZ cH cP cT ad V T ag nP nH (rN + 1) nf (pn + nI nH) (sp + (runS (due V ag nP) rN py pd sk nH).1.toInt64) ((runS (due V ag nP) rN py pd sk nH).2.2.2) ((runS (due V ag nP) rN py pd sk nH).2.1) ((runS (due V ag nP) rN py pd sk nH).2.2.1) E1 ∨ ¬ kPay rN = 0 ∧ CW cI cZ cH cP cT ad V T ag nP nH rN nf pn sp sk py pd E1))) rfl (by decide +kernel) (Nat.le_of_ble_eq_true rfl) ?_ sz
  intro p e s m args below meth c ls Q B hT hX hN hW hr hlk htab hl hS hA hQ
  have hx := B.1
  have hb := B.2.1
  have hl : lv_has ls 2 [(0, .ref (ad 0))] := hl
  refine lv_aload_n hx hb dL_pay_0 rfl (lv_at hl 0 rfl) ?_
  refine y_xci (y_xrunV (ad' := ad) (σ := fun k => k) (n9 := 109) (k := 0) B hT hX hW hS (fun k h => h) (fun _ _ => rfl) (fun _ _ => rfl) (As := []) (rest := []) (fun sz => mt_pay hlf hI V T ag nP nH rN nf pn sp sk py pd so en rA rC rI aA aC aH aT aP  hti htz hth htp htt hInv sz) (cwL_59 B.2.2.2.2.1 ⟨Nat.le_of_ble_eq_true rfl, Nat.le_of_ble_eq_true rfl⟩) (b_recv B hW (by decide) cE_0 rfl) rfl hl.1 (Nat.le_of_ble_eq_true rfl) dL_pay_1 ⟨Nat.le_of_ble_eq_true rfl, Nat.le_of_ble_eq_true rfl⟩) hI hW hS (fun k h => h) (fun _ _ => rfl) (fun E1 => E1) (fun _ _ _ => rfl) (fun E1 j hj hno => absurd rfl (hno j hj)) (fun Ex ce q9 E1 H locs hx9 hW hS hce hcv hcl => ?_) (fun r E1 H locs hp hW hS => ?_)
  · obtain ⟨hx9, hC⟩ := hx9
    obtain ⟨rfl, hk⟩ := hx9
    refine h_catch B hT hN htab (pre := []) (suf := []) (a := 0) (b := 4) (h := 5) (ct := 22) rfl (fun z hz => nomatch hz) (by decide) (by decide) (r5_in _ (List.mem_of_getElem? (i := 6) rfl)) (List.mem_of_getElem? (i := 23) rfl) hce hcv hcl ?_
    refine lv_astore_n (lv' := [(1, .ref q9), (0, .ref (ad 0))]) hx hb dL_pay_5 rfl hl (by decide) rfl (fun ls hl => ?_)
    refine lv_bipush (v := (-79)) hx hb dL_pay_6 (by decide) ?_
    exact e_i hQ B hr hlk hS hW dL_pay_8 (Nat.le_of_ble_eq_true rfl) (Nat.le_of_ble_eq_true rfl) (⟨by rw [hk, hv_1], Or.inr ⟨by rw [hk]; decide, hC⟩⟩)
  · skip
    exact e_i hQ B hr hlk hS hW dL_pay_4 (Nat.le_of_ble_eq_true rfl) (Nat.le_of_ble_eq_true rfl) (⟨by rw [hp.1.1, hv_0, hp.1.2], Or.inl ⟨hp.1.1, hp.2⟩⟩)
