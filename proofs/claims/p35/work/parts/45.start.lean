/-! ===== what the Statement gives at the law's entry ===== -/
def plx (big : List Cond) : List Cond → List Nat → Bool
  | [], _ => true
  | w :: ws, i :: is => decide (big[i]? = some w) && plx big ws is
  | _ :: _, [] => false
theorem plx_in {big : List Cond} : ∀ (ws : List Cond) (is : List Nat), plx big ws is = true → ∀ w ∈ ws, w ∈ big
  | [], _, _, _, h => absurd h List.not_mem_nil
  | w :: ws, i :: is, h, x, hx => by
    simp only [plx, Bool.and_eq_true, decide_eq_true_eq] at h
    rcases List.mem_cons.mp hx with e | e
    · rw [e]; exact List.mem_of_getElem? h.1
    · exact plx_in ws is h.2 x e
  | _ :: _, [], h, _, _ => absurd h (by simp [plx])
theorem fl_let : ∀ w ∈ ([.arrayOf (.static "BenefitOffice" "RULE_LETTERS" "[C") .char, .eq (.length (.static "BenefitOffice" "RULE_LETTERS" "[C")) (.int 7), .eq (.elem (.static "BenefitOffice" "RULE_LETTERS" "[C") (.int 0)) (.int 97), .eq (.elem (.static "BenefitOffice" "RULE_LETTERS" "[C") (.int 1)) (.int 99), .eq (.elem (.static "BenefitOffice" "RULE_LETTERS" "[C") (.int 2)) (.int 102), .eq (.elem (.static "BenefitOffice" "RULE_LETTERS" "[C") (.int 3)) (.int 114), .eq (.elem (.static "BenefitOffice" "RULE_LETTERS" "[C") (.int 4)) (.int 116), .eq (.elem (.static "BenefitOffice" "RULE_LETTERS" "[C") (.int 5)) (.int 112), .eq (.elem (.static "BenefitOffice" "RULE_LETTERS" "[C") (.int 6)) (.int 109)] : List Cond), w ∈ flatC (Jvm.Cond.and given_1 narrow_1) := plx_in _ [17, 18, 19, 20, 21, 22, 23, 24, 25] (by decide +kernel)
theorem fl_gr : ∀ w ∈ ([.arrayOf (.static "BenefitOffice" "RULE_GREATEST" "[I") .int, .eq (.length (.static "BenefitOffice" "RULE_GREATEST" "[I")) (.int 7), .eq (.elem (.static "BenefitOffice" "RULE_GREATEST" "[I") (.int 0)) (.int 99), .eq (.elem (.static "BenefitOffice" "RULE_GREATEST" "[I") (.int 1)) (.int 99), .eq (.elem (.static "BenefitOffice" "RULE_GREATEST" "[I") (.int 2)) (.int 99), .eq (.elem (.static "BenefitOffice" "RULE_GREATEST" "[I") (.int 3)) (.int 99), .eq (.elem (.static "BenefitOffice" "RULE_GREATEST" "[I") (.int 4)) (.int 999), .eq (.elem (.static "BenefitOffice" "RULE_GREATEST" "[I") (.int 5)) (.int 100), .eq (.elem (.static "BenefitOffice" "RULE_GREATEST" "[I") (.int 6)) (.int 999)] : List Cond), w ∈ flatC (Jvm.Cond.and given_1 narrow_1) := plx_in _ [27, 28, 29, 30, 31, 32, 33, 34, 35] (by decide +kernel)
theorem fl_fi : ∀ w ∈ ([.arrayOf (.static "BenefitOffice" "RULE_FIRST" "[I") .int, .eq (.length (.static "BenefitOffice" "RULE_FIRST" "[I")) (.int 7), .eq (.elem (.static "BenefitOffice" "RULE_FIRST" "[I") (.int 0)) (.int 10), .eq (.elem (.static "BenefitOffice" "RULE_FIRST" "[I") (.int 1)) (.int 5), .eq (.elem (.static "BenefitOffice" "RULE_FIRST" "[I") (.int 2)) (.int 3), .eq (.elem (.static "BenefitOffice" "RULE_FIRST" "[I") (.int 3)) (.int 20), .eq (.elem (.static "BenefitOffice" "RULE_FIRST" "[I") (.int 4)) (.int 15), .eq (.elem (.static "BenefitOffice" "RULE_FIRST" "[I") (.int 5)) (.int 50), .eq (.elem (.static "BenefitOffice" "RULE_FIRST" "[I") (.int 6)) (.int 60)] : List Cond), w ∈ flatC (Jvm.Cond.and given_1 narrow_1) := plx_in _ [5, 6, 7, 8, 9, 10, 11, 12, 13] (by decide +kernel)
theorem fl_thr : ∀ w ∈ ([.isRef (.static "java/lang/Throwable" "UNASSIGNED_STACK" "[Ljava/lang/StackTraceElement;"), .isRef (.static "java/lang/Throwable" "SUPPRESSED_SENTINEL" "Ljava/util/List;")] : List Cond), w ∈ flatC (Jvm.Cond.and given_1 narrow_1) := plx_in _ [14, 15] (by decide +kernel)
theorem fl_str : ∀ w ∈ ([.exactly (.string "BenefitOffice" 69) "java/lang/String", .exactly (.string "BenefitOffice" 80) "java/lang/String", .exactly (.string "BenefitOffice" 115) "java/lang/String", .exactly (.string "BenefitOffice" 128) "java/lang/String", .exactly (.string "BenefitOffice" 134) "java/lang/String", .exactly (.string "BenefitOffice" 152) "java/lang/String", .exactly (.string "BenefitOffice" 202) "java/lang/String", .exactly (.string "BenefitOffice" 213) "java/lang/String", .exactly (.string "BenefitOffice" 216) "java/lang/String", .exactly (.string "BenefitOffice" 220) "java/lang/String", .exactly (.string "BenefitOffice" 223) "java/lang/String", .exactly (.string "BenefitOffice" 229) "java/lang/String", .exactly (.string "BenefitOffice" 231) "java/lang/String", .exactly (.string "BenefitOffice" 233) "java/lang/String", .exactly (.string "BenefitOffice" 235) "java/lang/String", .exactly (.string "BenefitOffice" 241) "java/lang/String"] : List Cond), w ∈ flatC (Jvm.Cond.and given_1 narrow_1) := plx_in _ [137, 161, 328, 425, 473, 554, 605, 657, 717, 189, 219, 285, 253, 517, 107, 380] (by decide +kernel)
theorem fl_nc : ∀ w ∈ ([.not (.castable "java/lang/IllegalStateException" "java/lang/IllegalArgumentException"), .not (.castable "java/lang/IllegalArgumentException" "java/lang/IndexOutOfBoundsException"), .not (.castable "java/lang/IllegalArgumentException" "java/util/NoSuchElementException"), .not (.castable "java/util/NoSuchElementException" "java/lang/IndexOutOfBoundsException"), .not (.castable "java/lang/UnsupportedOperationException" "java/util/NoSuchElementException"), .not (.castable "java/util/NoSuchElementException" "java/lang/IllegalArgumentException")] : List Cond), w ∈ flatC (Jvm.Cond.and given_1 narrow_1) := plx_in _ [42, 66, 77, 68, 81, 45] (by decide +kernel)
theorem tb_nxw : ∀ w ∈ nxw, w ∈ lw_tbl := plc_in _ [52, 54, 56, 72, 74, 76, 78, 80, 116, 117, 119, 121, 122, 138, 140, 142, 47, 67, 93, 131, 255, 257, 259, 325, 253, 384, 437, 490, 719] (by decide +kernel)
theorem nxw_tab : ∀ w ∈ nxw, w.onTables = true := List.all_eq_true.mp (by decide +kernel)
theorem tb_str : ∀ w ∈ ([.stringRef "BenefitOffice" 69 "there are 8 persons", .stringRef "BenefitOffice" 80 "there are 4 households", .stringRef "BenefitOffice" 115 "the value is out of the range of the rule", .stringRef "BenefitOffice" 128 "a rule keeps its fact for the day 0", .stringRef "BenefitOffice" 134 "there was a run for each month", .stringRef "BenefitOffice" 152 "there was no run for this month yet", .stringRef "BenefitOffice" 202 "no amount changes up to the day 359", .stringRef "BenefitOffice" 213 "nothing was kept back and nothing was paid", .stringRef "BenefitOffice" 216 "there was no payment", .stringRef "BenefitOffice" 220 "there is no such person", .stringRef "BenefitOffice" 223 "there is no such household", .stringRef "BenefitOffice" 229 "there is no rule with this letter", .stringRef "BenefitOffice" 231 "the day is out of range", .stringRef "BenefitOffice" 233 "there is no such month", .stringRef "BenefitOffice" 235 "the number is out of range", .stringRef "BenefitOffice" 241 "no such fact is told for this day"] : List Cond), w ∈ lw_tbl := plc_in _ [332, 346, 453, 497, 511, 626, 686, 726, 736, 391, 399, 444, 403, 612, 296, 464] (by decide +kernel)
theorem tb_oth : ∀ w ∈ ([.laysStatic "BenefitOffice" "RULE_LETTERS" "[C", .laysStatic "BenefitOffice" "RULE_GREATEST" "[I", .laysStatic "BenefitOffice" "RULE_FIRST" "[I", .laysStatic "java/lang/Throwable" "UNASSIGNED_STACK" "[Ljava/lang/StackTraceElement;", .laysStatic "java/lang/Throwable" "SUPPRESSED_SENTINEL" "Ljava/util/List;", .initialized "BenefitOffice", .initialized "java/lang/Throwable", .arrayOver (.object "BenefitOffice$Person"), .arrayOver (.object "BenefitOffice$Household"), .arrayOver (.object "BenefitOffice$Timeline"), .arrayClass .int, .arrayClass .int, .arrayClass .int, .arrayClass .int] : List Cond), w ∈ lw_tbl := plc_in _ [434, 452, 152, 278, 280, 12, 19, 40, 42, 44, 64, 64, 64, 64] (by decide +kernel)
theorem tb_inst : ∀ w ∈ ([.instantiable RX0 5, .instantiable RX1 3, .instantiable RX2 3, .instantiable RX3 3, .instantiable RX4 3, .instantiable RX5 14] : List Cond), w ∈ lw_tbl := plc_in _ [66, 130, 92, 46, 98, 32] (by decide +kernel)
theorem lE_ix {P : Cond → Prop} {ws : List Cond} (h : ∀ w ∈ ws, P w) (i : Nat) {w : Cond} (hi : ws[i]? = some w) : P w := h w (List.mem_of_getElem? hi)
section START
variable {s : State} {args : Array Value} {A : Nat → Prop}
/-- the classes' numbers and slots, the arrays' classes -/
theorem st_K (hts : ∀ w ∈ lw_tbl, w.before args s = true) : ∃ (D : va_G) (cI cZ cH cP cT cJ cF : ClassId), va_K D cls7 [(cI, .int), (cZ, .int), (cH, .object RX1), (cP, .object RX2), (cT, .object RX4), (cJ, .int), (cF, .int)] s := by
  obtain ⟨c0, i0, k0⟩ := u_known (C := RX0) (T := TX0) (N := 5) (n := 5) hts tb_RX0 (hts _ (lE_ix tb_inst 0 rfl))
  obtain ⟨c1, i1, k1⟩ := u_known (C := RX1) (T := TX1) (N := 3) (n := 3) hts tb_RX1 (hts _ (lE_ix tb_inst 1 rfl))
  obtain ⟨c2, i2, k2⟩ := u_known (C := RX2) (T := TX2) (N := 3) (n := 3) hts tb_RX2 (hts _ (lE_ix tb_inst 2 rfl))
  obtain ⟨c3, i3, k3⟩ := u_known (C := RX3) (T := TX3) (N := 3) (n := 3) hts tb_RX3 (hts _ (lE_ix tb_inst 3 rfl))
  obtain ⟨c4, i4, k4⟩ := u_known (C := RX4) (T := TX4) (N := 3) (n := 3) hts tb_RX4 (hts _ (lE_ix tb_inst 4 rfl))
  obtain ⟨c5, i5, k5⟩ := u_known (C := RX5) (T := TX5) (N := 14) (n := 14) hts tb_RX5 (hts _ (lE_ix tb_inst 5 rfl))
  have hp : ∀ {ty : FieldType}, (Cond.arrayClass ty).before args s = true → ∃ cA : ClassId, ArrOfT s cA ty ∧ s.vm.findClass ("[" ++ ty.toString) = some cA := fun {ty} h => by
    obtain ⟨cA, kA, comp, h1, h2, h3⟩ := Cond.arrayClass_spec h
    exact ⟨cA, fun n z => ⟨fun k h => (by cases h), kA, h2, comp, h3⟩, h1⟩
  have hq : ∀ {C : String}, (Cond.arrayOver (.object C)).before args s = true → ∃ cA : ClassId, ArrOfT s cA (.object C) ∧ va_RA s cA (.object C) := fun {C} h => by
    obtain ⟨comp, cA, kA, h1, h2, h3, h4, h5⟩ := Cond.arrayOver_spec h
    exact ⟨cA, fun n z => ⟨fun k h => (by cases h), kA, h3, comp, h4⟩, kA, comp, h3, h4, h1, h5⟩
  obtain ⟨cP, aP⟩ := hq (hts _ (lE_ix tb_oth 7 rfl))
  obtain ⟨cH, aH⟩ := hq (hts _ (lE_ix tb_oth 8 rfl))
  obtain ⟨cT, aT⟩ := hq (hts _ (lE_ix tb_oth 9 rfl))
  obtain ⟨cI, aI⟩ := hp (hts _ (lE_ix tb_oth 10 rfl))
  obtain ⟨cZ, aZ⟩ := hp (hts _ (lE_ix tb_oth 11 rfl))
  obtain ⟨cJ, aJ⟩ := hp (hts _ (lE_ix tb_oth 12 rfl))
  obtain ⟨cF, aF⟩ := hp (hts _ (lE_ix tb_oth 13 rfl))
  refine ⟨(fun k => match k with | 0 => c0 | 1 => c1 | 2 => c2 | 3 => c3 | 4 => c4 | _ => c5, fun k => match k with | 0 => i0 | 1 => i1 | 2 => i2 | 3 => i3 | 4 => i4 | _ => i5), cI, cZ, cH, cP, cT, cJ, cF, fun k q hq => ?_, fun k q hq => ?_⟩
  · match k, hq with
    | 0, hq => cases hq; exact k0
    | 1, hq => cases hq; exact k1
    | 2, hq => cases hq; exact k2
    | 3, hq => cases hq; exact k3
    | 4, hq => cases hq; exact k4
    | 5, hq => cases hq; exact k5
    | k + 6, hq => simp [cls7] at hq
  · match k, hq with
    | 0, hq => cases hq; exact aI
    | 1, hq => cases hq; exact aZ
    | 2, hq => cases hq; exact aH
    | 3, hq => cases hq; exact aP
    | 4, hq => cases hq; exact aT
    | 5, hq => cases hq; exact aJ
    | 6, hq => cases hq; exact aF
    | k + 7, hq => simp at hq
theorem st_AO (hts : ∀ w ∈ lw_tbl, w.before args s = true) : AO3 s := ⟨va_AO.of (hts _ (lE_ix tb_oth 7 rfl)), va_AO.of (hts _ (lE_ix tb_oth 8 rfl)), va_AO.of (hts _ (lE_ix tb_oth 9 rfl))⟩
theorem st_T (hts : ∀ w ∈ lw_tbl, w.before args s = true) (hg : ∀ w ∈ flatC (Jvm.Cond.and given_1 narrow_1), w.before args s = true) : TX s := by
  have key : ∀ (k : Nat) (tx : String), (Cond.stringRef "BenefitOffice" k tx).before args s = true → (Cond.exactly (.string "BenefitOffice" k) "java/lang/String").before args s = true → ∃ a : Nat, vk_R RX5 k tx a s := fun k tx h1 h2 => by
    obtain ⟨a, c, cA, kA, q1, -⟩ := Cond.exactly_spec (args := args) (first := s) (o := none) (s := s) (idx := []) (t := .string "BenefitOffice" k) (cls := "java/lang/String") h2
    exact ⟨a, vk_R.of h1 q1⟩
  refine ⟨fun w hw => va_Nw.of (nxw_tab w hw) (hts w (tb_nxw w hw)), ?_⟩
  refine List.forall_mem_cons.mpr ⟨key _ _ (hts _ (lE_ix tb_str 0 rfl)) (hg _ (lE_ix fl_str 0 rfl)), List.forall_mem_cons.mpr ⟨key _ _ (hts _ (lE_ix tb_str 1 rfl)) (hg _ (lE_ix fl_str 1 rfl)), List.forall_mem_cons.mpr ⟨key _ _ (hts _ (lE_ix tb_str 2 rfl)) (hg _ (lE_ix fl_str 2 rfl)), List.forall_mem_cons.mpr ⟨key _ _ (hts _ (lE_ix tb_str 3 rfl)) (hg _ (lE_ix fl_str 3 rfl)), List.forall_mem_cons.mpr ⟨key _ _ (hts _ (lE_ix tb_str 4 rfl)) (hg _ (lE_ix fl_str 4 rfl)), List.forall_mem_cons.mpr ⟨key _ _ (hts _ (lE_ix tb_str 5 rfl)) (hg _ (lE_ix fl_str 5 rfl)), List.forall_mem_cons.mpr ⟨key _ _ (hts _ (lE_ix tb_str 6 rfl)) (hg _ (lE_ix fl_str 6 rfl)), List.forall_mem_cons.mpr ⟨key _ _ (hts _ (lE_ix tb_str 7 rfl)) (hg _ (lE_ix fl_str 7 rfl)), List.forall_mem_cons.mpr ⟨key _ _ (hts _ (lE_ix tb_str 8 rfl)) (hg _ (lE_ix fl_str 8 rfl)), List.forall_mem_cons.mpr ⟨key _ _ (hts _ (lE_ix tb_str 9 rfl)) (hg _ (lE_ix fl_str 9 rfl)), List.forall_mem_cons.mpr ⟨key _ _ (hts _ (lE_ix tb_str 10 rfl)) (hg _ (lE_ix fl_str 10 rfl)), List.forall_mem_cons.mpr ⟨key _ _ (hts _ (lE_ix tb_str 11 rfl)) (hg _ (lE_ix fl_str 11 rfl)), List.forall_mem_cons.mpr ⟨key _ _ (hts _ (lE_ix tb_str 12 rfl)) (hg _ (lE_ix fl_str 12 rfl)), List.forall_mem_cons.mpr ⟨key _ _ (hts _ (lE_ix tb_str 13 rfl)) (hg _ (lE_ix fl_str 13 rfl)), List.forall_mem_cons.mpr ⟨key _ _ (hts _ (lE_ix tb_str 14 rfl)) (hg _ (lE_ix fl_str 14 rfl)), List.forall_mem_cons.mpr ⟨key _ _ (hts _ (lE_ix tb_str 15 rfl)) (hg _ (lE_ix fl_str 15 rfl)), fun _ h => absurd h List.not_mem_nil⟩⟩⟩⟩⟩⟩⟩⟩⟩⟩⟩⟩⟩⟩⟩⟩
theorem st_N (hg : ∀ w ∈ flatC (Jvm.Cond.and given_1 narrow_1), w.before args s = true) : NC s := List.forall_mem_cons.mpr ⟨va_Nc.of (hg _ (lE_ix fl_nc 0 rfl)), List.forall_mem_cons.mpr ⟨va_Nc.of (hg _ (lE_ix fl_nc 1 rfl)), List.forall_mem_cons.mpr ⟨va_Nc.of (hg _ (lE_ix fl_nc 2 rfl)), List.forall_mem_cons.mpr ⟨va_Nc.of (hg _ (lE_ix fl_nc 3 rfl)), List.forall_mem_cons.mpr ⟨va_Nc.of (hg _ (lE_ix fl_nc 4 rfl)), List.forall_mem_cons.mpr ⟨va_Nc.of (hg _ (lE_ix fl_nc 5 rfl)), fun _ h => absurd h List.not_mem_nil⟩⟩⟩⟩⟩⟩
theorem st_ruLet (hts : ∀ w ∈ lw_tbl, w.before args s = true) (hg : ∀ w ∈ flatC (Jvm.Cond.and given_1 narrow_1), w.before args s = true) (hA : ∀ a : Nat, a < s.heap.size → ¬ A a) : HT "RULE_LETTERS" "[C" .char ruLet A s s.heap := by
  obtain ⟨t, h1, h2⟩ := va_Tof (tm := .static "BenefitOffice" "RULE_LETTERS" "[C") (N := 7) (f := fun j => .int (ruLet j)) (by decide) (hg _ (lE_ix fl_let 0 rfl)) (va_eqt (hg _ (lE_ix fl_let 1 rfl))) (fun j hj => by rcases (show j = 0 ∨ j = 1 ∨ j = 2 ∨ j = 3 ∨ j = 4 ∨ j = 5 ∨ j = 6 by omega) with rfl | rfl | rfl | rfl | rfl | rfl | rfl; exact va_eqt (hg _ (lE_ix fl_let 2 rfl)); exact va_eqt (hg _ (lE_ix fl_let 3 rfl)); exact va_eqt (hg _ (lE_ix fl_let 4 rfl)); exact va_eqt (hg _ (lE_ix fl_let 5 rfl)); exact va_eqt (hg _ (lE_ix fl_let 6 rfl)); exact va_eqt (hg _ (lE_ix fl_let 7 rfl)); exact va_eqt (hg _ (lE_ix fl_let 8 rfl))) hA
  exact ⟨t, va_Zof (hts _ (lE_ix tb_oth 0 rfl)) (hts _ (lE_ix tb_oth 5 rfl)) h1 hA, h2⟩
theorem st_ruGr (hts : ∀ w ∈ lw_tbl, w.before args s = true) (hg : ∀ w ∈ flatC (Jvm.Cond.and given_1 narrow_1), w.before args s = true) (hA : ∀ a : Nat, a < s.heap.size → ¬ A a) : HT "RULE_GREATEST" "[I" .int ruGr A s s.heap := by
  obtain ⟨t, h1, h2⟩ := va_Tof (tm := .static "BenefitOffice" "RULE_GREATEST" "[I") (N := 7) (f := fun j => .int (ruGr j)) (by decide) (hg _ (lE_ix fl_gr 0 rfl)) (va_eqt (hg _ (lE_ix fl_gr 1 rfl))) (fun j hj => by rcases (show j = 0 ∨ j = 1 ∨ j = 2 ∨ j = 3 ∨ j = 4 ∨ j = 5 ∨ j = 6 by omega) with rfl | rfl | rfl | rfl | rfl | rfl | rfl; exact va_eqt (hg _ (lE_ix fl_gr 2 rfl)); exact va_eqt (hg _ (lE_ix fl_gr 3 rfl)); exact va_eqt (hg _ (lE_ix fl_gr 4 rfl)); exact va_eqt (hg _ (lE_ix fl_gr 5 rfl)); exact va_eqt (hg _ (lE_ix fl_gr 6 rfl)); exact va_eqt (hg _ (lE_ix fl_gr 7 rfl)); exact va_eqt (hg _ (lE_ix fl_gr 8 rfl))) hA
  exact ⟨t, va_Zof (hts _ (lE_ix tb_oth 1 rfl)) (hts _ (lE_ix tb_oth 5 rfl)) h1 hA, h2⟩
theorem st_ruFi (hts : ∀ w ∈ lw_tbl, w.before args s = true) (hg : ∀ w ∈ flatC (Jvm.Cond.and given_1 narrow_1), w.before args s = true) (hA : ∀ a : Nat, a < s.heap.size → ¬ A a) : HT "RULE_FIRST" "[I" .int ruFi A s s.heap := by
  obtain ⟨t, h1, h2⟩ := va_Tof (tm := .static "BenefitOffice" "RULE_FIRST" "[I") (N := 7) (f := fun j => .int (ruFi j)) (by decide) (hg _ (lE_ix fl_fi 0 rfl)) (va_eqt (hg _ (lE_ix fl_fi 1 rfl))) (fun j hj => by rcases (show j = 0 ∨ j = 1 ∨ j = 2 ∨ j = 3 ∨ j = 4 ∨ j = 5 ∨ j = 6 by omega) with rfl | rfl | rfl | rfl | rfl | rfl | rfl; exact va_eqt (hg _ (lE_ix fl_fi 2 rfl)); exact va_eqt (hg _ (lE_ix fl_fi 3 rfl)); exact va_eqt (hg _ (lE_ix fl_fi 4 rfl)); exact va_eqt (hg _ (lE_ix fl_fi 5 rfl)); exact va_eqt (hg _ (lE_ix fl_fi 6 rfl)); exact va_eqt (hg _ (lE_ix fl_fi 7 rfl)); exact va_eqt (hg _ (lE_ix fl_fi 8 rfl))) hA
  exact ⟨t, va_Zof (hts _ (lE_ix tb_oth 2 rfl)) (hts _ (lE_ix tb_oth 5 rfl)) h1 hA, h2⟩
theorem st_X (hts : ∀ w ∈ lw_tbl, w.before args s = true) (hg : ∀ w ∈ flatC (Jvm.Cond.and given_1 narrow_1), w.before args s = true) (hA : ∀ a : Nat, a < s.heap.size → ¬ A a) : HX A s s.heap :=
  ⟨⟨vx_Zqof (hts _ (lE_ix tb_oth 3 rfl)) (hts _ (lE_ix tb_oth 6 rfl)) (hg _ (lE_ix fl_thr 0 rfl)) hA, vx_Zqof (hts _ (lE_ix tb_oth 4 rfl)) (hts _ (lE_ix tb_oth 6 rfl)) (hg _ (lE_ix fl_thr 1 rfl)) hA⟩, st_ruLet hts hg hA, st_ruGr hts hg hA, st_ruFi hts hg hA⟩
end START
