theorem cwL_193 {R : Room} {s : State} {args : Array Value} {rm : Room} (hts : ∀ w ∈ wsL_law, w.before args s = true) (hR : rm.frames + 1 ≤ R.frames ∧ 8 + (3 + 11) + rm.locals ≤ R.locals) : vx_CSW R s args RL 193 yL_balance cL_balance 3 (some .int) [(0, 5, 6, 32)] (Cond.codeWith yL_balance cL_balance 3 (some .int) [(0, 5, 6, 32)] :: wsL_law) rm rm.cells rm.slots 2 :=
  vx_cwSW 2 hts (gi_S (r7_in _ (List.mem_of_getElem? (i := 20) rfl)) (r7_in _ (List.mem_of_getElem? (i := 21) rfl)) (r4_in _ (List.mem_of_getElem? (i := 20) rfl)) (r7_in _ (List.mem_of_getElem? (i := 22) rfl))) rfl rfl rfl (by decide +kernel) hR
theorem cwL_162 {R : Room} {s : State} {args : Array Value} {rm : Room} (hts : ∀ w ∈ wsL_law, w.before args s = true) (hR : rm.frames + 1 ≤ R.frames ∧ 8 + (1 + 11) + rm.locals ≤ R.locals) : CWV R s args RL RX5 162 yX5_paidMonths cX5_paidMonths 1 (some .int) rm rm.cells rm.slots 0 :=
  cwV 0 hts (gi_V (r10_in _ (List.mem_of_getElem? (i := 11) rfl)) (r10_in _ (List.mem_of_getElem? (i := 12) rfl)) (r10_in _ (List.mem_of_getElem? (i := 13) rfl)) (r1_in _ (List.mem_of_getElem? (i := 2) rfl)) (r10_in _ (List.mem_of_getElem? (i := 14) rfl))) rfl rfl rfl (by decide +kernel) hR
theorem cwL_197 {R : Room} {s : State} {args : Array Value} {rm : Room} (hts : ∀ w ∈ wsL_law, w.before args s = true) (hR : rm.frames + 1 ≤ R.frames ∧ 8 + (4 + 11) + rm.locals ≤ R.locals) : vx_CSW R s args RL 197 yL_entitlement cL_entitlement 4 (some .int) [(0, 6, 7, 32)] (Cond.codeWith yL_entitlement cL_entitlement 4 (some .int) [(0, 6, 7, 32)] :: wsL_law) rm rm.cells rm.slots 3 :=
  vx_cwSW 3 hts (gi_S (r10_in _ (List.mem_of_getElem? (i := 15) rfl)) (r10_in _ (List.mem_of_getElem? (i := 16) rfl)) (r4_in _ (List.mem_of_getElem? (i := 20) rfl)) (r10_in _ (List.mem_of_getElem? (i := 17) rfl))) rfl rfl rfl (by decide +kernel) hR
theorem cwL_140 {R : Room} {s : State} {args : Array Value} {rm : Room} (hts : ∀ w ∈ wsL_law, w.before args s = true) (hR : rm.frames + 1 ≤ R.frames ∧ 8 + (1 + 11) + rm.locals ≤ R.locals) : CWV R s args RL RX5 140 yX5_facts cX5_facts 1 (some .int) rm rm.cells rm.slots 0 :=
  cwV 0 hts (gi_V (r7_in _ (List.mem_of_getElem? (i := 6) rfl)) (r7_in _ (List.mem_of_getElem? (i := 7) rfl)) (r7_in _ (List.mem_of_getElem? (i := 8) rfl)) (r1_in _ (List.mem_of_getElem? (i := 2) rfl)) (r7_in _ (List.mem_of_getElem? (i := 9) rfl))) rfl rfl rfl (by decide +kernel) hR
theorem cwL_188 {R : Room} {s : State} {args : Array Value} {rm : Room} (hts : ∀ w ∈ wsL_law, w.before args s = true) (hR : rm.frames + 1 ≤ R.frames ∧ 8 + (1 + 11) + rm.locals ≤ R.locals) : CWV R s args RL RX5 188 yX5_totalPaid cX5_totalPaid 1 (some .long) rm rm.cells rm.slots 0 :=
  cwV 0 hts (gi_V (r7_in _ (List.mem_of_getElem? (i := 10) rfl)) (r7_in _ (List.mem_of_getElem? (i := 11) rfl)) (r7_in _ (List.mem_of_getElem? (i := 12) rfl)) (r1_in _ (List.mem_of_getElem? (i := 2) rfl)) (r7_in _ (List.mem_of_getElem? (i := 13) rfl))) rfl rfl rfl (by decide +kernel) hR
theorem cwL_165 {R : Room} {s : State} {args : Array Value} {rm : Room} (hts : ∀ w ∈ wsL_law, w.before args s = true) (hR : rm.frames + 1 ≤ R.frames ∧ 8 + (1 + 11) + rm.locals ≤ R.locals) : CWV R s args RL RX5 165 yX5_keptBack cX5_keptBack 1 (some .long) rm rm.cells rm.slots 0 :=
  cwV 0 hts (gi_V (r7_in _ (List.mem_of_getElem? (i := 15) rfl)) (r7_in _ (List.mem_of_getElem? (i := 16) rfl)) (r7_in _ (List.mem_of_getElem? (i := 17) rfl)) (r1_in _ (List.mem_of_getElem? (i := 2) rfl)) (r7_in _ (List.mem_of_getElem? (i := 18) rfl))) rfl rfl rfl (by decide +kernel) hR
theorem cwL_199 {R : Room} {s : State} {args : Array Value} {rm : Room} (hts : ∀ w ∈ wsL_law, w.before args s = true) (hR : rm.frames + 1 ≤ R.frames ∧ 8 + (4 + 11) + rm.locals ≤ R.locals) : vx_CSW R s args RL 199 yL_payment cL_payment 4 (some .int) [(0, 6, 7, 32), (0, 6, 11, 44)] (Cond.codeWith yL_payment cL_payment 4 (some .int) [(0, 6, 7, 32), (0, 6, 11, 44)] :: wsL_law) rm rm.cells rm.slots 3 :=
  vx_cwSW 3 hts (gi_S (r15_in _ (List.mem_of_getElem? (i := 14) rfl)) (r15_in _ (List.mem_of_getElem? (i := 15) rfl)) (r4_in _ (List.mem_of_getElem? (i := 20) rfl)) (r15_in _ (List.mem_of_getElem? (i := 16) rfl))) rfl rfl rfl (by decide +kernel) hR
theorem cwL_201 {R : Room} {s : State} {args : Array Value} {rm : Room} (hts : ∀ w ∈ wsL_law, w.before args s = true) (hR : rm.frames + 1 ≤ R.frames ∧ 8 + (4 + 11) + rm.locals ≤ R.locals) : vx_CSW R s args RL 201 yL_paidFor cL_paidFor 4 (some .int) [(0, 6, 7, 32)] (Cond.codeWith yL_paidFor cL_paidFor 4 (some .int) [(0, 6, 7, 32)] :: wsL_law) rm rm.cells rm.slots 3 :=
  vx_cwSW 3 hts (gi_S (r15_in _ (List.mem_of_getElem? (i := 21) rfl)) (r15_in _ (List.mem_of_getElem? (i := 22) rfl)) (r4_in _ (List.mem_of_getElem? (i := 20) rfl)) (r15_in _ (List.mem_of_getElem? (i := 23) rfl))) rfl rfl rfl (by decide +kernel) hR
theorem cwL_203 {R : Room} {s : State} {args : Array Value} {rm : Room} (hts : ∀ w ∈ wsL_law, w.before args s = true) (hR : rm.frames + 1 ≤ R.frames ∧ 8 + (3 + 11) + rm.locals ≤ R.locals) : vx_CSW R s args RL 203 yL_isSettled cL_isSettled 3 (some .int) [(0, 13, 14, 32)] (Cond.codeWith yL_isSettled cL_isSettled 3 (some .int) [(0, 13, 14, 32)] :: wsL_law) rm rm.cells rm.slots 2 :=
  vx_cwSW 2 hts (gi_S (r16_in _ (List.mem_of_getElem? (i := 4) rfl)) (r16_in _ (List.mem_of_getElem? (i := 5) rfl)) (r4_in _ (List.mem_of_getElem? (i := 20) rfl)) (r16_in _ (List.mem_of_getElem? (i := 6) rfl))) rfl rfl rfl (by decide +kernel) hR
theorem cwL_215 {R : Room} {s : State} {args : Array Value} {rm : Room} (hts : ∀ w ∈ wsL_law, w.before args s = true) (hR : rm.frames + 1 ≤ R.frames ∧ 8 + (4 + 11) + rm.locals ≤ R.locals) : vx_CSW R s args RL 215 yL_nextChange cL_nextChange 4 (some .int) [(0, 6, 7, 32), (0, 6, 11, 20), (0, 6, 15, 44)] (Cond.codeWith yL_nextChange cL_nextChange 4 (some .int) [(0, 6, 7, 32), (0, 6, 11, 20), (0, 6, 15, 44)] :: wsL_law) rm rm.cells rm.slots 3 :=
  vx_cwSW 3 hts (gi_S (r18_in _ (List.mem_of_getElem? (i := 1) rfl)) (r18_in _ (List.mem_of_getElem? (i := 2) rfl)) (r4_in _ (List.mem_of_getElem? (i := 20) rfl)) (r18_in _ (List.mem_of_getElem? (i := 3) rfl))) rfl rfl rfl (by decide +kernel) hR
theorem cwL_205 {R : Room} {s : State} {args : Array Value} {rm : Room} (hts : ∀ w ∈ wsL_law, w.before args s = true) (hR : rm.frames + 1 ≤ R.frames ∧ 8 + (4 + 11) + rm.locals ≤ R.locals) : vx_CSW R s args RL 205 yL_adultAmount cL_adultAmount 4 (some .int) [(0, 6, 7, 32), (0, 6, 11, 20)] (Cond.codeWith yL_adultAmount cL_adultAmount 4 (some .int) [(0, 6, 7, 32), (0, 6, 11, 20)] :: wsL_law) rm rm.cells rm.slots 3 :=
  vx_cwSW 3 hts (gi_S (r16_in _ (List.mem_of_getElem? (i := 14) rfl)) (r16_in _ (List.mem_of_getElem? (i := 15) rfl)) (r4_in _ (List.mem_of_getElem? (i := 20) rfl)) (r16_in _ (List.mem_of_getElem? (i := 16) rfl))) rfl rfl rfl (by decide +kernel) hR
theorem cwL_207 {R : Room} {s : State} {args : Array Value} {rm : Room} (hts : ∀ w ∈ wsL_law, w.before args s = true) (hR : rm.frames + 1 ≤ R.frames ∧ 8 + (4 + 11) + rm.locals ≤ R.locals) : vx_CSW R s args RL 207 yL_childAmount cL_childAmount 4 (some .int) [(0, 6, 7, 32), (0, 6, 11, 20)] (Cond.codeWith yL_childAmount cL_childAmount 4 (some .int) [(0, 6, 7, 32), (0, 6, 11, 20)] :: wsL_law) rm rm.cells rm.slots 3 :=
  vx_cwSW 3 hts (gi_S (r16_in _ (List.mem_of_getElem? (i := 21) rfl)) (r16_in _ (List.mem_of_getElem? (i := 22) rfl)) (r4_in _ (List.mem_of_getElem? (i := 20) rfl)) (r16_in _ (List.mem_of_getElem? (i := 23) rfl))) rfl rfl rfl (by decide +kernel) hR
theorem cwL_209 {R : Room} {s : State} {args : Array Value} {rm : Room} (hts : ∀ w ∈ wsL_law, w.before args s = true) (hR : rm.frames + 1 ≤ R.frames ∧ 8 + (4 + 11) + rm.locals ≤ R.locals) : vx_CSW R s args RL 209 yL_housingAmount cL_housingAmount 4 (some .int) [(0, 6, 7, 32), (0, 6, 11, 20)] (Cond.codeWith yL_housingAmount cL_housingAmount 4 (some .int) [(0, 6, 7, 32), (0, 6, 11, 20)] :: wsL_law) rm rm.cells rm.slots 3 :=
  vx_cwSW 3 hts (gi_S (r17_in _ (List.mem_of_getElem? (i := 4) rfl)) (r17_in _ (List.mem_of_getElem? (i := 5) rfl)) (r4_in _ (List.mem_of_getElem? (i := 20) rfl)) (r17_in _ (List.mem_of_getElem? (i := 6) rfl))) rfl rfl rfl (by decide +kernel) hR
theorem cwL_213 {R : Room} {s : State} {args : Array Value} {rm : Room} (hts : ∀ w ∈ wsL_law, w.before args s = true) (hR : rm.frames + 1 ≤ R.frames ∧ 8 + (4 + 11) + rm.locals ≤ R.locals) : vx_CSW R s args RL 213 yL_adults cL_adults 4 (some .int) [(0, 6, 7, 32), (0, 6, 11, 20)] (Cond.codeWith yL_adults cL_adults 4 (some .int) [(0, 6, 7, 32), (0, 6, 11, 20)] :: wsL_law) rm rm.cells rm.slots 3 :=
  vx_cwSW 3 hts (gi_S (r17_in _ (List.mem_of_getElem? (i := 18) rfl)) (r17_in _ (List.mem_of_getElem? (i := 19) rfl)) (r4_in _ (List.mem_of_getElem? (i := 20) rfl)) (r17_in _ (List.mem_of_getElem? (i := 20) rfl))) rfl rfl rfl (by decide +kernel) hR
theorem cwL_217 {R : Room} {s : State} {args : Array Value} {rm : Room} (hts : ∀ w ∈ wsL_law, w.before args s = true) (hR : rm.frames + 1 ≤ R.frames ∧ 8 + (4 + 11) + rm.locals ≤ R.locals) : vx_CSW R s args RL 217 yL_children cL_children 4 (some .int) [(0, 6, 7, 32), (0, 6, 11, 20)] (Cond.codeWith yL_children cL_children 4 (some .int) [(0, 6, 7, 32), (0, 6, 11, 20)] :: wsL_law) rm rm.cells rm.slots 3 :=
  vx_cwSW 3 hts (gi_S (r18_in _ (List.mem_of_getElem? (i := 8) rfl)) (r18_in _ (List.mem_of_getElem? (i := 9) rfl)) (r4_in _ (List.mem_of_getElem? (i := 20) rfl)) (r18_in _ (List.mem_of_getElem? (i := 10) rfl))) rfl rfl rfl (by decide +kernel) hR
theorem cwL_143 {R : Room} {s : State} {args : Array Value} {rm : Room} (hts : ∀ w ∈ wsL_law, w.before args s = true) (hR : rm.frames + 1 ≤ R.frames ∧ 8 + (4 + 11) + rm.locals ≤ R.locals) : vx_CSW R s args RL 143 yL_homeOf cL_homeOf 4 (some .int) [(0, 6, 7, 32), (0, 6, 11, 20)] (Cond.codeWith yL_homeOf cL_homeOf 4 (some .int) [(0, 6, 7, 32), (0, 6, 11, 20)] :: wsL_law) rm rm.cells rm.slots 3 :=
  vx_cwSW 3 hts (gi_S (r11_in _ (List.mem_of_getElem? (i := 1) rfl)) (r11_in _ (List.mem_of_getElem? (i := 2) rfl)) (r4_in _ (List.mem_of_getElem? (i := 20) rfl)) (r11_in _ (List.mem_of_getElem? (i := 3) rfl))) rfl rfl rfl (by decide +kernel) hR
theorem cwL_211 {R : Room} {s : State} {args : Array Value} {rm : Room} (hts : ∀ w ∈ wsL_law, w.before args s = true) (hR : rm.frames + 1 ≤ R.frames ∧ 8 + (4 + 11) + rm.locals ≤ R.locals) : vx_CSW R s args RL 211 yL_reason cL_reason 4 (some .int) [(0, 6, 7, 32), (0, 6, 11, 20)] (Cond.codeWith yL_reason cL_reason 4 (some .int) [(0, 6, 7, 32), (0, 6, 11, 20)] :: wsL_law) rm rm.cells rm.slots 3 :=
  vx_cwSW 3 hts (gi_S (r17_in _ (List.mem_of_getElem? (i := 11) rfl)) (r17_in _ (List.mem_of_getElem? (i := 12) rfl)) (r4_in _ (List.mem_of_getElem? (i := 20) rfl)) (r17_in _ (List.mem_of_getElem? (i := 13) rfl))) rfl rfl rfl (by decide +kernel) hR
theorem cwL_150 {R : Room} {s : State} {args : Array Value} {rm : Room} (hts : ∀ w ∈ wsL_law, w.before args s = true) (hR : rm.frames + 1 ≤ R.frames ∧ 8 + (4 + 11) + rm.locals ≤ R.locals) : vx_CSW R s args RL 150 yL_ruleAt cL_ruleAt 4 (some .int) [(0, 6, 7, 44), (0, 6, 11, 20)] (Cond.codeWith yL_ruleAt cL_ruleAt 4 (some .int) [(0, 6, 7, 44), (0, 6, 11, 20)] :: wsL_law) rm rm.cells rm.slots 3 :=
  vx_cwSW 3 hts (gi_S (r11_in _ (List.mem_of_getElem? (i := 22) rfl)) (r11_in _ (List.mem_of_getElem? (i := 23) rfl)) (r4_in _ (List.mem_of_getElem? (i := 20) rfl)) (r12_in _ (List.mem_of_getElem? (i := 0) rfl))) rfl rfl rfl (by decide +kernel) hR
theorem cwL_219 {R : Room} {s : State} {args : Array Value} {rm : Room} (hts : ∀ w ∈ wsL_law, w.before args s = true) (hR : rm.frames + 1 ≤ R.frames ∧ 8 + (4 + 11) + rm.locals ≤ R.locals) : vx_CSW R s args RL 219 yL_entitlementByDays cL_entitlementByDays 4 (some .int) [(0, 6, 7, 32)] (Cond.codeWith yL_entitlementByDays cL_entitlementByDays 4 (some .int) [(0, 6, 7, 32)] :: wsL_law) rm rm.cells rm.slots 3 :=
  vx_cwSW 3 hts (gi_S (r18_in _ (List.mem_of_getElem? (i := 20) rfl)) (r18_in _ (List.mem_of_getElem? (i := 21) rfl)) (r4_in _ (List.mem_of_getElem? (i := 20) rfl)) (r18_in _ (List.mem_of_getElem? (i := 22) rfl))) rfl rfl rfl (by decide +kernel) hR
theorem cwL_221 {R : Room} {s : State} {args : Array Value} {rm : Room} (hts : ∀ w ∈ wsL_law, w.before args s = true) (hR : rm.frames + 1 ≤ R.frames ∧ 8 + (2 + 11) + rm.locals ≤ R.locals) : vx_CSW R s args RL 221 yL_keptShare cL_keptShare 2 (some .float) [(0, 4, 5, 113)] (Cond.codeWith yL_keptShare cL_keptShare 2 (some .float) [(0, 4, 5, 113)] :: wsL_law) rm rm.cells rm.slots 1 :=
  vx_cwSW 1 hts (gi_S (r19_in _ (List.mem_of_getElem? (i := 3) rfl)) (r19_in _ (List.mem_of_getElem? (i := 4) rfl)) (r4_in _ (List.mem_of_getElem? (i := 20) rfl)) (r19_in _ (List.mem_of_getElem? (i := 5) rfl))) rfl rfl rfl (by decide +kernel) hR
theorem cwL_224 {R : Room} {s : State} {args : Array Value} {rm : Room} (hts : ∀ w ∈ wsL_law, w.before args s = true) (hR : rm.frames + 1 ≤ R.frames ∧ 8 + (2 + 11) + rm.locals ≤ R.locals) : vx_CSW R s args RL 224 yL_meanPayment cL_meanPayment 2 (some .double) [(0, 4, 5, 113)] (Cond.codeWith yL_meanPayment cL_meanPayment 2 (some .double) [(0, 4, 5, 113)] :: wsL_law) rm rm.cells rm.slots 1 :=
  vx_cwSW 1 hts (gi_S (r19_in _ (List.mem_of_getElem? (i := 13) rfl)) (r19_in _ (List.mem_of_getElem? (i := 14) rfl)) (r4_in _ (List.mem_of_getElem? (i := 20) rfl)) (r19_in _ (List.mem_of_getElem? (i := 15) rfl))) rfl rfl rfl (by decide +kernel) hR
/-! ===== p35: the law's own methods ===== -/
def sL (nf : Int32) (sp sk : Int64) (U pd : Nat → Nat → Int32) (rN : Nat) : Nat → Int64
  | 0 => nf.toInt64 + 31 * sp + 7 * sk
  | n + 1 => 31 * sL nf sp sk U pd rN n + (bal (U n) (pd n) rN).toInt64 + 5 * (U n (rN % 12)).toInt64
theorem rem12 {r : Nat} (h : r ≤ 12) : nI r - nI r / 12 * 12 = nI (r % 12) := (by decide +kernel : ∀ r, r < 13 → nI r - nI r / 12 * 12 = nI (r % 12)) r (by omega)
theorem m30 {m : Nat} (h : m < 12) : 30 * nI m = nI (30 * m) := (by decide +kernel : ∀ m, m < 12 → 30 * nI m = nI (30 * m)) m h
/-- the bits of pays -/
def pBb (b : Nat → Bool) : Nat → Int32
  | 0 => 0
  | n + 1 => pBb b n + (if b n = true then 1 <<< (nI n &&& 31) else 0)
def nodebt (U pd : Nat → Nat → Int32) (rN : Nat) : Nat → Bool := fun h => decide (¬ bal (U h) (pd h) rN < 0)
theorem nd_t {U pd : Nat → Nat → Int32} {rN h : Nat} (q : ¬ bal (U h) (pd h) rN < 0) : nodebt U pd rN h = true := decide_eq_true q
theorem nd_f {U pd : Nat → Nat → Int32} {rN h : Nat} (q : bal (U h) (pd h) rN < 0) : ¬ nodebt U pd rN h = true := fun z => of_decide_eq_true z q
def bb4 (b0 b1 b2 b3 : Bool) : Nat → Bool := fun k => match k with | 0 => b0 | 1 => b1 | 2 => b2 | _ => b3
theorem pBb_congr {b c : Nat → Bool} : ∀ n, (∀ k, k < n → b k = c k) → pBb b n = pBb c n
  | 0, _ => rfl
  | n + 1, h => by rw [pBb, pBb, pBb_congr n (fun k hk => h k (by omega)), h n (by omega)]
theorem fbit_dec : ∀ b0 b1 b2 b3 : Bool, ∀ n, n < 5 → ∀ h, h < n → ((pBb (bb4 b0 b1 b2 b3) n >>> (nI h &&& 31)) &&& 1 = 1 → bb4 b0 b1 b2 b3 h = true) := by decide +kernel
theorem fbit_pB {b : Nat → Bool} {n h : Nat} (hn : n ≤ 4) (hh : h < n) (q : fbit (pBb b n) h) : b h = true := by
  have e : ∀ k, k < 4 → b k = bb4 (b 0) (b 1) (b 2) (b 3) k := fun k hk => by
    have : k = 0 ∨ k = 1 ∨ k = 2 ∨ k = 3 := by omega
    rcases this with rfl | rfl | rfl | rfl <;> rfl
  unfold fbit at q
  rw [pBb_congr n (fun k hk => e k (by omega))] at q
  rw [e h (by omega)]
  exact fbit_dec _ _ _ _ n (by omega) h hh q
theorem nneg {x : Int32} (h : 0 ≤ x.toInt) : ¬ x < 0 := fun q => by
  have := (fa_lt _ _).mp q
  rw [i32_0] at this
  omega
theorem nlt_of {x y : Int32} (h : y.toInt ≤ x.toInt) : ¬ x < y := fun q => by
  have := (fa_lt _ _).mp q
  omega
theorem le0 {x : Int32} (h : 0 ≤ x.toInt) (q : x ≤ 0) : x = 0 := (fa_eq _ _).mpr (by
  have := (fa_le _ _).mp q
  rw [i32_0] at this ⊢
  omega)
theorem n75 {n : Nat} (h : n < 2 ^ 31) : ¬ nI n = -75 := fun q => by
  have := (fa_eq _ _).mp q
  rw [nI_toInt h] at this
  have e : (-75 : Int32).toInt = -75 := rfl
  omega
theorem lcm_nlt {x y : Int64} (h : y.toInt ≤ x.toInt) : ¬ lcm x y < 0 := by
  unfold lcm
  by_cases p : y < x
  · rw [if_pos p]; decide
  · have p2 : ¬ y.toInt < x.toInt := fun q => p (Int64.lt_iff_toInt_lt.mpr q)
    rw [if_neg p, if_pos (Int64.toInt_inj.mp (by omega))]; decide
theorem lcm_ngt {x y : Int64} (h : x.toInt ≤ y.toInt) : ¬ 0 < lcm x y := by
  unfold lcm
  by_cases p : y < x
  · have := Int64.lt_iff_toInt_lt.mp p
    omega
  · rw [if_neg p]
    by_cases q : x = y
    · rw [if_pos q]; decide
    · rw [if_neg q]; decide
theorem rsn_110 {g t u : Int32} (h : g = 0) : rsn g t u = 110 := if_pos h
theorem rsn_no {g t u : Int32} (h : ¬ g = 0) : ¬ rsn g t u = 110 := by
  unfold rsn
  rw [if_neg h]
  by_cases p : t = 0
  · rw [if_pos p]
    by_cases q : u = 0
    · rw [if_pos q]; decide
    · rw [if_neg q]; decide
  · rw [if_neg p]
    by_cases q : u = 0
    · rw [if_pos q]; decide
    · rw [if_neg q]; decide
theorem rsn_cap {g t u : Int32} (h : rsn g t u = 109 ∨ rsn g t u = 98) : ¬ u = 0 := fun q => by
  unfold rsn at h
  rw [if_pos q, if_pos q] at h
  by_cases p : g = 0
  · rw [if_pos p] at h
    exact absurd h (by decide)
  · rw [if_neg p] at h
    by_cases r : t = 0
    · rw [if_pos r] at h
      exact absurd h (by decide)
    · rw [if_neg r] at h
      exact absurd h (by decide)
/-- the months of m that had a run -/
def mr (rN : Nat) : Nat → Nat
  | 0 => 0
  | m + 1 => if m < rN then mr rN m + 1 else mr rN m
theorem mr_T {rN m : Nat} (h : m < rN) : mr rN (m + 1) = mr rN m + 1 := if_pos h
theorem mr_F {rN m : Nat} (h : ¬ m < rN) : mr rN (m + 1) = mr rN m := if_neg h
theorem mr_lt {rN : Nat} : ∀ {m : Nat}, m ≤ rN → mr rN m = m
  | 0, _ => rfl
  | m + 1, h => by rw [mr_T (by omega), mr_lt (by omega)]
theorem mr_ge {rN : Nat} : ∀ k, mr rN (rN + k) = rN
  | 0 => mr_lt (Nat.le_refl _)
  | k + 1 => by rw [show rN + (k + 1) = (rN + k) + 1 by omega, mr_F (by omega), mr_ge k]
theorem mr_12 {rN : Nat} (h : rN ≤ 12) : mr rN 12 = rN := by
  have := mr_ge (rN := rN) (12 - rN)
  rw [show rN + (12 - rN) = 12 by omega] at this
  exact this
theorem d_self {x : UInt64} (h : vf_n64 x) (op : CmpOp) : Op.cmpValue (FP.dcmp x x) op = 0 := by
  have e : FP.dcmp x x = some .eq := FP.Core.dcmp_self ((FP.Core.notNaN_iff x).mp (Jvm.Free.Fl.noNaN64_no.mp h))
  rw [e]
  rfl
theorem f_self {x : UInt32} (h : vf_n32 x) (op : CmpOp) : Op.cmpValue (FP.fcmp x x) op = 0 := by
  have e : FP.fcmp x x = some .eq := FP.Core.fcmp_self ((FP.Core.notNaN_iff32 x).mp (Jvm.Free.Fl.noNaN32_no.mp h))
  rw [e]
  rfl
theorem f74 : vf_n32 3264479232 := by unfold vf_n32; decide
theorem d74 : vf_n64 13858279740860792832 := by unfold vf_n64; decide
