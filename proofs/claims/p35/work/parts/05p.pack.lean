/-! ===== a bit for each day of a month: the first rows from the given text on bits ===== -/
def bt (x : Int32) (i : Nat) : Bool := x.toBitVec.getLsbD i
theorem bt_ext {x y : Int32} (h : ∀ i, i < 32 → bt x i = bt y i) : x = y := Int32.toBitVec_inj.mp (BitVec.eq_of_getLsbD_eq (fun i hi => h i hi))
theorem bt_or (x y : Int32) (i : Nat) : bt (x ||| y) i = (bt x i || bt y i) := by unfold bt; rw [Int32.toBitVec_or, BitVec.getLsbD_or]
theorem bt_and (x y : Int32) (i : Nat) : bt (x &&& y) i = (bt x i && bt y i) := by unfold bt; rw [Int32.toBitVec_and, BitVec.getLsbD_and]
theorem bt_xor (x y : Int32) (i : Nat) : bt (x ^^^ y) i = (bt x i ^^ bt y i) := by unfold bt; rw [Int32.toBitVec_xor, BitVec.getLsbD_xor]
theorem bt_m1 : ∀ i, i < 32 → bt (-1) i = true := by decide +kernel
theorem bt_0 (i : Nat) : bt 0 i = false := BitVec.getLsbD_zero
theorem bt_1 : ∀ i, i < 32 → bt 1 i = decide (i = 0) := by decide +kernel
theorem bt_sl : ∀ n, n < 32 → ((nI n &&& 31).toBitVec.smod 32).toNat = n := by decide +kernel
theorem bt_shl (n : Nat) (hn : n < 32) (x : Int32) {i : Nat} (hi : i < 32) : bt (x <<< (nI n &&& 31)) i = (decide (n ≤ i) && bt x (i - n)) := by
  unfold bt
  rw [Int32.toBitVec_shiftLeft]
  show (x.toBitVec <<< ((nI n &&& 31).toBitVec.smod 32).toNat).getLsbD i = _
  rw [bt_sl n hn, BitVec.getLsbD_shiftLeft]
  rcases Nat.lt_or_ge i n with h | h
  · simp [h, Nat.not_le.mpr h]
  · simp [hi, h, Nat.not_lt.mpr h]
/-- bitOf -/
def bq (d : Nat) : Int32 := 1 <<< (nI (d % 30) &&& 31)
theorem bt_bit {n i : Nat} (hn : n < 32) (hi : i < 32) : bt (1 <<< (nI n &&& 31)) i = decide (i = n) := by
  rw [bt_shl n hn 1 hi, bt_1 (i - n) (by omega)]
  by_cases h : i = n
  · subst h; simp
  · rw [decide_eq_false h]
    by_cases h2 : n ≤ i
    · rw [decide_eq_false (show ¬ i - n = 0 by omega), Bool.and_false]
    · rw [decide_eq_false h2, Bool.false_and]
theorem bt_bq (d : Nat) {i : Nat} (hi : i < 32) : bt (bq d) i = decide (i = d % 30) := bt_bit (by omega) hi
/-- n days from b on, a bit each -/
def pkr (g : Nat → Int32) (b : Nat) : Nat → Int32
  | 0 => 0
  | n + 1 => pkr g b n ||| (if g (b + n) = 0 then (0 : Int32) else 1 <<< (nI n &&& 31))
/-- the words of the months -/
def pkb (g : Nat → Int32) : Nat → Int32 := fun m => pkr g (30 * m) 30
theorem pkr_bt (g : Nat → Int32) (b : Nat) : ∀ n, n ≤ 30 → ∀ i, i < 32 → bt (pkr g b n) i = decide (i < n ∧ ¬ g (b + i) = 0) := by
  intro n
  induction n with
  | zero =>
    intro _ i hi
    rw [decide_eq_false (fun q => Nat.not_lt_zero _ q.1)]
    exact bt_0 i
  | succ n ih =>
    intro hn i hi
    show bt (pkr g b n ||| (if g (b + n) = 0 then (0 : Int32) else 1 <<< (nI n &&& 31))) i = _
    rw [bt_or, ih (by omega) i hi]
    by_cases h0 : g (b + n) = 0
    · rw [if_pos h0, bt_0, Bool.or_false]
      refine decide_eq_decide.mpr ⟨fun q => ⟨by omega, q.2⟩, fun q => ⟨?_, q.2⟩⟩
      rcases Nat.lt_or_eq_of_le (Nat.le_of_lt_succ q.1) with h | h
      · exact h
      · subst h; exact absurd h0 q.2
    · rw [if_neg h0, bt_bit (by omega) hi]
      by_cases h : i = n
      · subst h
        rw [decide_eq_true (rfl : i = i), Bool.or_true, decide_eq_true ⟨by omega, h0⟩]
      · rw [decide_eq_false h, Bool.or_false]
        exact decide_eq_decide.mpr ⟨fun q => ⟨by omega, q.2⟩, fun q => ⟨by omega, q.2⟩⟩
theorem pkb_bt (g : Nat → Int32) (m : Nat) {i : Nat} (hi : i < 32) : bt (pkb g m) i = decide (i < 30 ∧ ¬ g (30 * m + i) = 0) := pkr_bt g (30 * m) 30 (Nat.le_refl _) i hi
theorem pkb_0 : pkb (fun _ => 0) = fun _ => 0 := by
  funext m
  refine bt_ext fun i hi => ?_
  rw [pkb_bt _ _ hi, bt_0]
  exact decide_eq_false (fun q => q.2 rfl)
theorem pkb_test (g : Nat → Int32) (d : Nat) : (pkb g (d / 30) &&& bq d) = 0 ↔ g d = 0 := by
  have e : 30 * (d / 30) + d % 30 = d := Nat.div_add_mod d 30
  have hm : d % 30 < 30 := Nat.mod_lt _ (by decide)
  constructor
  · intro h
    have h1 := congrArg (fun x => bt x (d % 30)) h
    rw [bt_and, pkb_bt _ _ (by omega), bt_bq _ (by omega), bt_0, decide_eq_true (rfl : d % 30 = d % 30), Bool.and_true] at h1
    have h2 := of_decide_eq_false h1
    rw [e] at h2
    by_cases h0 : g d = 0
    · exact h0
    · exact absurd ⟨hm, h0⟩ h2
  · intro h
    refine bt_ext fun i hi => ?_
    rw [bt_and, pkb_bt _ _ hi, bt_bq _ hi, bt_0]
    by_cases hd : i = d % 30
    · subst hd
      rw [decide_eq_false (fun q => q.2 (by rw [e]; exact h)), Bool.false_and]
    · rw [decide_eq_false hd, Bool.and_false]
theorem pkb_put (g : Nat → Int32) (d : Nat) : upd (pkb g) (d / 30) (pkb g (d / 30) ||| bq d) = pkb (upd g d 1) := by
  have e : 30 * (d / 30) + d % 30 = d := Nat.div_add_mod d 30
  have hm : d % 30 < 30 := Nat.mod_lt _ (by decide)
  funext m
  refine bt_ext fun i hi => ?_
  by_cases h : m = d / 30
  · subst h
    rw [pk_us, bt_or, pkb_bt _ _ hi, pkb_bt _ _ hi, bt_bq _ hi]
    by_cases hd : i = d % 30
    · subst hd
      rw [decide_eq_true (rfl : d % 30 = d % 30), Bool.or_true, decide_eq_true ⟨hm, by rw [e, pk_us]; decide⟩]
    · rw [decide_eq_false hd, Bool.or_false, pk_un (show 30 * (d / 30) + i ≠ d by omega)]
  · rw [pk_un h, pkb_bt _ _ hi, pkb_bt _ _ hi]
    by_cases h3 : i < 30
    · rw [pk_un (show 30 * m + i ≠ d by omega)]
    · rw [decide_eq_false (fun q => h3 q.1), decide_eq_false (fun q => h3 q.1)]
theorem pkb_rem (g : Nat → Int32) (d : Nat) : upd (pkb g) (d / 30) (pkb g (d / 30) &&& (bq d ^^^ (-1))) = pkb (upd g d 0) := by
  have e : 30 * (d / 30) + d % 30 = d := Nat.div_add_mod d 30
  have hm : d % 30 < 30 := Nat.mod_lt _ (by decide)
  funext m
  refine bt_ext fun i hi => ?_
  by_cases h : m = d / 30
  · subst h
    rw [pk_us, bt_and, bt_xor, bt_m1 i hi, pkb_bt _ _ hi, pkb_bt _ _ hi, bt_bq _ hi]
    by_cases hd : i = d % 30
    · subst hd
      rw [decide_eq_true (rfl : d % 30 = d % 30), Bool.xor_self, Bool.and_false, decide_eq_false (fun q => q.2 (by rw [e, pk_us]))]
    · rw [decide_eq_false hd, Bool.false_xor, Bool.and_true, pk_un (show 30 * (d / 30) + i ≠ d by omega)]
  · rw [pk_un h, pkb_bt _ _ hi, pkb_bt _ _ hi]
    by_cases h3 : i < 30
    · rw [pk_un (show 30 * m + i ≠ d by omega)]
    · rw [decide_eq_false (fun q => h3 q.1), decide_eq_false (fun q => h3 q.1)]
theorem dd_div : ∀ d, d < 360 → nI d / 30 = nI (d / 30) := by decide +kernel
theorem dd_rem : ∀ d, d < 360 → nI d - nI d / 30 * 30 = nI (d % 30) := by decide +kernel
theorem z01 {x : Int32} : (if x = 0 then (0 : Int32) else 1) = 0 ↔ x = 0 := by
  by_cases h : x = 0
  · rw [if_pos h]; exact ⟨fun _ => h, fun _ => rfl⟩
  · rw [if_neg h]; exact ⟨fun q => absurd q (by decide), fun q => absurd q h⟩
theorem nar01 {x : Int32} (h : narrow .boolean (.int x) = .int x) : (if x = 0 then (0 : Int32) else 1) = x := by
  have h1 : x &&& 1 = x := by
    have h2 := h
    simp only [narrow, Value.int.injEq] at h2
    exact h2
  by_cases h0 : x = 0
  · rw [if_pos h0]; exact h0.symm
  · rw [if_neg h0]
    refine bt_ext fun i hi => ?_
    have hb : ∀ j, j < 32 → bt x j = (bt x j && decide (j = 0)) := fun j hj => by
      have := congrArg (fun y => bt y j) h1
      rw [bt_and, bt_1 j hj] at this
      exact this.symm
    rw [bt_1 i hi]
    by_cases hi0 : i = 0
    · subst hi0
      rw [decide_eq_true (rfl : (0 : Nat) = 0)]
      by_cases hx : bt x 0 = true
      · exact hx.symm
      · refine absurd (bt_ext fun j hj => ?_) h0
        rw [bt_0, hb j hj]
        by_cases hj0 : j = 0
        · subst hj0; rw [Bool.eq_false_iff.mpr hx, Bool.false_and]
        · rw [decide_eq_false hj0, Bool.and_false]
    · rw [hb i hi, decide_eq_false hi0, Bool.and_false]
