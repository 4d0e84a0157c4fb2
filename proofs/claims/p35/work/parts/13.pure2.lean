/-! ===== more of what the methods compute ===== -/
abbrev xISE : String := "java/lang/IllegalStateException"
abbrev xIAE : String := "java/lang/IllegalArgumentException"
abbrev xIOB : String := "java/lang/IndexOutOfBoundsException"
abbrev xNSE : String := "java/util/NoSuchElementException"
abbrev xUOE : String := "java/lang/UnsupportedOperationException"
abbrev xARE : String := "java/lang/ArithmeticException"
abbrev ix (x : Int32) : Nat := x.toNatClampNeg
noncomputable def cif {α : Type} (P : Prop) (a b : α) : α := @ite α P (Classical.propDecidable P) a b
theorem cif_t {α : Type} {P : Prop} {a b : α} (h : P) : cif P a b = a := by unfold cif; exact if_pos h
theorem cif_f {α : Type} {P : Prop} {a b : α} (h : ¬ P) : cif P a b = b := by unfold cif; exact if_neg h
theorem in_of {x : Int32} {n : Nat} (hn : n < 2 ^ 31) (h1 : ¬ x < 0) (h2 : x < nI n) : vp_in x n := by
  rw [vp_in_iff]
  have a1 := (fa_lt x (nI n)).mp h2
  rw [nI_toInt hn] at a1
  have h0 : (0 : Int32).toInt = 0 := rfl
  have a2 : ¬ x.toInt < 0 := fun q => h1 ((fa_lt _ _).mpr (by rw [h0]; exact q))
  omega
theorem in_no1 {x : Int32} {n : Nat} (h1 : x < 0) : ¬ vp_in x n := fun q => q (Or.inl h1)
theorem in_no2 {x : Int32} {n : Nat} (hn : n < 2 ^ 31) (h2 : ¬ x < nI n) : ¬ vp_in x n := by
  rw [vp_in_iff]
  intro q
  exact h2 ((fa_lt _ _).mpr (by rw [nI_toInt hn]; exact q.2))
def sumD (f : Nat → Int32) : Nat → Nat → Int32
  | 0, _ => 0
  | n + 1, b => sumD f n b + f (b + n)
theorem sumD_run {f : Nat → Int32} (b st : Nat) (hb : b ≤ st) : ∀ n, (∀ x, st ≤ x → x < st + n → f x = f st) → sumD f (st + n - b) b = sumD f (st - b) b + f st * nI n
  | 0, _ => by rw [Nat.add_zero, nI_0, Int32.mul_zero, Int32.add_zero]
  | n + 1, h => by
    rw [show st + (n + 1) - b = (st + n - b) + 1 by omega, sumD, sumD_run b st hb n (fun x h1 h2 => h x h1 (by omega)), show b + (st + n - b) = st + n by omega, h (st + n) (by omega) (by omega), ← nI_1, Int32.mul_add, Int32.mul_one, Int32.add_assoc]
def lim5 (a c h t m : Int32) : Int32 × Int32 × Int32 × Int32 × Int32 := if a + c + h ≤ 0 ∨ a + c + h ≤ m then (a, c, h, t, 0) else ((lim3 a c h m).1, (lim3 a c h m).2.1, (lim3 a c h m).2.2, t, 1)
def tap5 (a c h o p m : Int32) : Int32 × Int32 × Int32 × Int32 × Int32 := if o ≤ 0 then lim5 a c h 0 m else lim5 (a - imin (o * p / 100 - imin (o * p / 100) h) a) c (h - imin (o * p / 100) h) (if imin (o * p / 100) h + imin (o * p / 100 - imin (o * p / 100) h) a ≤ 0 then 0 else 1) m
def amtC (g s i ra rc rf rr rt rp rm re : Int32) : Int32 × Int32 × Int32 × Int32 × Int32 := if g = 0 then (0, 0, 0, 0, 0) else tap5 (g * ra) (if s ≤ 0 then s * rc else s * rc + rf) (imin re rr) (i - rt) rp rm
/-- the amounts of the household h on the day d, as the class finds them: adult, child, housing, tapered, capped -/
def amt (V : Nat → Nat → Int32) (ag : Nat → Int32) (nP h d : Nat) : Int32 × Int32 × Int32 × Int32 × Int32 :=
  amtC (cnt V ag (nI h) d nP).1 (cnt V ag (nI h) d nP).2.1 (cnt V ag (nI h) d nP).2.2 (V (20 + 0) d) (V (20 + 1) d) (V (20 + 2) d) (V (20 + 3) d) (V (20 + 4) d) (V (20 + 5) d) (V (20 + 6) d) (V (16 + h) d)
def tot (V : Nat → Nat → Int32) (ag : Nat → Int32) (nP h d : Nat) : Int32 := (amt V ag nP h d).1 + (amt V ag nP h d).2.1 + (amt V ag nP h d).2.2.1
/-- the entitlement of the household h for the month m -/
def due (V : Nat → Nat → Int32) (ag : Nat → Int32) (nP h m : Nat) : Int32 := sumD (tot V ag nP h) 30 (30 * m)
theorem dsum_congr {f u u' : Nat → Int32} : ∀ {n : Nat}, (∀ j, j < n → u j = u' j) → dsum f u n = dsum f u' n
  | 0, _ => rfl
  | n + 1, h => by rw [dsum, dsum, dsum_congr (fun j hj => h j (by omega)), h n (by omega)]
theorem sett_congr {f u u' : Nat → Int32} {n : Nat} (h : ∀ j, j < n → u j = u' j) : sett f u n = sett f u' n := by
  funext j
  unfold sett
  by_cases hj : j < n
  · rw [if_pos hj, if_pos hj, h j hj]
  · rw [if_neg hj, if_neg hj]
theorem sip1_congr {f u u' : Nat → Int32} {k : Int32} : ∀ {n : Nat}, (∀ j, j < n → u j = u' j) → sip1 f u k n = sip1 f u' k n
  | 0, _ => rfl
  | n + 1, h => by rw [sip1, sip1, sip1_congr (fun j hj => h j (by omega)), h n (by omega)]
theorem sip2_congr {f u u' : Nat → Int32} {k : Int32} : ∀ {n : Nat}, (∀ j, j < n → u j = u' j) → sip2 f u k n = sip2 f u' k n
  | 0, _ => rfl
  | n + 1, h => by rw [sip2, sip2, sip2_congr (fun j hj => h j (by omega)), h n (by omega)]
theorem sipF_congr {f u u' : Nat → Int32} {k : Int32} {mo : Nat} (h : ∀ j, j ≤ mo → u j = u' j) : sipF f u mo k = sipF f u' mo k := by
  unfold sipF
  rw [sip1_congr (u' := u') (fun j hj => h j (by omega)), sip2_congr (u' := u') (fun j hj => h j (by omega)), h mo (Nat.le_refl _)]
