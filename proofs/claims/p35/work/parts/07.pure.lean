/-! ===== what the methods compute ===== -/
/-- the loop of holdFrom / holds: from day d on, n days at most, up to the next told day -/
def hF (g : Nat → Int32) (v : Int32) : Nat → Nat → (Nat → Int32) → (Nat → Int32)
  | 0, _, f => f
  | n + 1, d, f => if g d = 0 then hF g v n (d + 1) (upd f d v) else f
def hold (f g : Nat → Int32) (d : Nat) (v : Int32) : Nat → Int32 := hF g v (359 - d) (d + 1) (upd f d v)
theorem hF_0 {g : Nat → Int32} {v : Int32} {d : Nat} {f : Nat → Int32} (h : 360 ≤ d) : hF g v (360 - d) d f = f := by
  rw [show 360 - d = 0 by omega]; rfl
theorem hF_s {g : Nat → Int32} {v : Int32} {d : Nat} {f : Nat → Int32} (h : d < 360) (h0 : g d = 0) : hF g v (360 - d) d f = hF g v (360 - (d + 1)) (d + 1) (upd f d v) := by
  rw [show 360 - d = (360 - (d + 1)) + 1 by omega, hF, if_pos h0]
theorem hF_n {g : Nat → Int32} {v : Int32} {d : Nat} {f : Nat → Int32} (h : d < 360) (h0 : ¬ g d = 0) : hF g v (360 - d) d f = f := by
  rw [show 360 - d = (360 - (d + 1)) + 1 by omega, hF, if_neg h0]
/-- the row of values behind a fact taken back -/
def takeV (f g : Nat → Int32) (d : Nat) (w : Int32) : Nat → Int32 := hold f (upd g d 0) d (if d = 0 then w else f (d - 1))
def tellV (f g : Nat → Int32) (d : Nat) (v : Int32) : Nat → Int32 := hold f (upd g d 1) d v
/-- who lives in the household h on the day d: adults, children, income; of the first i persons -/
def cnt (V : Nat → Nat → Int32) (ag : Nat → Int32) (h : Int32) (d : Nat) : Nat → Int32 × Int32 × Int32
  | 0 => (0, 0, 0)
  | i + 1 => if V i d = h then ((cnt V ag h d i).1 + (if nI d < ag i then 0 else 1), (cnt V ag h d i).2.1 + (if nI d < ag i then 1 else 0), (cnt V ag h d i).2.2 + V (8 + i) d) else cnt V ag h d i
/-- the third step's distribution of what is missing -/
def spr : Nat → Int32 → Int32 → Int32 → Int32 → Int32 → Int32 → Int32 × Int32 × Int32
  | 0, a, c, h, _, _, _ => (a, c, h)
  | n + 1, a, c, h, ra, rc, rh => if rc ≤ ra ∧ rh ≤ ra then spr n (a + 1) c h (-1) rc rh else if rh ≤ rc then spr n a (c + 1) h ra (-1) rh else spr n a c (h + 1) ra rc (-1)
def lim3 (a c h m : Int32) : Int32 × Int32 × Int32 := 
  spr (m - (a * m / (a + c + h) + c * m / (a + c + h) + h * m / (a + c + h))).toNatClampNeg (a * m / (a + c + h)) (c * m / (a + c + h)) (h * m / (a + c + h)) (a * m - a * m / (a + c + h) * (a + c + h)) (c * m - c * m / (a + c + h) * (a + c + h)) (h * m - h * m / (a + c + h) * (a + c + h))
def imin (x y : Int32) : Int32 := if y < x then y else x
theorem fb_rng (x : Int32) : -2147483648 ≤ x.toInt ∧ x.toInt < 2147483648 := by
  have h1 := Int32.le_toInt x
  have h2 := Int32.toInt_lt x
  omega
theorem fb_bmod {z : Int} (h1 : -2147483648 ≤ z) (h2 : z < 2147483648) : z.bmod (2 ^ 32) = z := by
  rw [Int.bmod_eq_of_le (by omega) (by omega)]
theorem fb_addI {x y : Int32} (h1 : -2147483648 ≤ x.toInt + y.toInt) (h2 : x.toInt + y.toInt < 2147483648) : (x + y).toInt = x.toInt + y.toInt := by
  rw [Int32.toInt_add, fb_bmod h1 h2]
theorem fb_subI {x y : Int32} (h1 : -2147483648 ≤ x.toInt - y.toInt) (h2 : x.toInt - y.toInt < 2147483648) : (x - y).toInt = x.toInt - y.toInt := by
  rw [Int32.toInt_sub, fb_bmod h1 h2]
theorem fb_mulI {x y : Int32} (h1 : -2147483648 ≤ x.toInt * y.toInt) (h2 : x.toInt * y.toInt < 2147483648) : (x * y).toInt = x.toInt * y.toInt := by
  rw [Int32.toInt_mul, fb_bmod h1 h2]
theorem fb_negI {x : Int32} (h : x.toInt ≠ -2147483648) : (-x).toInt = -x.toInt := by
  have := fb_rng x
  rw [Int32.toInt_neg, fb_bmod (by omega) (by omega)]
theorem fa_lt (a b : Int32) : a < b ↔ a.toInt < b.toInt := Int32.lt_iff_toInt_lt
theorem fa_le (a b : Int32) : a ≤ b ↔ a.toInt ≤ b.toInt := Int32.le_iff_toInt_le
theorem fa_eq (a b : Int32) : a = b ↔ a.toInt = b.toInt := Int32.toInt_inj.symm
theorem cl_np {x : Int32} (h : x ≤ 0) : x.toNatClampNeg = 0 := by
  have h1 := (fa_le _ _).mp h
  have h0 : (0 : Int32).toInt = 0 := rfl
  show x.toInt.toNat = 0
  omega
theorem cl_pos {x : Int32} (h : ¬ x ≤ 0) : x.toNatClampNeg = (x + (-1)).toNatClampNeg + 1 := by
  have h1 : 0 < x.toInt := by
    have h0 : (0 : Int32).toInt = 0 := rfl
    rcases Int.lt_or_le 0 x.toInt with q | q
    · exact q
    · exact absurd ((fa_le _ _).mpr (by rw [h0]; exact q)) h
  have h2 := fb_rng x
  have hm : (-1 : Int32).toInt = -1 := rfl
  have h3 : (x + (-1)).toInt = x.toInt + (-1) := by
    rw [fb_addI (by rw [hm]; omega) (by rw [hm]; omega), hm]
  show x.toInt.toNat = (x + (-1)).toInt.toNat + 1
  rw [h3]
  omega
/-- the excesses less the gaps of the first n months -/
def dsum (f u : Nat → Int32) : Nat → Int32
  | 0 => 0
  | n + 1 => dsum f u n + (f n - u n)
def sett (f u : Nat → Int32) (n : Nat) : Nat → Int32 := fun j => if j < n then u j else f j
theorem sett_0 (f u : Nat → Int32) : sett f u 0 = f := by funext j; simp [sett]
theorem sett_s (f u : Nat → Int32) (n : Nat) : upd (sett f u n) n (u n) = sett f u (n + 1) := by
  funext j
  unfold upd sett
  by_cases h : j = n
  · subst h; simp
  · rw [if_neg h]
    by_cases h2 : j < n
    · rw [if_pos h2, if_pos (by omega)]
    · rw [if_neg h2, if_neg (by omega)]
/-- settleInPart's two loops -/
def sip1 (f u : Nat → Int32) (kept : Int32) : Nat → Int32 × (Nat → Int32)
  | 0 => (kept, f)
  | n + 1 => if (sip1 f u kept n).2 n < u n then ((sip1 f u kept n).1 + (u n - (sip1 f u kept n).2 n), upd (sip1 f u kept n).2 n (u n)) else sip1 f u kept n
def sip2 (f u : Nat → Int32) (left : Int32) : Nat → Int32 × (Nat → Int32)
  | 0 => (left, f)
  | n + 1 => ((sip2 f u left n).1 - imin (sip2 f u left n).1 ((sip2 f u left n).2 n - u n), upd (sip2 f u left n).2 n ((sip2 f u left n).2 n - imin (sip2 f u left n).1 ((sip2 f u left n).2 n - u n)))
def sipF (f u : Nat → Int32) (mo : Nat) (kept : Int32) : Nat → Int32 := upd (sip2 (sip1 f u kept mo).2 u (sip1 f u kept mo).1 mo).2 mo (u mo)
