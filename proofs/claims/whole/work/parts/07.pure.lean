/-! ===== what the methods compute ===== -/
/-- the loop of holdFrom / holds: from day d on, n days at most, up to the next told day -/
def hF (g : Nat → Int32) (v : Int32) : Nat → Nat → (Nat → Int32) → (Nat → Int32)
  | 0, _, f => f
  | n + 1, d, f => if g d = 0 then hF g v n (d + 1) (upd f d v) else f
def hold (f g : Nat → Int32) (d : Nat) (v : Int32) : Nat → Int32 := hF g v (359 - d) (d + 1) (upd f d v)
theorem hF_0 {g : Nat → Int32} {v : Int32} {d : Nat} {f : Nat → Int32} (h : 360 ≤ d) : hF g v (360 - d) d f = f := by
  rw [show 360 - d = 0 by omega]; rfl
theorem hF_s {g : Nat → Int32} {v : Int32} {d : Nat} {f : Nat → Int32} (h : d < 360) (h0 : g d = 0) : hF g v (360 - d) d f = hF g v (360 - (d + 1)) (d + 1) (upd f d v) := by
  rw [show 360 - d = (360 - (d + 1)) + 1 by omega, hF, if_pos h0]
theorem hF_n {g : Nat → Int32} {v : Int32} {d : Nat} {f : Nat → Int32} (h : d < 360) (h0 : ¬ g d = 0) : hF g v (360 - d) d f = f := by
  rw [show 360 - d = (360 - (d + 1)) + 1 by omega, hF, if_neg h0]
/-- the row of values behind a fact taken back -/
def takeV (f g : Nat → Int32) (d : Nat) (w : Int32) : Nat → Int32 := hold f (upd g d 0) d (if d = 0 then w else f (d - 1))
def tellV (f g : Nat → Int32) (d : Nat) (v : Int32) : Nat → Int32 := hold f (upd g d 1) d v
/-- who lives in the household h on the day d: adults, children, income; of the first i persons -/
def cnt (V : Nat → Nat → Int32) (ag : Nat → Int32) (h : Int32) (d : Nat) : Nat → Int32 × Int32 × Int32
  | 0 => (0, 0, 0)
  | i + 1 => if V i d = h then ((cnt V ag h d i).1 + (if nI d < ag i then 0 else 1), (cnt V ag h d i).2.1 + (if nI d < ag i then 1 else 0), (cnt V ag h d i).2.2 + V (8 + i) d) else cnt V ag h d i
/-- the third step's distribution of what is missing -/
def spr : Nat → Int32 → Int32 → Int32 → Int32 → Int32 → Int32 → Int32 × Int32 × Int32
  | 0, a, c, h, _, _, _ => (a, c, h)
  | n + 1, a, c, h, ra, rc, rh => if rc ≤ ra ∧ rh ≤ ra then spr n (a + 1) c h (-1) rc rh else if rh ≤ rc then spr n a (c + 1) h ra (-1) rh else spr n a c (h + 1) ra rc (-1)
def lim3 (a c h m : Int32) : Int32 × Int32 × Int32 := 
  spr (m - (a * m / (a + c + h) + c * m / (a + c + h) + h * m / (a + c + h))).toNatClampNeg (a * m / (a + c + h)) (c * m / (a + c + h)) (h * m / (a + c + h)) (a * m - a * m / (a + c + h) * (a + c + h)) (c * m - c * m / (a + c + h) * (a + c + h)) (h * m - h * m / (a + c + h) * (a + c + h))
def imin (x y : Int32) : Int32 := if y < x then y else x
