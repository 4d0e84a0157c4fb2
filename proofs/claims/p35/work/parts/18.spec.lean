/-! ===== what each call of the face answers: its code (0: it returns; else which exception), its answer, the state behind it ===== -/
def CW (cI cZ cH cP cT : ClassId) (ad : Nat → Nat) (V T : Nat → Nat → Int32) (ag : Nat → Int32) (nP nH rN : Nat) (nf pn : Int32) (sp sk : Int64) (py pd : Nat → Nat → Int32) (E1 : Nat → va_E) : Prop := ∃ (so en : Nat → Int32) (rA rC rI aA aC aH aT aP : Int32), E1 = cE cI cZ cH cP cT ad V T ag nP nH rN nf pn sp sk py pd so en rA rC rI aA aC aH aT aP ∧ Inv V T ag nP nH rN so pd
def rIx (c : Int32) : Nat := if c = 97 then 0 else if c = 99 then 1 else if c = 102 then 2 else if c = 114 then 3 else if c = 116 then 4 else if c = 112 then 5 else if c = 109 then 6 else 7
theorem rIx_of : ∀ i, i < 7 → rIx (ruLet i) = i := by decide
theorem rIx_no {c : Int32} (h : ∀ j, j < 7 → ¬ ruLet j = c) : rIx c = 7 := by
  unfold rIx
  rw [if_neg (fun q => h 0 (by decide) q.symm), if_neg (fun q => h 1 (by decide) q.symm), if_neg (fun q => h 2 (by decide) q.symm), if_neg (fun q => h 3 (by decide) q.symm), if_neg (fun q => h 4 (by decide) q.symm), if_neg (fun q => h 5 (by decide) q.symm), if_neg (fun q => h 6 (by decide) q.symm)]
noncomputable def kAddP (nP : Nat) (x : Int32) : Int32 := cif (vp_in x 1000) (cif (nP < 8) 0 2) 1
noncomputable def kAddH (nH : Nat) : Int32 := cif (nH < 4) 0 1
noncomputable def kMove (nP nH : Nat) (p h d : Int32) : Int32 := cif (vp_in p nP ∧ (h = -1 ∨ vp_in h nH)) (cif (vp_in d 360) 0 2) 1
/-- setIncome, setRent: of n -/
noncomputable def kSet (n : Nat) (p v d : Int32) : Int32 := cif (vp_in p n) (cif (vp_in v 1000 ∧ vp_in d 360) 0 2) 1
noncomputable def kRule (c v d : Int32) : Int32 := cif (rIx c < 7) (cif ((¬ v < 0 ∧ v ≤ ruGr (rIx c)) ∧ vp_in d 360) 0 2) 1
noncomputable def kTake (T : Nat → Nat → Int32) (o n : Nat) (p d : Int32) : Int32 := cif (vp_in p n) (cif (vp_in d 360 ∧ ¬ T (o + ix p) (ix d) = 0) 0 2) 1
noncomputable def kTakeR (T : Nat → Nat → Int32) (c d : Int32) : Int32 := cif (rIx c < 7 ∧ (vp_in d 360 ∧ ¬ T (20 + rIx c) (ix d) = 0)) (cif (d = 0) 2 0) 1
noncomputable def kPay (rN : Nat) : Int32 := cif (rN < 12) 0 1
noncomputable def kPaym (nH rN : Nat) (h m : Int32) : Int32 := cif (vp_in h nH ∧ vp_in m 12) (cif (vp_in m rN) 0 2) 1
noncomputable def kMon (nH : Nat) (h m : Int32) : Int32 := cif (vp_in h nH ∧ vp_in m 12) 0 1
noncomputable def kHou (nH : Nat) (h : Int32) : Int32 := cif (vp_in h nH) 0 1
/-- homeOf (of nP), the questions about a household on a day (of nH) -/
noncomputable def kAsk (n : Nat) (h d : Int32) : Int32 := cif (vp_in h n) (cif (vp_in d 360) 0 2) 1
noncomputable def kRat (c d : Int32) : Int32 := cif (rIx c < 7) (cif (vp_in d 360) 0 2) 1
/-- the first day of n from d on whose amounts are others than z -/
def nxt (f : Nat → Int32 × Int32 × Int32) (z : Int32 × Int32 × Int32) : Nat → Nat → Nat
  | 0, d => d
  | n + 1, d => if f d = z then nxt f z n (d + 1) else d
def am3 (V : Nat → Nat → Int32) (ag : Nat → Int32) (nP h d : Nat) : Int32 × Int32 × Int32 := ((amt V ag nP h d).1, (amt V ag nP h d).2.1, (amt V ag nP h d).2.2.1)
def nxD (V : Nat → Nat → Int32) (ag : Nat → Int32) (nP h d : Nat) : Nat := nxt (am3 V ag nP h) (am3 V ag nP h d) (359 - d) (d + 1)
noncomputable def kNxt (V : Nat → Nat → Int32) (ag : Nat → Int32) (nP nH : Nat) (h d : Int32) : Int32 := cif (vp_in h nH) (cif (vp_in d 360) (cif (nxD V ag nP (ix h) (ix d) < 360) 0 3) 2) 1
def bal (u f : Nat → Int32) : Nat → Int32
  | 0 => 0
  | n + 1 => bal u f n + (u n - f n)
def stl (u f : Nat → Int32) : Nat → Int32
  | 0 => 1
  | n + 1 => if stl u f n = 0 then 0 else if u n = f n then 1 else 0
def rsn (g t u : Int32) : Int32 := if g = 0 then 110 else if t = 0 then (if u = 0 then 102 else 109) else if u = 0 then 116 else 98
/-- what the run for the month mo pays the household with the paid row f, whose entitlements are u; what is paid for, behind it; what is kept back -/
def payP (u f : Nat → Int32) (mo : Nat) : Int32 := if dsum f u mo ≤ 0 then u mo - dsum f u mo else u mo - imin (dsum f u mo) (u mo / 5)
def payD (u f : Nat → Int32) (mo : Nat) : Nat → Int32 := if dsum f u mo ≤ 0 then sett f u (mo + 1) else sipF f u mo (imin (dsum f u mo) (u mo / 5))
def payK (u f : Nat → Int32) (mo : Nat) (sk : Int64) : Int64 := if dsum f u mo ≤ 0 then sk else sk + (imin (dsum f u mo) (u mo / 5)).toInt64
/-- the run's first n households: the sum, paid for, payments, kept back -/
def runS (U : Nat → Nat → Int32) (mo : Nat) (py pd : Nat → Nat → Int32) (sk : Int64) : Nat → Int32 × (Nat → Nat → Int32) × (Nat → Nat → Int32) × Int64
  | 0 => (0, py, pd, sk)
  | n + 1 => ((runS U mo py pd sk n).1 + payP (U n) (pd n) mo, upd2 (runS U mo py pd sk n).2.1 n (upd (py n) mo (payP (U n) (pd n) mo)), upd2 (runS U mo py pd sk n).2.2.1 n (payD (U n) (pd n) mo), payK (U n) (pd n) mo (runS U mo py pd sk n).2.2.2)
theorem runS_keep {U : Nat → Nat → Int32} {mo : Nat} {py pd : Nat → Nat → Int32} {sk : Int64} : ∀ {n k : Nat}, n ≤ k → (runS U mo py pd sk n).2.1 k = py k ∧ (runS U mo py pd sk n).2.2.1 k = pd k
  | 0, _, _ => ⟨rfl, rfl⟩
  | n + 1, k, h => by
    have a := runS_keep (U := U) (mo := mo) (py := py) (pd := pd) (sk := sk) (n := n) (k := k) (by omega)
    refine ⟨?_, ?_⟩
    · rw [runS]; show upd2 _ _ _ k = _; rw [upd2_n _ _ (by omega)]; exact a.1
    · rw [runS]; show upd2 _ _ _ k = _; rw [upd2_n _ _ (by omega)]; exact a.2
