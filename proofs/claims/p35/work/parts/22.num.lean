/-! ===== numbers: nothing overflows ===== -/
theorem i32_0 : (0 : Int32).toInt = 0 := rfl
def bd (x : Int32) (n : Int) : Prop := 0 ≤ x.toInt ∧ x.toInt ≤ n
theorem bd_0 {n : Int} (h : 0 ≤ n) : bd 0 n := ⟨by rw [i32_0]; omega, by rw [i32_0]; exact h⟩
theorem bd.mono {x : Int32} {a b : Int} (h : bd x a) (hab : a ≤ b) : bd x b := ⟨h.1, Int.le_trans h.2 hab⟩
theorem i_add {x y : Int32} {a b : Int} (hx : bd x a) (hy : bd y b) (h : a + b < 2147483648) : (x + y).toInt = x.toInt + y.toInt := by
  obtain ⟨h1, h2⟩ := hx
  obtain ⟨h3, h4⟩ := hy
  exact fb_addI (by omega) (by omega)
theorem bd_add {x y : Int32} {a b : Int} (hx : bd x a) (hy : bd y b) (h : a + b < 2147483648) : bd (x + y) (a + b) := by
  have e := i_add hx hy h
  obtain ⟨h1, h2⟩ := hx
  obtain ⟨h3, h4⟩ := hy
  exact ⟨by omega, by omega⟩
theorem mul_rng {x y a b : Int} (h1 : 0 ≤ x) (h2 : x ≤ a) (h3 : 0 ≤ y) (h4 : y ≤ b) : 0 ≤ x * y ∧ x * y ≤ a * b :=
  ⟨Int.mul_nonneg h1 h3, Int.mul_le_mul h2 h4 h3 (Int.le_trans h1 h2)⟩
theorem i_mul {x y : Int32} {a b : Int} (hx : bd x a) (hy : bd y b) (h : a * b < 2147483648) : (x * y).toInt = x.toInt * y.toInt := by
  have q := mul_rng hx.1 hx.2 hy.1 hy.2
  exact fb_mulI (by omega) (by omega)
theorem bd_mul {x y : Int32} {a b : Int} (hx : bd x a) (hy : bd y b) (h : a * b < 2147483648) : bd (x * y) (a * b) := by
  have q := mul_rng hx.1 hx.2 hy.1 hy.2
  unfold bd
  rw [i_mul hx hy h]
  exact q
theorem i_div {x y : Int32} {a : Int} (hx : bd x a) (hy : 0 < y.toInt) : (x / y).toInt = x.toInt / y.toInt := by
  have hr := fb_rng x
  have h0 : 0 ≤ x.toInt / y.toInt := Int.ediv_nonneg hx.1 (Int.le_of_lt hy)
  have h1 : x.toInt / y.toInt ≤ x.toInt := Int.ediv_le_self _ hx.1
  rw [Int32.toInt_div, Int.tdiv_eq_ediv_of_nonneg hx.1, fb_bmod (by omega) (by omega)]
theorem bd_div {x y : Int32} {a : Int} (hx : bd x a) (hy : 0 < y.toInt) : bd (x / y) a := by
  have h0 : 0 ≤ x.toInt / y.toInt := Int.ediv_nonneg hx.1 (Int.le_of_lt hy)
  have h1 : x.toInt / y.toInt ≤ x.toInt := Int.ediv_le_self _ hx.1
  have h2 := hx.2
  unfold bd
  rw [i_div hx hy]
  exact ⟨h0, by omega⟩
theorem i_min {x y : Int32} : (imin x y).toInt = min x.toInt y.toInt := by
  unfold imin
  by_cases h : y < x
  · rw [if_pos h]
    have := (fa_lt _ _).mp h
    omega
  · rw [if_neg h]
    have : ¬ y.toInt < x.toInt := fun q => h ((fa_lt _ _).mpr q)
    omega
theorem i_sub {x y : Int32} (h1 : 0 ≤ x.toInt) (h2 : 0 ≤ y.toInt) : (x - y).toInt = x.toInt - y.toInt := by
  have a := fb_rng x
  have b := fb_rng y
  exact fb_subI (by omega) (by omega)
theorem i_of {x : Int32} {n : Int} (h : x.toInt = n) (h2 : Int32.ofInt n = 0 ∨ True) : x.toInt = n := h
/-- who lives in a household: at most n, with at most 999 each -/
theorem cnt_bd {V : Nat → Nat → Int32} {ag : Nat → Int32} {h : Int32} {d : Nat} (hv : ∀ i, i < 8 → bd (V (8 + i) d) 999) : ∀ n : Nat, n ≤ 8 → bd (cnt V ag h d n).1 n ∧ bd (cnt V ag h d n).2.1 n ∧ bd (cnt V ag h d n).2.2 (999 * n)
  | 0, _ => ⟨bd_0 (by omega), bd_0 (by omega), bd_0 (by omega)⟩
  | n + 1, hn => by
    obtain ⟨a1, a2, a3⟩ := cnt_bd hv n (by omega)
    have b0 : bd 0 1 := bd_0 (by omega)
    have b1 : bd 1 1 := ⟨by decide, by decide⟩
    rw [cnt]
    by_cases hh : V n d = h
    · rw [if_pos hh]
      have c3 : bd ((cnt V ag h d n).2.2 + V (8 + n) d) (999 * ((n + 1 : Nat) : Int)) := (bd_add a3 (hv n (by omega)) (by omega)).mono (by omega)
      by_cases hz : nI d < ag n
      · rw [if_pos hz, if_pos hz]
        exact ⟨(bd_add a1 b0 (by omega)).mono (by omega), (bd_add a2 b1 (by omega)).mono (by omega), c3⟩
      · rw [if_neg hz, if_neg hz]
        exact ⟨(bd_add a1 b1 (by omega)).mono (by omega), (bd_add a2 b0 (by omega)).mono (by omega), c3⟩
    · rw [if_neg hh]
      exact ⟨a1.mono (by omega), a2.mono (by omega), a3.mono (by omega)⟩
theorem i_1 {a : Int32} {A : Int} (ha : bd a A) (h : A < 2147483647) : (a + 1).toInt = a.toInt + 1 := by
  have b1 : bd 1 1 := ⟨by decide, by decide⟩
  exact i_add ha b1 (by omega)
/-- the distribution: n in all -/
theorem spr_sum : ∀ (n : Nat) (a c h ra rc rh : Int32), 0 ≤ a.toInt → 0 ≤ c.toInt → 0 ≤ h.toInt → a.toInt + c.toInt + h.toInt + n ≤ 1000000 →
    0 ≤ (spr n a c h ra rc rh).1.toInt ∧ 0 ≤ (spr n a c h ra rc rh).2.1.toInt ∧ 0 ≤ (spr n a c h ra rc rh).2.2.toInt ∧ (spr n a c h ra rc rh).1.toInt + (spr n a c h ra rc rh).2.1.toInt + (spr n a c h ra rc rh).2.2.toInt = a.toInt + c.toInt + h.toInt + n
  | 0, a, c, h, _, _, _, h1, h2, h3, h4 => ⟨h1, h2, h3, by show a.toInt + c.toInt + h.toInt = _; omega⟩
  | n + 1, a, c, h, ra, rc, rh, h1, h2, h3, h4 => by
    have ea : (a + 1).toInt = a.toInt + 1 := i_1 (A := 1000000) ⟨h1, by omega⟩ (by omega)
    have ec : (c + 1).toInt = c.toInt + 1 := i_1 (A := 1000000) ⟨h2, by omega⟩ (by omega)
    have eh : (h + 1).toInt = h.toInt + 1 := i_1 (A := 1000000) ⟨h3, by omega⟩ (by omega)
    rw [spr]
    by_cases p : rc ≤ ra ∧ rh ≤ ra
    · rw [if_pos p]
      have q := spr_sum n (a + 1) c h (-1) rc rh (by omega) h2 h3 (by omega)
      refine ⟨q.1, q.2.1, q.2.2.1, ?_⟩
      have := q.2.2.2
      omega
    · rw [if_neg p]
      by_cases p2 : rh ≤ rc
      · rw [if_pos p2]
        have q := spr_sum n a (c + 1) h ra (-1) rh h1 (by omega) h3 (by omega)
        refine ⟨q.1, q.2.1, q.2.2.1, ?_⟩
        have := q.2.2.2
        omega
      · rw [if_neg p2]
        have q := spr_sum n a c (h + 1) ra rc (-1) h1 h2 (by omega) (by omega)
        refine ⟨q.1, q.2.1, q.2.2.1, ?_⟩
        have := q.2.2.2
        omega
theorem quo3 {a c h m w : Int} (ha : 0 ≤ a) (hc : 0 ≤ c) (hh : 0 ≤ h) (hm : 0 ≤ m) (hw : w = a + c + h) (hp : 0 < w) : 0 ≤ a * m / w ∧ 0 ≤ c * m / w ∧ 0 ≤ h * m / w ∧ a * m / w + c * m / w + h * m / w ≤ m := by
  have n1 := Int.mul_nonneg ha hm
  have n2 := Int.mul_nonneg hc hm
  have n3 := Int.mul_nonneg hh hm
  refine ⟨Int.ediv_nonneg n1 (Int.le_of_lt hp), Int.ediv_nonneg n2 (Int.le_of_lt hp), Int.ediv_nonneg n3 (Int.le_of_lt hp), ?_⟩
  have q1 := Int.ediv_mul_le (a * m) (Int.ne_of_gt hp)
  have q2 := Int.ediv_mul_le (c * m) (Int.ne_of_gt hp)
  have q3 := Int.ediv_mul_le (h * m) (Int.ne_of_gt hp)
  refine Int.le_of_mul_le_mul_right (a := w) ?_ hp
  have e : m * w = a * m + c * m + h * m := by rw [hw, Int.mul_add, Int.mul_add, Int.mul_comm m a, Int.mul_comm m c, Int.mul_comm m h]
  rw [Int.add_mul, Int.add_mul, e]
  omega
/-- under the cap: each between 0 and 999 -/
theorem lim5_bd {a c h t m : Int32} (ha : bd a 1000) (hc : bd c 1000) (hh : bd h 1000) (hm : bd m 999) : bd (lim5 a c h t m).1 999 ∧ bd (lim5 a c h t m).2.1 999 ∧ bd (lim5 a c h t m).2.2.1 999 := by
  have e1 := i_add ha hc (by omega)
  have b1 := bd_add ha hc (by omega)
  have e2 := i_add b1 hh (by omega)
  have b2 := bd_add b1 hh (by omega)
  obtain ⟨a1, a2⟩ := id ha
  obtain ⟨c1, c2⟩ := id hc
  obtain ⟨d1, d2⟩ := id hh
  obtain ⟨m1, m2⟩ := id hm
  unfold lim5
  by_cases p : a + c + h ≤ 0 ∨ a + c + h ≤ m
  · rw [if_pos p]
    have hs : a.toInt + c.toInt + h.toInt ≤ 999 := by
      rcases p with p | p
      · have := (fa_le _ _).mp p
        rw [i32_0] at this
        omega
      · have := (fa_le _ _).mp p
        omega
    exact ⟨⟨a1, by show a.toInt ≤ _; omega⟩, ⟨c1, by show c.toInt ≤ _; omega⟩, ⟨d1, by show h.toInt ≤ _; omega⟩⟩
  · rw [if_neg p]
    have hw : 0 < (a + c + h).toInt := by
      rcases Int.lt_or_le 0 (a + c + h).toInt with q | q
      · exact q
      · exact absurd (Or.inl ((fa_le _ _).mpr (by rw [i32_0]; exact q))) p
    have pa := bd_mul ha hm (by omega)
    have pc := bd_mul hc hm (by omega)
    have ph := bd_mul hh hm (by omega)
    have q := quo3 (w := (a + c + h).toInt) a1 c1 d1 m1 (by omega) hw
    have ia : (a * m / (a + c + h)).toInt = a.toInt * m.toInt / (a + c + h).toInt := by rw [i_div pa hw, i_mul ha hm (by omega)]
    have ic : (c * m / (a + c + h)).toInt = c.toInt * m.toInt / (a + c + h).toInt := by rw [i_div pc hw, i_mul hc hm (by omega)]
    have ih : (h * m / (a + c + h)).toInt = h.toInt * m.toInt / (a + c + h).toInt := by rw [i_div ph hw, i_mul hh hm (by omega)]
    rw [← ia, ← ic, ← ih] at q
    obtain ⟨q1, q2, q3, q4⟩ := q
    have s1 : (a * m / (a + c + h) + c * m / (a + c + h)).toInt = (a * m / (a + c + h)).toInt + (c * m / (a + c + h)).toInt := i_add (a := 999) (b := 999) ⟨q1, by omega⟩ ⟨q2, by omega⟩ (by omega)
    have s2 : (a * m / (a + c + h) + c * m / (a + c + h) + h * m / (a + c + h)).toInt = (a * m / (a + c + h)).toInt + (c * m / (a + c + h)).toInt + (h * m / (a + c + h)).toInt := by
      rw [i_add (a := 1998) (b := 999) ⟨by omega, by omega⟩ ⟨q3, by omega⟩ (by omega), s1]
    have s3 : (m - (a * m / (a + c + h) + c * m / (a + c + h) + h * m / (a + c + h))).toInt = m.toInt - ((a * m / (a + c + h)).toInt + (c * m / (a + c + h)).toInt + (h * m / (a + c + h)).toInt) := by
      rw [i_sub m1 (by omega), s2]
    have hn : ((m - (a * m / (a + c + h) + c * m / (a + c + h) + h * m / (a + c + h))).toNatClampNeg : Int) = m.toInt - ((a * m / (a + c + h)).toInt + (c * m / (a + c + h)).toInt + (h * m / (a + c + h)).toInt) := by
      show ((m - (a * m / (a + c + h) + c * m / (a + c + h) + h * m / (a + c + h))).toInt.toNat : Int) = _
      rw [s3]
      omega
    have z := spr_sum (m - (a * m / (a + c + h) + c * m / (a + c + h) + h * m / (a + c + h))).toNatClampNeg (a * m / (a + c + h)) (c * m / (a + c + h)) (h * m / (a + c + h)) (a * m - a * m / (a + c + h) * (a + c + h)) (c * m - c * m / (a + c + h) * (a + c + h)) (h * m - h * m / (a + c + h) * (a + c + h)) q1 q2 q3 (by omega)
    rw [hn] at z
    show bd (lim3 a c h m).1 999 ∧ bd (lim3 a c h m).2.1 999 ∧ bd (lim3 a c h m).2.2 999
    unfold lim3
    obtain ⟨z1, z2, z3, z4⟩ := z
    exact ⟨⟨z1, by omega⟩, ⟨z2, by omega⟩, ⟨z3, by omega⟩⟩
/-- the taper -/
theorem tap_bd {a c h o p m : Int32} (ha : bd a 1000) (hc : bd c 1000) (hh : bd h 1000) (ho : o.toInt ≤ 10000) (hp : bd p 100) (hm : bd m 999) : bd (tap5 a c h o p m).1 999 ∧ bd (tap5 a c h o p m).2.1 999 ∧ bd (tap5 a c h o p m).2.2.1 999 := by
  unfold tap5
  by_cases p0 : o ≤ 0
  · rw [if_pos p0]; exact lim5_bd ha hc hh hm
  · rw [if_neg p0]
    have o1 : bd o 10000 := ⟨by
      rcases Int.lt_or_le 0 o.toInt with q | q
      · omega
      · exact absurd ((fa_le _ _).mpr (by rw [i32_0]; exact q)) p0, ho⟩
    have w : bd (o * p / 100) 1000000 := bd_div (bd_mul o1 hp (by omega)) (by decide)
    have f := i_min (x := o * p / 100) (y := h)
    obtain ⟨w1, w2⟩ := w
    obtain ⟨h1, h2⟩ := id hh
    obtain ⟨a1, a2⟩ := id ha
    have g := i_sub (x := o * p / 100) (y := imin (o * p / 100) h) w1 (by omega)
    have k := i_min (x := o * p / 100 - imin (o * p / 100) h) (y := a)
    have r1 := i_sub (x := a) (y := imin (o * p / 100 - imin (o * p / 100) h) a) a1 (by omega)
    have r2 := i_sub (x := h) (y := imin (o * p / 100) h) h1 (by omega)
    exact lim5_bd ⟨by omega, by omega⟩ hc ⟨by omega, by omega⟩ hm
/-- what a day's amounts are between -/
theorem amt_bd {V T : Nat → Nat → Int32} {ag : Nat → Int32} {nP nH rN : Nat} {so : Nat → Int32} {pd : Nat → Nat → Int32} (hi : Inv V T ag nP nH rN so pd) {h d : Nat} (hh : h < 4) (hd : d < 360) : bd (amt V ag nP h d).1 999 ∧ bd (amt V ag nP h d).2.1 999 ∧ bd (amt V ag nP h d).2.2.1 999 := by
  obtain ⟨⟨hP8, _, _⟩, _, _, _, h5, h6, _⟩ := hi
  obtain ⟨g, s, i⟩ := cnt_bd (V := V) (ag := ag) (h := nI h) (d := d) (fun i hi => h5 (8 + i) (by omega) (by omega) d hd) nP hP8
  have r0 : bd (V (20 + 0) d) 99 := h6 0 (by decide) d hd
  have r1 : bd (V (20 + 1) d) 99 := h6 1 (by decide) d hd
  have r2 : bd (V (20 + 2) d) 99 := h6 2 (by decide) d hd
  have r3 : bd (V (20 + 3) d) 99 := h6 3 (by decide) d hd
  have r4 : bd (V (20 + 4) d) 999 := h6 4 (by decide) d hd
  have r5 : bd (V (20 + 5) d) 100 := h6 5 (by decide) d hd
  have r6 : bd (V (20 + 6) d) 999 := h6 6 (by decide) d hd
  have re : bd (V (16 + h) d) 999 := h5 (16 + h) (by omega) (by omega) d hd
  have g8 := g.mono (b := 8) (by omega)
  have s8 := s.mono (b := 8) (by omega)
  have i8 := i.mono (b := 7992) (by omega)
  unfold amt amtC
  by_cases p : (cnt V ag (nI h) d nP).1 = 0
  · rw [if_pos p]; exact ⟨bd_0 (by omega), bd_0 (by omega), bd_0 (by omega)⟩
  · rw [if_neg p]
    have b1 := bd_mul g8 r0 (by omega)
    have b2 := bd_mul s8 r1 (by omega)
    have b3 := bd_add b2 r2 (by omega)
    have b4 := i_min (x := V (16 + h) d) (y := V (20 + 3) d)
    have bc : bd (if (cnt V ag (nI h) d nP).2.1 ≤ 0 then (cnt V ag (nI h) d nP).2.1 * V (20 + 1) d else (cnt V ag (nI h) d nP).2.1 * V (20 + 1) d + V (20 + 2) d) 1000 := by
      split
      · exact b2.mono (by omega)
      · exact b3.mono (by omega)
    have bo := i_sub i8.1 r4.1
    obtain ⟨x1, x2⟩ := id re
    obtain ⟨x3, x4⟩ := id r3
    obtain ⟨x5, x6⟩ := id i8
    obtain ⟨x7, x8⟩ := id r4
    exact tap_bd (b1.mono (by omega)) bc ⟨by omega, by omega⟩ (by omega) r5 r6
theorem tot_bd {V T : Nat → Nat → Int32} {ag : Nat → Int32} {nP nH rN : Nat} {so : Nat → Int32} {pd : Nat → Nat → Int32} (hi : Inv V T ag nP nH rN so pd) {h d : Nat} (hh : h < 4) (hd : d < 360) : bd (tot V ag nP h d) 2997 := by
  obtain ⟨a, c, r⟩ := amt_bd hi hh hd
  exact bd_add (bd_add a c (by omega)) r (by omega)
theorem sumD_bd {f : Nat → Int32} {b : Nat} : ∀ n : Nat, n ≤ 30 → (∀ x, b ≤ x → x < b + n → bd (f x) 2997) → bd (sumD f n b) (2997 * n)
  | 0, _, _ => bd_0 (by omega)
  | n + 1, hn, h => by
    rw [sumD]
    exact (bd_add (sumD_bd n (by omega) (fun x h1 h2 => h x h1 (by omega))) (h (b + n) (by omega) (by omega)) (by omega)).mono (by omega)
theorem due_bd {V T : Nat → Nat → Int32} {ag : Nat → Int32} {nP nH rN : Nat} {so : Nat → Int32} {pd : Nat → Nat → Int32} (hi : Inv V T ag nP nH rN so pd) {h m : Nat} (hh : h < 4) (hm : m < 12) : bd (due V ag nP h m) 100000 :=
  (sumD_bd (f := tot V ag nP h) (b := 30 * m) 30 (Nat.le_refl _) (fun x h1 h2 => tot_bd hi hh (by omega))).mono (by omega)
/-! the months behind: excesses less gaps -/
def gap (f u : Nat → Int32) : Nat → Int
  | 0 => 0
  | n + 1 => gap f u n + (if (f n).toInt < (u n).toInt then (u n).toInt - (f n).toInt else 0)
def exc (f u : Nat → Int32) : Nat → Int
  | 0 => 0
  | n + 1 => exc f u n + (if (f n).toInt < (u n).toInt then 0 else (f n).toInt - (u n).toInt)
theorem gap_bd {f u : Nat → Int32} (hf : ∀ j, j < 12 → bd (f j) 100000000) (hu : ∀ j, j < 12 → bd (u j) 100000) : ∀ n : Nat, n ≤ 12 → (0 ≤ gap f u n ∧ gap f u n ≤ 100000 * n) ∧ (0 ≤ exc f u n ∧ exc f u n ≤ 100000000 * n)
  | 0, _ => ⟨⟨Int.le_refl _, by show (0 : Int) ≤ _; omega⟩, ⟨Int.le_refl _, by show (0 : Int) ≤ _; omega⟩⟩
  | n + 1, hn => by
    obtain ⟨⟨a1, a2⟩, ⟨a3, a4⟩⟩ := gap_bd hf hu n (by omega)
    obtain ⟨f1, f2⟩ := hf n (by omega)
    obtain ⟨u1, u2⟩ := hu n (by omega)
    rw [gap, exc]
    split <;> exact ⟨⟨by omega, by omega⟩, ⟨by omega, by omega⟩⟩
theorem dsum_int {f u : Nat → Int32} (hf : ∀ j, j < 12 → bd (f j) 100000000) (hu : ∀ j, j < 12 → bd (u j) 100000) : ∀ n : Nat, n ≤ 12 → (dsum f u n).toInt = exc f u n - gap f u n
  | 0, _ => rfl
  | n + 1, hn => by
    have ih := dsum_int hf hu n (by omega)
    obtain ⟨⟨a1, a2⟩, ⟨a3, a4⟩⟩ := gap_bd hf hu n (by omega)
    obtain ⟨f1, f2⟩ := hf n (by omega)
    obtain ⟨u1, u2⟩ := hu n (by omega)
    have es := i_sub f1 u1
    rw [dsum, fb_addI (by omega) (by omega), es, ih, gap, exc]
    split <;> omega
/-- the gaps closed -/
theorem sip1_spec {f u : Nat → Int32} {k : Int32} (hf : ∀ j, j < 12 → bd (f j) 100000000) (hu : ∀ j, j < 12 → bd (u j) 100000) (hk : bd k 100000) : ∀ n : Nat, n ≤ 12 → (sip1 f u k n).1.toInt = k.toInt + gap f u n ∧ ∀ j, (sip1 f u k n).2 j = if j < n ∧ f j < u j then u j else f j
  | 0, _ => ⟨by show k.toInt = k.toInt + 0; omega, fun j => by rw [if_neg (by omega)]; rfl⟩
  | n + 1, hn => by
    obtain ⟨i1, i2⟩ := sip1_spec hf hu hk n (by omega)
    obtain ⟨⟨a1, a2⟩, _⟩ := gap_bd hf hu n (by omega)
    obtain ⟨f1, f2⟩ := hf n (by omega)
    obtain ⟨u1, u2⟩ := hu n (by omega)
    obtain ⟨k1, k2⟩ := hk
    have en : (sip1 f u k n).2 n = f n := by rw [i2, if_neg (by omega)]
    have es := i_sub u1 f1
    rw [sip1, en]
    by_cases p : f n < u n
    · have p2 := (fa_lt _ _).mp p
      rw [if_pos p]
      refine ⟨?_, fun j => ?_⟩
      · show ((sip1 f u k n).1 + (u n - f n)).toInt = _
        rw [fb_addI (by omega) (by omega), i1, es, gap, if_pos p2]
        omega
      · show upd _ n (u n) j = _
        unfold upd
        by_cases hj : j = n
        · subst hj; rw [if_pos rfl, if_pos ⟨by omega, p⟩]
        · rw [if_neg hj, i2]
          by_cases hc : j < n ∧ f j < u j
          · rw [if_pos hc, if_pos ⟨by omega, hc.2⟩]
          · rw [if_neg hc, if_neg (fun q => hc ⟨by omega, q.2⟩)]
    · have p2 : ¬ (f n).toInt < (u n).toInt := fun q => p ((fa_lt _ _).mpr q)
      rw [if_neg p]
      refine ⟨?_, fun j => ?_⟩
      · rw [i1, gap, if_neg p2]; omega
      · rw [i2]
        by_cases hc : j < n ∧ f j < u j
        · rw [if_pos hc, if_pos ⟨by omega, hc.2⟩]
        · rw [if_neg hc, if_neg (fun q => hc ⟨by
            rcases Nat.lt_or_eq_of_le (Nat.le_of_lt_succ q.1) with z | z
            · exact z
            · exact absurd (by rw [← z]; exact q.2) p, q.2⟩)]
/-- the excesses used -/
theorem sip2_spec {f u : Nat → Int32} {l : Int32} (hf : ∀ j, j < 12 → bd (f j) 100000000) (hu : ∀ j, j < 12 → bd (u j) 100000) (hl : 0 ≤ l.toInt) (N : Nat) (hN : N ≤ 12) (hfu : ∀ j, j < N → (u j).toInt ≤ (f j).toInt) : ∀ n : Nat, n ≤ N → 0 ≤ (sip2 f u l n).1.toInt ∧ (∀ j, n ≤ j → (sip2 f u l n).2 j = f j) ∧ ∀ j, j < 12 → bd ((sip2 f u l n).2 j) 100000000
  | 0, _ => ⟨hl, fun _ _ => rfl, hf⟩
  | n + 1, hn => by
    obtain ⟨i1, i2, i3⟩ := sip2_spec hf hu hl N hN hfu n (by omega)
    have en := i2 n (Nat.le_refl _)
    obtain ⟨f1, f2⟩ := hf n (by omega)
    obtain ⟨u1, u2⟩ := hu n (by omega)
    have hq := hfu n (by omega)
    have e1 := i_sub f1 u1
    have e2 := i_min (x := (sip2 f u l n).1) (y := f n - u n)
    have e3 := i_sub (x := (sip2 f u l n).1) (y := imin (sip2 f u l n).1 (f n - u n)) i1 (by omega)
    have e4 := i_sub (x := f n) (y := imin (sip2 f u l n).1 (f n - u n)) f1 (by omega)
    rw [sip2, en]
    refine ⟨?_, fun j hj => ?_, fun j hj => ?_⟩
    · show 0 ≤ ((sip2 f u l n).1 - imin (sip2 f u l n).1 (f n - u n)).toInt
      omega
    · show upd _ n _ j = _
      unfold upd
      rw [if_neg (by omega)]
      exact i2 j (by omega)
    · show bd (upd _ n _ j) _
      unfold upd
      by_cases hj2 : j = n
      · rw [if_pos hj2]; exact ⟨by omega, by omega⟩
      · rw [if_neg hj2]; exact i3 j hj
theorem sip1_le {f u : Nat → Int32} {k : Int32} (hf : ∀ j, j < 12 → bd (f j) 100000000) (hu : ∀ j, j < 12 → bd (u j) 100000) (hk : bd k 100000) {mo : Nat} (hm : mo ≤ 12) : (∀ j, j < 12 → bd ((sip1 f u k mo).2 j) 100000000) ∧ ∀ j, j < mo → (u j).toInt ≤ ((sip1 f u k mo).2 j).toInt := by
  obtain ⟨_, h2⟩ := sip1_spec hf hu hk mo hm
  refine ⟨fun j hj => ?_, fun j hj => ?_⟩
  · rw [h2]; split
    · exact (hu j hj).mono (by omega)
    · exact hf j hj
  · rw [h2]
    by_cases p : f j < u j
    · rw [if_pos ⟨hj, p⟩]; exact Int.le_refl _
    · rw [if_neg (fun q => p q.2)]
      exact Int.not_lt.mp (fun q => p ((fa_lt _ _).mpr q))
theorem kept_bd {f u : Nat → Int32} (hu : ∀ j, j < 12 → bd (u j) 100000) {mo : Nat} (hm : mo < 12) (hd : ¬ dsum f u mo ≤ 0) : bd (imin (dsum f u mo) (u mo / 5)) 100000 := by
  have e := i_min (x := dsum f u mo) (y := u mo / 5)
  have b := bd_div (hu mo hm) (y := 5) (by decide)
  have h0 : 0 ≤ (dsum f u mo).toInt := by
    rcases Int.lt_or_le 0 (dsum f u mo).toInt with q | q
    · omega
    · exact absurd ((fa_le _ _).mpr (by rw [i32_0]; exact q)) hd
  obtain ⟨b1, b2⟩ := b
  exact ⟨by omega, by omega⟩
theorem payD_bd {f u : Nat → Int32} (hf : ∀ j, j < 12 → bd (f j) 100000000) (hu : ∀ j, j < 12 → bd (u j) 100000) {mo : Nat} (hm : mo < 12) : ∀ j, j < 12 → bd (payD u f mo j) 100000000 := fun j hj => by
  unfold payD
  by_cases p : dsum f u mo ≤ 0
  · rw [if_pos p]
    unfold sett
    split
    · exact (hu j hj).mono (by omega)
    · exact hf j hj
  · rw [if_neg p]
    have hk := kept_bd hu hm p
    obtain ⟨s1, s2⟩ := sip1_le hf hu hk (mo := mo) (by omega)
    have hl := (sip1_spec hf hu hk mo (by omega)).1
    obtain ⟨⟨g1, g2⟩, _⟩ := gap_bd hf hu mo (by omega)
    obtain ⟨k1, k2⟩ := id hk
    have s3 := (sip2_spec (f := (sip1 f u (imin (dsum f u mo) (u mo / 5)) mo).2) (u := u) (l := (sip1 f u (imin (dsum f u mo) (u mo / 5)) mo).1) s1 hu (by omega) mo (by omega) s2 mo (Nat.le_refl _)).2.2
    unfold sipF upd
    split
    · exact (hu mo hm).mono (by omega)
    · exact s3 j hj
theorem Inv.pay {V T : Nat → Nat → Int32} {ag : Nat → Int32} {nP nH rN : Nat} {so : Nat → Int32} {pd py : Nat → Nat → Int32} {sk : Int64} (hi : Inv V T ag nP nH rN so pd) (hr : rN < 12) : ∀ n : Nat, n ≤ 4 → Inv V T ag nP nH (rN + 1) so (runS (due V ag nP) rN py pd sk n).2.2.1
  | 0, _ => by
    obtain ⟨h1, h2, h3, h4, h5, h6, h7⟩ := hi
    exact ⟨⟨h1.1, h1.2.1, by omega⟩, h2, h3, h4, h5, h6, h7⟩
  | n + 1, hn => by
    obtain ⟨h1, h2, h3, h4, h5, h6, h7⟩ := Inv.pay (py := py) (sk := sk) hi hr n (by omega)
    refine ⟨h1, h2, h3, h4, h5, h6, fun h hh m hm => ?_⟩
    show 0 ≤ (upd2 _ n _ h m).toInt ∧ (upd2 _ n _ h m).toInt ≤ _
    by_cases q : h = n
    · subst q
      rw [upd2_s]
      exact payD_bd (f := pd h) (u := due V ag nP h) (fun j hj => hi.2.2.2.2.2.2 h hh j hj) (fun j hj => due_bd hi hh hj) hr m hm
    · rw [upd2_n _ _ q]; exact h7 h hh m hm
