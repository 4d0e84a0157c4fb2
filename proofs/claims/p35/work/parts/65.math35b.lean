/-! ===== p35: a day's amounts stay under their caps ===== -/
theorem e_da (x w : Int) : x / w * w + x % w = x := by
  first
  | (have h := Int.emod_def x w; rw [Int.mul_comm w] at h; omega)
  | (have h := Int.emod_add_mul_ediv x w; rw [Int.mul_comm w] at h; omega)
  | (have h := Int.mul_ediv_add_emod x w; rw [Int.mul_comm w] at h; omega)
theorem q_le {a m w q r : Int} (h : q * w + r = a * m) (hr : 0 ≤ r) (ha : 0 ≤ a) (hm : m < w) (hw : 0 < w) : q ≤ a ∧ (0 < r → q + 1 ≤ a) := by
  have h1 : a * m ≤ a * w := Int.mul_le_mul_of_nonneg_left (Int.le_of_lt hm) ha
  have h2 : q ≤ a := by
    rcases Int.lt_or_le a q with z | z
    · have h3 : (a + 1) * w ≤ q * w := Int.mul_le_mul_of_nonneg_right (show a + 1 ≤ q by omega) (Int.le_of_lt hw)
      rw [Int.add_mul, Int.one_mul] at h3
      omega
    · exact z
  refine ⟨h2, fun hp => ?_⟩
  rcases Int.lt_or_le q a with z | z
  · omega
  · have e : q = a := by omega
    subst e
    omega
theorem spr_le : ∀ (n : Nat) (a c h ra rc rh : Int32) (A C B w : Int), n ≤ 2 → bd a 1000 → bd c 1000 → bd h 1000 → (0 ≤ ra.toInt ∧ ra.toInt < w) → (0 ≤ rc.toInt ∧ rc.toInt < w) → (0 ≤ rh.toInt ∧ rh.toInt < w) → ra.toInt + rc.toInt + rh.toInt = (n : Int) * w → 0 < w → (a.toInt ≤ A ∧ (0 < ra.toInt → a.toInt + 1 ≤ A)) → (c.toInt ≤ C ∧ (0 < rc.toInt → c.toInt + 1 ≤ C)) → (h.toInt ≤ B ∧ (0 < rh.toInt → h.toInt + 1 ≤ B)) →
    (spr n a c h ra rc rh).1.toInt ≤ A ∧ (spr n a c h ra rc rh).2.1.toInt ≤ C ∧ (spr n a c h ra rc rh).2.2.toInt ≤ B := by
  intro n a c h ra rc rh A C B w hn ba bc bh r1 r2 r3 hs hw ka kc kh
  have ea := i_1 ba (by omega)
  have ec := i_1 bc (by omega)
  have eh := i_1 bh (by omega)
  have m1 : (-1 : Int32).toInt = -1 := rfl
  have hcase : n = 0 ∨ n = 1 ∨ n = 2 := by omega
  rcases hcase with rfl | rfl | rfl
  · exact ⟨ka.1, kc.1, kh.1⟩
  · have hs1 : ra.toInt + rc.toInt + rh.toInt = w := by rw [hs]; exact Int.one_mul w
    rw [spr]
    by_cases p : rc ≤ ra ∧ rh ≤ ra
    · have p1 := (fa_le _ _).mp p.1
      have p2 := (fa_le _ _).mp p.2
      rw [if_pos p]
      exact ⟨by show (a + 1).toInt ≤ A; rw [ea]; exact ka.2 (by omega), kc.1, kh.1⟩
    · rw [if_neg p]
      by_cases p2 : rh ≤ rc
      · have q2 := (fa_le _ _).mp p2
        rw [if_pos p2]
        refine ⟨ka.1, ?_, kh.1⟩
        show (c + 1).toInt ≤ C
        rw [ec]
        refine kc.2 ?_
        rcases Int.lt_or_le 0 rc.toInt with z | z
        · exact z
        · exact absurd ⟨(fa_le _ _).mpr (by omega), (fa_le _ _).mpr (by omega)⟩ p
      · have q2 : ¬ rh.toInt ≤ rc.toInt := fun q => p2 ((fa_le _ _).mpr q)
        rw [if_neg p2]
        exact ⟨ka.1, kc.1, by show (h + 1).toInt ≤ B; rw [eh]; exact kh.2 (by omega)⟩
  · have hs2 : ra.toInt + rc.toInt + rh.toInt = w + w := by rw [hs]; show (2 : Int) * w = _; omega
    have ka2 := ka.2 (by omega)
    have kc2 := kc.2 (by omega)
    have kh2 := kh.2 (by omega)
    rw [spr]
    by_cases p : rc ≤ ra ∧ rh ≤ ra
    · rw [if_pos p, spr, if_neg (fun q => by have := (fa_le _ _).mp q.1; omega)]
      by_cases p2 : rh ≤ rc
      · rw [if_pos p2]
        exact ⟨by show (a + 1).toInt ≤ A; omega, by show (c + 1).toInt ≤ C; omega, kh.1⟩
      · rw [if_neg p2]
        exact ⟨by show (a + 1).toInt ≤ A; omega, kc.1, by show (h + 1).toInt ≤ B; omega⟩
    · rw [if_neg p]
      by_cases p2 : rh ≤ rc
      · rw [if_pos p2, spr]
        by_cases p3 : (-1 : Int32) ≤ ra ∧ rh ≤ ra
        · rw [if_pos p3]
          exact ⟨by show (a + 1).toInt ≤ A; omega, by show (c + 1).toInt ≤ C; omega, kh.1⟩
        · rw [if_neg p3, if_neg (fun q => by have := (fa_le _ _).mp q; omega)]
          exact ⟨ka.1, by show (c + 1).toInt ≤ C; omega, by show (h + 1).toInt ≤ B; omega⟩
      · rw [if_neg p2, spr]
        by_cases p3 : rc ≤ ra ∧ (-1 : Int32) ≤ ra
        · rw [if_pos p3]
          exact ⟨by show (a + 1).toInt ≤ A; omega, kc.1, by show (h + 1).toInt ≤ B; omega⟩
        · rw [if_neg p3, if_pos ((fa_le _ _).mpr (by omega))]
          exact ⟨ka.1, by show (c + 1).toInt ≤ C; omega, by show (h + 1).toInt ≤ B; omega⟩
/-- the third step where the sum is over the cap -/
theorem lim3_spec {a c h m : Int32} (ha : bd a 1000) (hc : bd c 1000) (hh : bd h 1000) (hm : bd m 999) (p : ¬ (a + c + h ≤ 0 ∨ a + c + h ≤ m)) :
    (0 ≤ (lim3 a c h m).1.toInt ∧ 0 ≤ (lim3 a c h m).2.1.toInt ∧ 0 ≤ (lim3 a c h m).2.2.toInt ∧ (lim3 a c h m).1.toInt + (lim3 a c h m).2.1.toInt + (lim3 a c h m).2.2.toInt = m.toInt) ∧ (lim3 a c h m).1.toInt ≤ a.toInt ∧ (lim3 a c h m).2.1.toInt ≤ c.toInt ∧ (lim3 a c h m).2.2.toInt ≤ h.toInt := by
  have e1 := i_add ha hc (by omega)
  have b1 := bd_add ha hc (by omega)
  have e2 := i_add b1 hh (by omega)
  obtain ⟨a1, a2⟩ := id ha
  obtain ⟨c1, c2⟩ := id hc
  obtain ⟨d1, d2⟩ := id hh
  obtain ⟨m1, m2⟩ := id hm
  have hw : 0 < (a + c + h).toInt := by
    rcases Int.lt_or_le 0 (a + c + h).toInt with q | q
    · exact q
    · exact absurd (Or.inl ((fa_le _ _).mpr (by rw [i32_0]; exact q))) p
  have hmw : m.toInt < (a + c + h).toInt := by
    rcases Int.lt_or_le m.toInt (a + c + h).toInt with q | q
    · exact q
    · exact absurd (Or.inr ((fa_le _ _).mpr q)) p
  have pa := bd_mul ha hm (by omega)
  have pc := bd_mul hc hm (by omega)
  have ph := bd_mul hh hm (by omega)
  have q := quo3 (w := (a + c + h).toInt) a1 c1 d1 m1 (by omega) hw
  have ja := i_mul ha hm (by omega)
  have jc := i_mul hc hm (by omega)
  have jh := i_mul hh hm (by omega)
  have ia : (a * m / (a + c + h)).toInt = a.toInt * m.toInt / (a + c + h).toInt := by rw [i_div pa hw, ja]
  have ic : (c * m / (a + c + h)).toInt = c.toInt * m.toInt / (a + c + h).toInt := by rw [i_div pc hw, jc]
  have ih : (h * m / (a + c + h)).toInt = h.toInt * m.toInt / (a + c + h).toInt := by rw [i_div ph hw, jh]
  have hrem : ∀ x : Int32, bd x 1000 → (x * m - x * m / (a + c + h) * (a + c + h)).toInt = x.toInt * m.toInt % (a + c + h).toInt := fun x hx => by
    have px := bd_mul hx hm (by omega)
    have jx := i_mul hx hm (by omega)
    have ix : (x * m / (a + c + h)).toInt = x.toInt * m.toInt / (a + c + h).toInt := by rw [i_div px hw, jx]
    have hle := Int.ediv_mul_le (x.toInt * m.toInt) (Int.ne_of_gt hw)
    have h0 : 0 ≤ x.toInt * m.toInt / (a + c + h).toInt := Int.ediv_nonneg (Int.mul_nonneg hx.1 m1) (Int.le_of_lt hw)
    have h00 : 0 ≤ x.toInt * m.toInt / (a + c + h).toInt * (a + c + h).toInt := Int.mul_nonneg h0 (Int.le_of_lt hw)
    have px2 := px.2
    have em : (x * m / (a + c + h) * (a + c + h)).toInt = x.toInt * m.toInt / (a + c + h).toInt * (a + c + h).toInt := by
      rw [← ix]
      refine fb_mulI ?_ ?_ <;> rw [ix] <;> omega
    rw [i_sub px.1 (by rw [em]; exact h00), em, jx]
    have := e_da (x.toInt * m.toInt) (a + c + h).toInt
    omega
  have hr1 : ∀ x : Int, 0 ≤ x % (a + c + h).toInt ∧ x % (a + c + h).toInt < (a + c + h).toInt := fun x => ⟨Int.emod_nonneg _ (Int.ne_of_gt hw), Int.emod_lt_of_pos _ hw⟩
  have hq1 : ∀ x : Int, 0 ≤ x → x * m.toInt / (a + c + h).toInt ≤ x ∧ (0 < x * m.toInt % (a + c + h).toInt → x * m.toInt / (a + c + h).toInt + 1 ≤ x) := fun x hx =>
    q_le (r := x * m.toInt % (a + c + h).toInt) (e_da (x * m.toInt) (a + c + h).toInt) (hr1 _).1 hx hmw hw
  have qa := hq1 a.toInt a1
  have qc := hq1 c.toInt c1
  have qh := hq1 h.toInt d1
  have ra := hr1 (a.toInt * m.toInt)
  have rc := hr1 (c.toInt * m.toInt)
  have rh := hr1 (h.toInt * m.toInt)
  rw [← hrem a ha, ← ia] at qa
  rw [← hrem c hc, ← ic] at qc
  rw [← hrem h hh, ← ih] at qh
  rw [← hrem a ha] at ra
  rw [← hrem c hc] at rc
  rw [← hrem h hh] at rh
  have hsum : (a * m - a * m / (a + c + h) * (a + c + h)).toInt + (c * m - c * m / (a + c + h) * (a + c + h)).toInt + (h * m - h * m / (a + c + h) * (a + c + h)).toInt = (m.toInt - ((a * m / (a + c + h)).toInt + (c * m / (a + c + h)).toInt + (h * m / (a + c + h)).toInt)) * (a + c + h).toInt := by
    rw [hrem a ha, hrem c hc, hrem h hh, ia, ic, ih, Int.sub_mul, Int.add_mul, Int.add_mul]
    have z1 := e_da (a.toInt * m.toInt) (a + c + h).toInt
    have z2 := e_da (c.toInt * m.toInt) (a + c + h).toInt
    have z3 := e_da (h.toInt * m.toInt) (a + c + h).toInt
    have e : m.toInt * (a + c + h).toInt = a.toInt * m.toInt + c.toInt * m.toInt + h.toInt * m.toInt := by rw [e2, e1, Int.mul_add, Int.mul_add, Int.mul_comm m.toInt a.toInt, Int.mul_comm m.toInt c.toInt, Int.mul_comm m.toInt h.toInt]
    rw [e]
    omega
  rw [← ia, ← ic, ← ih] at q
  obtain ⟨q1, q2, q3, q4⟩ := q
  have s1 : (a * m / (a + c + h) + c * m / (a + c + h)).toInt = (a * m / (a + c + h)).toInt + (c * m / (a + c + h)).toInt := i_add (a := 999) (b := 999) ⟨q1, by omega⟩ ⟨q2, by omega⟩ (by omega)
  have s2 : (a * m / (a + c + h) + c * m / (a + c + h) + h * m / (a + c + h)).toInt = (a * m / (a + c + h)).toInt + (c * m / (a + c + h)).toInt + (h * m / (a + c + h)).toInt := by
    rw [i_add (a := 1998) (b := 999) ⟨by omega, by omega⟩ ⟨q3, by omega⟩ (by omega), s1]
  have s3 : (m - (a * m / (a + c + h) + c * m / (a + c + h) + h * m / (a + c + h))).toInt = m.toInt - ((a * m / (a + c + h)).toInt + (c * m / (a + c + h)).toInt + (h * m / (a + c + h)).toInt) := by
    rw [i_sub m1 (by omega), s2]
  have hn : ((m - (a * m / (a + c + h) + c * m / (a + c + h) + h * m / (a + c + h))).toNatClampNeg : Int) = m.toInt - ((a * m / (a + c + h)).toInt + (c * m / (a + c + h)).toInt + (h * m / (a + c + h)).toInt) := by
    show ((m - (a * m / (a + c + h) + c * m / (a + c + h) + h * m / (a + c + h))).toInt.toNat : Int) = _
    rw [s3]
    omega
  have z := spr_sum (m - (a * m / (a + c + h) + c * m / (a + c + h) + h * m / (a + c + h))).toNatClampNeg (a * m / (a + c + h)) (c * m / (a + c + h)) (h * m / (a + c + h)) (a * m - a * m / (a + c + h) * (a + c + h)) (c * m - c * m / (a + c + h) * (a + c + h)) (h * m - h * m / (a + c + h) * (a + c + h)) q1 q2 q3 (by omega)
  rw [← hn] at hsum
  have hN : (m - (a * m / (a + c + h) + c * m / (a + c + h) + h * m / (a + c + h))).toNatClampNeg ≤ 2 := by
    rcases Nat.lt_or_ge 2 (m - (a * m / (a + c + h) + c * m / (a + c + h) + h * m / (a + c + h))).toNatClampNeg with y | y
    · have y2 : (3 : Int) * (a + c + h).toInt ≤ ((m - (a * m / (a + c + h) + c * m / (a + c + h) + h * m / (a + c + h))).toNatClampNeg : Int) * (a + c + h).toInt := Int.mul_le_mul_of_nonneg_right (by omega) (Int.le_of_lt hw)
      omega
    · exact y
  have y := spr_le (m - (a * m / (a + c + h) + c * m / (a + c + h) + h * m / (a + c + h))).toNatClampNeg (a * m / (a + c + h)) (c * m / (a + c + h)) (h * m / (a + c + h)) (a * m - a * m / (a + c + h) * (a + c + h)) (c * m - c * m / (a + c + h) * (a + c + h)) (h * m - h * m / (a + c + h) * (a + c + h)) a.toInt c.toInt h.toInt (a + c + h).toInt hN ⟨q1, by omega⟩ ⟨q2, by omega⟩ ⟨q3, by omega⟩ ra rc rh hsum hw qa qc qh
  rw [hn] at z
  obtain ⟨z1, z2, z3, z4⟩ := z
  unfold lim3
  exact ⟨⟨z1, z2, z3, by omega⟩, y⟩
/-- all that holds behind the cap -/
theorem lim5_spec {a c h t m : Int32} (ha : bd a 1000) (hc : bd c 1000) (hh : bd h 1000) (hm : bd m 999) :
    (0 ≤ (lim5 a c h t m).1.toInt ∧ 0 ≤ (lim5 a c h t m).2.1.toInt ∧ 0 ≤ (lim5 a c h t m).2.2.1.toInt ∧ (lim5 a c h t m).1.toInt + (lim5 a c h t m).2.1.toInt + (lim5 a c h t m).2.2.1.toInt ≤ m.toInt) ∧ (lim5 a c h t m).1.toInt ≤ a.toInt ∧ (lim5 a c h t m).2.2.1.toInt ≤ h.toInt ∧ (¬ (lim5 a c h t m).2.2.2.2 = 0 → (lim5 a c h t m).1.toInt + (lim5 a c h t m).2.1.toInt + (lim5 a c h t m).2.2.1.toInt = m.toInt) := by
  have e1 := i_add ha hc (by omega)
  have b1 := bd_add ha hc (by omega)
  have e2 := i_add b1 hh (by omega)
  unfold lim5
  by_cases p : a + c + h ≤ 0 ∨ a + c + h ≤ m
  · rw [if_pos p]
    have hs : a.toInt + c.toInt + h.toInt ≤ m.toInt := by
      have := hm.1
      rcases p with p | p
      · have := (fa_le _ _).mp p
        rw [i32_0] at this
        omega
      · have := (fa_le _ _).mp p
        omega
    exact ⟨⟨ha.1, hc.1, hh.1, hs⟩, Int.le_refl _, Int.le_refl _, fun q => absurd rfl q⟩
  · rw [if_neg p]
    obtain ⟨⟨z1, z2, z3, z4⟩, y1, y2, y3⟩ := lim3_spec ha hc hh hm p
    exact ⟨⟨z1, z2, z3, Int.le_of_eq z4⟩, y1, y3, fun _ => z4⟩
theorem tap5_spec {a c h o p m : Int32} (ha : bd a 1000) (hc : bd c 1000) (hh : bd h 1000) (ho : o.toInt ≤ 10000) (hp : bd p 100) (hm : bd m 999) :
    (0 ≤ (tap5 a c h o p m).1.toInt ∧ 0 ≤ (tap5 a c h o p m).2.1.toInt ∧ 0 ≤ (tap5 a c h o p m).2.2.1.toInt ∧ (tap5 a c h o p m).1.toInt + (tap5 a c h o p m).2.1.toInt + (tap5 a c h o p m).2.2.1.toInt ≤ m.toInt) ∧ (tap5 a c h o p m).1.toInt ≤ a.toInt ∧ (tap5 a c h o p m).2.2.1.toInt ≤ h.toInt ∧ (¬ (tap5 a c h o p m).2.2.2.2 = 0 → (tap5 a c h o p m).1.toInt + (tap5 a c h o p m).2.1.toInt + (tap5 a c h o p m).2.2.1.toInt = m.toInt) := by
  unfold tap5
  by_cases p0 : o ≤ 0
  · rw [if_pos p0]; exact lim5_spec ha hc hh hm
  · rw [if_neg p0]
    have o1 : bd o 10000 := ⟨by
      rcases Int.lt_or_le 0 o.toInt with q | q
      · omega
      · exact absurd ((fa_le _ _).mpr (by rw [i32_0]; exact q)) p0, ho⟩
    have w : bd (o * p / 100) 1000000 := bd_div (bd_mul o1 hp (by omega)) (by decide)
    have f := i_min (x := o * p / 100) (y := h)
    obtain ⟨w1, w2⟩ := w
    obtain ⟨h1, h2⟩ := id hh
    obtain ⟨a1, a2⟩ := id ha
    have g := i_sub (x := o * p / 100) (y := imin (o * p / 100) h) w1 (by omega)
    have k := i_min (x := o * p / 100 - imin (o * p / 100) h) (y := a)
    have r1 := i_sub (x := a) (y := imin (o * p / 100 - imin (o * p / 100) h) a) a1 (by omega)
    have r2 := i_sub (x := h) (y := imin (o * p / 100) h) h1 (by omega)
    obtain ⟨x, y1, y2, y3⟩ := lim5_spec (t := if imin (o * p / 100) h + imin (o * p / 100 - imin (o * p / 100) h) a ≤ 0 then 0 else 1) (show bd (a - imin (o * p / 100 - imin (o * p / 100) h) a) 1000 from ⟨by omega, by omega⟩) hc (show bd (h - imin (o * p / 100) h) 1000 from ⟨by omega, by omega⟩) hm
    exact ⟨x, by omega, by omega, y3⟩
/-- a day of a household -/
theorem day_spec {V T : Nat → Nat → Int32} {ag : Nat → Int32} {nP nH rN : Nat} {so : Nat → Int32} {pd : Nat → Nat → Int32} (hi : Inv V T ag nP nH rN so pd) {h d : Nat} (hh : h < 4) (hd : d < 360) :
    (0 ≤ (amt V ag nP h d).1.toInt ∧ 0 ≤ (amt V ag nP h d).2.1.toInt ∧ 0 ≤ (amt V ag nP h d).2.2.1.toInt ∧ (tot V ag nP h d).toInt ≤ (V 26 d).toInt) ∧ (amt V ag nP h d).2.2.1.toInt ≤ (V 23 d).toInt ∧ (amt V ag nP h d).1.toInt ≤ ((cnt V ag (nI h) d nP).1 * V 20 d).toInt ∧ 0 ≤ (cnt V ag (nI h) d nP).1.toInt ∧ ((cnt V ag (nI h) d nP).1 = 0 → tot V ag nP h d = 0 ∧ (amt V ag nP h d).2.2.2.2 = 0) ∧ (¬ (amt V ag nP h d).2.2.2.2 = 0 → tot V ag nP h d = V 26 d) := by
  obtain ⟨B1, B2, B3⟩ := amt_bd hi hh hd
  have t1 := i_add B1 B2 (by omega)
  have t2 := i_add (bd_add B1 B2 (by omega)) B3 (by omega)
  have et : (tot V ag nP h d).toInt = (amt V ag nP h d).1.toInt + (amt V ag nP h d).2.1.toInt + (amt V ag nP h d).2.2.1.toInt := by
    show (_ + _ + _ : Int32).toInt = _
    rw [t2, t1]
  obtain ⟨⟨hP8, _, _⟩, _, _, _, h5, h6, _⟩ := hi
  obtain ⟨g, s, i⟩ := cnt_bd (V := V) (ag := ag) (h := nI h) (d := d) (fun i hi => h5 (8 + i) (by omega) (by omega) d hd) nP hP8
  have r0 : bd (V (20 + 0) d) 99 := h6 0 (by decide) d hd
  have r1 : bd (V (20 + 1) d) 99 := h6 1 (by decide) d hd
  have r2 : bd (V (20 + 2) d) 99 := h6 2 (by decide) d hd
  have r3 : bd (V (20 + 3) d) 99 := h6 3 (by decide) d hd
  have r4 : bd (V (20 + 4) d) 999 := h6 4 (by decide) d hd
  have r5 : bd (V (20 + 5) d) 100 := h6 5 (by decide) d hd
  have r6 : bd (V (20 + 6) d) 999 := h6 6 (by decide) d hd
  have re : bd (V (16 + h) d) 999 := h5 (16 + h) (by omega) (by omega) d hd
  have g8 := g.mono (b := 8) (by omega)
  have s8 := s.mono (b := 8) (by omega)
  have i8 := i.mono (b := 7992) (by omega)
  have b1 := bd_mul g8 r0 (by omega)
  have b2 := bd_mul s8 r1 (by omega)
  have b3 := bd_add b2 r2 (by omega)
  have b4 := i_min (x := V (16 + h) d) (y := V (20 + 3) d)
  by_cases p : (cnt V ag (nI h) d nP).1 = 0
  · have ez : amt V ag nP h d = (0, 0, 0, 0, 0) := by unfold amt amtC; exact if_pos p
    have etz : tot V ag nP h d = 0 := by unfold tot; rw [ez]; rfl
    rw [ez] at et ⊢
    rw [etz]
    refine ⟨⟨Int.le_refl _, Int.le_refl _, Int.le_refl _, r6.1⟩, r3.1, b1.1, g8.1, fun _ => ⟨rfl, rfl⟩, fun q => absurd rfl q⟩
  · have bc : bd (if (cnt V ag (nI h) d nP).2.1 ≤ 0 then (cnt V ag (nI h) d nP).2.1 * V (20 + 1) d else (cnt V ag (nI h) d nP).2.1 * V (20 + 1) d + V (20 + 2) d) 1000 := by
      split
      · exact b2.mono (by omega)
      · exact b3.mono (by omega)
    have bo := i_sub i8.1 r4.1
    obtain ⟨x1, x2⟩ := id re
    obtain ⟨x3, x4⟩ := id r3
    obtain ⟨x5, x6⟩ := id i8
    obtain ⟨x7, x8⟩ := id r4
    have z := tap5_spec (b1.mono (by omega)) bc (show bd (imin (V (16 + h) d) (V (20 + 3) d)) 1000 from ⟨by omega, by omega⟩) (show ((cnt V ag (nI h) d nP).2.2 - V (20 + 4) d).toInt ≤ 10000 by omega) r5 r6
    have ez : amt V ag nP h d = tap5 ((cnt V ag (nI h) d nP).1 * V (20 + 0) d) (if (cnt V ag (nI h) d nP).2.1 ≤ 0 then (cnt V ag (nI h) d nP).2.1 * V (20 + 1) d else (cnt V ag (nI h) d nP).2.1 * V (20 + 1) d + V (20 + 2) d) (imin (V (16 + h) d) (V (20 + 3) d)) ((cnt V ag (nI h) d nP).2.2 - V (20 + 4) d) (V (20 + 5) d) (V (20 + 6) d) := by unfold amt amtC; exact if_neg p
    rw [← ez] at z
    obtain ⟨⟨z1, z2, z3, z4⟩, y1, y2, y3⟩ := z
    refine ⟨⟨z1, z2, z3, ?_⟩, ?_, y1, g8.1, fun q => absurd q p, fun q => ?_⟩
    · rw [et]; exact z4
    · show _ ≤ (V (20 + 3) d).toInt
      omega
    · refine (fa_eq _ _).mpr ?_
      rw [et]
      exact y3 q
/-! who lives in the household -/
def lvS (V : Nat → Nat → Int32) (nP h d : Nat) : Nat → Int32
  | 0 => 0
  | n + 1 => lvS V nP h d n + (if (if n < nP then V n d else -77) = nI h then 1 else 0)
theorem lvS_cnt {V : Nat → Nat → Int32} {ag : Nat → Int32} {nP h d : Nat} : ∀ n, n ≤ nP → lvS V nP h d n = (cnt V ag (nI h) d n).1 + (cnt V ag (nI h) d n).2.1
  | 0, _ => rfl
  | n + 1, hn => by
    rw [lvS, cnt, lvS_cnt (ag := ag) n (by omega), if_pos (show n < nP by omega)]
    by_cases hh : V n d = nI h
    · rw [if_pos hh, if_pos hh]
      by_cases hz : nI d < ag n
      · rw [if_pos hz, if_pos hz]
        show _ = (cnt V ag (nI h) d n).1 + 0 + ((cnt V ag (nI h) d n).2.1 + 1)
        rw [Int32.add_zero, Int32.add_assoc]
      · rw [if_neg hz, if_neg hz]
        show _ = (cnt V ag (nI h) d n).1 + 1 + ((cnt V ag (nI h) d n).2.1 + 0)
        rw [Int32.add_zero, Int32.add_assoc, Int32.add_assoc, Int32.add_comm 1]
    · rw [if_neg hh, if_neg hh, Int32.add_zero]
theorem lvS_out {V : Nat → Nat → Int32} {nP h d : Nat} (hh : h < 4) : ∀ k, lvS V nP h d (nP + k) = lvS V nP h d nP
  | 0 => rfl
  | k + 1 => by
    rw [show nP + (k + 1) = (nP + k) + 1 by omega, lvS, lvS_out hh k, if_neg (show ¬ nP + k < nP by omega), if_neg (fun q => ?_), Int32.add_zero]
    have := (fa_eq _ _).mp q
    rw [nI_toInt (by omega)] at this
    have e : (-77 : Int32).toInt = -77 := rfl
    omega
theorem lvS_8 {V : Nat → Nat → Int32} {ag : Nat → Int32} {nP h d : Nat} (hP : nP ≤ 8) (hh : h < 4) : lvS V nP h d 8 = (cnt V ag (nI h) d nP).1 + (cnt V ag (nI h) d nP).2.1 := by
  have := lvS_out (V := V) (nP := nP) (d := d) hh (8 - nP)
  rw [show nP + (8 - nP) = 8 by omega] at this
  rw [this]
  exact lvS_cnt nP (Nat.le_refl _)
/-! the next change -/
theorem nxt_spec {f : Nat → Int32 × Int32 × Int32} {z : Int32 × Int32 × Int32} : ∀ n d, (d ≤ nxt f z n d ∧ nxt f z n d ≤ d + n) ∧ (∀ x, d ≤ x → x < nxt f z n d → f x = z) ∧ (nxt f z n d < d + n → ¬ f (nxt f z n d) = z)
  | 0, d => ⟨⟨Nat.le_refl _, Nat.le_refl _⟩, fun x h1 h2 => absurd h2 (Nat.not_lt.mpr h1), fun h => absurd h (Nat.lt_irrefl _)⟩
  | n + 1, d => by
    rw [nxt]
    by_cases h : f d = z
    · rw [if_pos h]
      obtain ⟨⟨a, b⟩, c, e⟩ := nxt_spec (f := f) (z := z) n (d + 1)
      refine ⟨⟨by omega, by omega⟩, fun x h1 h2 => ?_, fun q => e (by omega)⟩
      rcases Nat.lt_or_eq_of_le h1 with y | y
      · exact c x y h2
      · rw [← y]; exact h
    · rw [if_neg h]
      exact ⟨⟨Nat.le_refl _, by omega⟩, fun x h1 h2 => absurd h2 (Nat.not_lt.mpr h1), fun _ => h⟩
theorem nxD_spec {V : Nat → Nat → Int32} {ag : Nat → Int32} {nP h d : Nat} (hd : d < 360) : nxD V ag nP h d ≤ 360 ∧ d < nxD V ag nP h d ∧ am3 V ag nP h (nxD V ag nP h d - 1) = am3 V ag nP h d ∧ (nxD V ag nP h d < 360 → ¬ am3 V ag nP h (nxD V ag nP h d) = am3 V ag nP h d) := by
  obtain ⟨⟨a, b⟩, c, e⟩ := nxt_spec (f := am3 V ag nP h) (z := am3 V ag nP h d) (359 - d) (d + 1)
  have e0 : nxD V ag nP h d = nxt (am3 V ag nP h) (am3 V ag nP h d) (359 - d) (d + 1) := rfl
  rw [← e0] at a b c e
  refine ⟨by omega, by omega, ?_, fun q => e (by omega)⟩
  rcases Nat.lt_or_eq_of_le a with y | y
  · exact c _ (by omega) (by omega)
  · rw [← y]; rfl
