/-! ===== p35: sums over months and households ===== -/
def sI (f : Nat → Int32) : Nat → Int
  | 0 => 0
  | n + 1 => sI f n + (f n).toInt
theorem sI_congr {f g : Nat → Int32} : ∀ n, (∀ j, j < n → f j = g j) → sI f n = sI g n
  | 0, _ => rfl
  | n + 1, h => by rw [sI, sI, sI_congr n (fun j hj => h j (by omega)), h n (by omega)]
theorem sI_upo {f : Nat → Int32} {k : Nat} {x : Int32} : ∀ n, n ≤ k → sI (upd f k x) n = sI f n := fun n h => sI_congr n (fun j hj => pk_un (by omega))
theorem sI_up {f : Nat → Int32} {k : Nat} {x : Int32} : ∀ n, k < n → sI (upd f k x) n = sI f n - (f k).toInt + x.toInt
  | 0, h => absurd h (Nat.not_lt_zero k)
  | n + 1, h => by
    rw [sI, sI]
    by_cases hk : k = n
    · subst hk
      rw [pk_us, sI_upo k (Nat.le_refl _)]
      omega
    · rw [sI_up n (by omega), pk_un (fun q => hk q.symm)]
      omega
theorem sI_z {f : Nat → Int32} (a : Nat) : ∀ k, (∀ j, a ≤ j → j < a + k → f j = 0) → sI f (a + k) = sI f a
  | 0, _ => rfl
  | k + 1, h => by
    rw [show a + (k + 1) = (a + k) + 1 by omega, sI, sI_z a k (fun j h1 h2 => h j h1 (by omega)), h (a + k) (by omega) (by omega), i32_0]
    omega
theorem sI_z12 {f : Nat → Int32} {a : Nat} (ha : a ≤ 12) (h : ∀ j, a ≤ j → j < 12 → f j = 0) : sI f 12 = sI f a := by
  have := sI_z (f := f) a (12 - a) (fun j h1 h2 => h j h1 (by omega))
  rw [show a + (12 - a) = 12 by omega] at this
  exact this
theorem exc_gap (f u : Nat → Int32) : ∀ n, exc f u n - gap f u n = sI f n - sI u n
  | 0 => rfl
  | n + 1 => by
    have := exc_gap f u n
    rw [exc, gap, sI, sI]
    split <;> omega
theorem sip1_sI {f u : Nat → Int32} {g : Nat → Int32} {n : Nat} (hg : ∀ j, g j = if j < n ∧ f j < u j then u j else f j) : ∀ m, m ≤ n → sI g m = sI f m + gap f u m ∧ exc g u m = exc f u m
  | 0, _ => ⟨rfl, rfl⟩
  | m + 1, h => by
    obtain ⟨a, b⟩ := sip1_sI hg m (by omega)
    rw [sI, sI, gap, exc, exc, a, b, hg m]
    by_cases p : f m < u m
    · have p2 := (fa_lt _ _).mp p
      rw [if_pos ⟨by omega, p⟩, if_pos p2, if_pos p2, if_neg (Int.lt_irrefl _)]
      exact ⟨by omega, by omega⟩
    · have p2 : ¬ (f m).toInt < (u m).toInt := fun q => p ((fa_lt _ _).mpr q)
      rw [if_neg (fun q => p q.2), if_neg p2, if_neg p2]
      exact ⟨by omega, rfl⟩
theorem sip2_sI {f u : Nat → Int32} {l : Int32} (hf : ∀ j, j < 12 → bd (f j) 100000000) (hu : ∀ j, j < 12 → bd (u j) 100000) (hl : 0 ≤ l.toInt) (N : Nat) (hN : N ≤ 12) (hfu : ∀ j, j < N → (u j).toInt ≤ (f j).toInt) : ∀ n, n ≤ N → (sip2 f u l n).1.toInt = max 0 (l.toInt - exc f u n) ∧ (∀ m, n ≤ m → sI (sip2 f u l n).2 m = sI f m - (l.toInt - (sip2 f u l n).1.toInt)) ∧ ∀ j, n ≤ j → (sip2 f u l n).2 j = f j
  | 0, _ => ⟨by show l.toInt = max 0 (l.toInt - 0); omega, fun m _ => by show sI f m = sI f m - (l.toInt - l.toInt); omega, fun _ _ => rfl⟩
  | n + 1, hn => by
    obtain ⟨a, b, c⟩ := sip2_sI hf hu hl N hN hfu n (by omega)
    have en := c n (Nat.le_refl _)
    obtain ⟨f1, f2⟩ := hf n (by omega)
    obtain ⟨u1, u2⟩ := hu n (by omega)
    have hq := hfu n (by omega)
    have e1 := i_sub f1 u1
    have e2 := i_min (x := (sip2 f u l n).1) (y := f n - u n)
    have h0 : 0 ≤ (sip2 f u l n).1.toInt := by omega
    have e3 := i_sub (x := (sip2 f u l n).1) (y := imin (sip2 f u l n).1 (f n - u n)) h0 (by omega)
    have e4 := i_sub (x := f n) (y := imin (sip2 f u l n).1 (f n - u n)) f1 (by omega)
    have ex : exc f u (n + 1) = exc f u n + ((f n).toInt - (u n).toInt) := by rw [exc, if_neg (by omega)]
    rw [sip2, en]
    refine ⟨?_, fun m hm => ?_, fun j hj => ?_⟩
    · show ((sip2 f u l n).1 - imin (sip2 f u l n).1 (f n - u n)).toInt = _
      rw [ex]
      omega
    · show sI (upd (sip2 f u l n).2 n (f n - imin (sip2 f u l n).1 (f n - u n))) m = sI f m - (l.toInt - ((sip2 f u l n).1 - imin (sip2 f u l n).1 (f n - u n)).toInt)
      rw [sI_up m (by omega), en, b m (by omega)]
      omega
    · show upd _ n _ j = f j
      rw [pk_un (by omega)]
      exact c j (by omega)
/-- a run for a household: what is paid, and what was paid for the months behind it -/
theorem pay_one {f u : Nat → Int32} (hf : ∀ j, j < 12 → bd (f j) 100000000) (hu : ∀ j, j < 12 → bd (u j) 100000) {mo : Nat} (hm : mo < 12) (hz : ∀ j, mo ≤ j → j < 12 → f j = 0) :
    bd (payP u f mo) 2000000 ∧ sI (payD u f mo) 12 = sI f 12 + (payP u f mo).toInt ∧ payD u f mo mo = u mo ∧ (∀ j, mo + 1 ≤ j → j < 12 → payD u f mo j = 0) ∧ (dsum f u mo ≤ 0 → ∀ j, j < mo + 1 → payD u f mo j = u j) := by
  have hd := dsum_int hf hu mo (by omega)
  have heg := exc_gap f u mo
  obtain ⟨⟨g1, g2⟩, g3, g4⟩ := gap_bd hf hu mo (by omega)
  obtain ⟨u1, u2⟩ := hu mo hm
  have hf12 : sI f 12 = sI f mo := sI_z12 (by omega) hz
  by_cases p : dsum f u mo ≤ 0
  · have p2 := (fa_le _ _).mp p
    rw [i32_0] at p2
    have eP : payP u f mo = u mo - dsum f u mo := if_pos p
    have eD : payD u f mo = sett f u (mo + 1) := if_pos p
    have es : (u mo - dsum f u mo).toInt = (u mo).toInt - (dsum f u mo).toInt := fb_subI (by omega) (by omega)
    have hs : ∀ j, j < mo + 1 → sett f u (mo + 1) j = u j := fun j hj => if_pos hj
    have hs2 : ∀ j, mo + 1 ≤ j → j < 12 → sett f u (mo + 1) j = 0 := fun j hj h12 => (if_neg (by omega)).trans (hz j (by omega) h12)
    rw [eP, eD]
    refine ⟨⟨by omega, by omega⟩, ?_, hs mo (by omega), hs2, fun _ => hs⟩
    rw [sI_z12 (by omega) hs2, sI_congr (mo + 1) hs, sI, es, hf12]
    omega
  · have p2 : 0 < (dsum f u mo).toInt := by
      rcases Int.lt_or_le 0 (dsum f u mo).toInt with q | q
      · exact q
      · exact absurd ((fa_le _ _).mpr (by rw [i32_0]; exact q)) p
    have eP : payP u f mo = u mo - imin (dsum f u mo) (u mo / 5) := if_neg p
    have eD : payD u f mo = sipF f u mo (imin (dsum f u mo) (u mo / 5)) := if_neg p
    have hk := kept_bd hu hm p
    have ek := i_min (x := dsum f u mo) (y := u mo / 5)
    have e5 : (u mo / 5).toInt = (u mo).toInt / 5 := i_div (hu mo hm) (by decide)
    obtain ⟨k1, k2⟩ := id hk
    have es := i_sub (x := u mo) (y := imin (dsum f u mo) (u mo / 5)) u1 k1
    rw [eP, eD]
    generalize hkk : imin (dsum f u mo) (u mo / 5) = kk at *
    obtain ⟨s1, s2⟩ := sip1_le hf hu hk (mo := mo) (by omega)
    obtain ⟨l1, l2⟩ := sip1_spec hf hu hk mo (by omega)
    obtain ⟨q1, q2⟩ := sip1_sI l2 mo (Nat.le_refl _)
    obtain ⟨z1, z2, z3⟩ := sip2_sI (f := (sip1 f u kk mo).2) (u := u) (l := (sip1 f u kk mo).1) s1 hu (by omega) mo (by omega) s2 mo (Nat.le_refl _)
    have hsF : ∀ j, mo + 1 ≤ j → j < 12 → sipF f u mo kk j = 0 := fun j hj h12 => by
      unfold sipF
      rw [pk_un (by omega), z3 j (by omega), l2 j, if_neg (by omega)]
      exact hz j (by omega) h12
    refine ⟨⟨by omega, by omega⟩, ?_, pk_us, hsF, fun q => absurd q p⟩
    rw [sI_z12 (by omega) hsF, sI]
    have e1 : sipF f u mo kk mo = u mo := pk_us
    have e2 : sI (sipF f u mo kk) mo = sI (sip2 (sip1 f u kk mo).2 u (sip1 f u kk mo).1 mo).2 mo := sI_upo mo (Nat.le_refl _)
    rw [e1, e2, z2 mo (Nat.le_refl _), es, hf12, q1]
    rw [q2] at z1
    omega
theorem bal_int {f u : Nat → Int32} (hf : ∀ j, j < 12 → bd (f j) 100000000) (hu : ∀ j, j < 12 → bd (u j) 100000) : ∀ n : Nat, n ≤ 12 → (bal u f n).toInt = gap f u n - exc f u n
  | 0, _ => rfl
  | n + 1, hn => by
    have ih := bal_int hf hu n (by omega)
    obtain ⟨⟨a1, a2⟩, ⟨a3, a4⟩⟩ := gap_bd hf hu n (by omega)
    obtain ⟨f1, f2⟩ := hf n (by omega)
    obtain ⟨u1, u2⟩ := hu n (by omega)
    have es := i_sub u1 f1
    rw [bal, fb_addI (by omega) (by omega), es, ih, gap, exc]
    split <;> omega
/-- the household is owed nothing less than it got: the run settles it -/
theorem free_iff {f u : Nat → Int32} (hf : ∀ j, j < 12 → bd (f j) 100000000) (hu : ∀ j, j < 12 → bd (u j) 100000) {n : Nat} (hn : n ≤ 12) : ¬ bal u f n < 0 ↔ dsum f u n ≤ 0 := by
  have a := bal_int hf hu n hn
  have b := dsum_int hf hu n hn
  rw [fa_lt, fa_le, i32_0]
  omega
theorem stl_all {u f : Nat → Int32} : ∀ n, (∀ j, j < n → f j = u j) → stl u f n = 1
  | 0, _ => rfl
  | n + 1, h => by rw [stl, stl_all n (fun j hj => h j (by omega)), if_neg (by decide), if_pos (h n (by omega)).symm]
theorem stl_bal {u f : Nat → Int32} : ∀ n, ¬ stl u f n = 0 → bal u f n = 0
  | 0, _ => rfl
  | n + 1, h => by
    rw [stl] at h
    by_cases h0 : stl u f n = 0
    · rw [if_pos h0] at h; exact absurd rfl h
    · rw [if_neg h0] at h
      by_cases h1 : u n = f n
      · rw [bal, stl_bal n h0, h1, Int32.sub_self, Int32.add_zero]
      · rw [if_neg h1] at h; exact absurd rfl h
/-! what was handed out -/
def hL (f : Nat → Int32) : Nat → Int64
  | 0 => 0
  | n + 1 => hL f n + (f n).toInt64
def aL (py : Nat → Nat → Int32) (r : Nat) : Nat → Int64
  | 0 => 0
  | n + 1 => aL py r n + hL (py n) r
def sS (py : Nat → Nat → Int32) (r : Nat) : Nat → Int
  | 0 => 0
  | n + 1 => sS py r n + sI (py n) r
theorem sI_rng (f : Nat → Int32) : ∀ n : Nat, -2147483648 * (n : Int) ≤ sI f n ∧ sI f n ≤ 2147483648 * (n : Int)
  | 0 => ⟨by show _ ≤ (0 : Int); omega, by show (0 : Int) ≤ _; omega⟩
  | n + 1 => by
    have a := sI_rng f n
    have b := fb_rng (f n)
    rw [sI]
    omega
theorem sS_rng (py : Nat → Nat → Int32) {r : Nat} (hr : r ≤ 12) : ∀ n : Nat, -25769803776 * (n : Int) ≤ sS py r n ∧ sS py r n ≤ 25769803776 * (n : Int)
  | 0 => ⟨by show _ ≤ (0 : Int); omega, by show (0 : Int) ≤ _; omega⟩
  | n + 1 => by
    have a := sS_rng py hr n
    have b := sI_rng (py n) r
    rw [sS]
    omega
theorem l_add {x y : Int64} (h1 : -9223372036854775808 ≤ x.toInt + y.toInt) (h2 : x.toInt + y.toInt < 9223372036854775808) : (x + y).toInt = x.toInt + y.toInt := by
  rw [Int64.toInt_add, Int.bmod_eq_of_le (by omega) (by omega)]
theorem l_of (x : Int32) : x.toInt64.toInt = x.toInt := Int32.toInt_toInt64 x
theorem hL_int (f : Nat → Int32) : ∀ n, n ≤ 12 → (hL f n).toInt = sI f n
  | 0, _ => rfl
  | n + 1, h => by
    have a := sI_rng f n
    have b := fb_rng (f n)
    have ih := hL_int f n (by omega)
    have e := l_of (f n)
    rw [hL, l_add (by omega) (by omega), ih, e, sI]
theorem aL_int (py : Nat → Nat → Int32) {r : Nat} (hr : r ≤ 12) : ∀ n, n ≤ 4 → (aL py r n).toInt = sS py r n
  | 0, _ => rfl
  | n + 1, h => by
    have a := sS_rng py hr n
    have b := sI_rng (py n) r
    have ih := aL_int py hr n (by omega)
    have e := hL_int (py n) r hr
    rw [aL, l_add (by omega) (by omega), ih, e, sS]
theorem hL_eq {f g : Nat → Int32} {n m : Nat} (hn : n ≤ 12) (hm : m ≤ 12) (h : sI f n = sI g m) : hL f n = hL g m := Int64.toInt_inj.mp (by rw [hL_int f n hn, hL_int g m hm, h])
/-! the invariant of runs -/
def J35 (nH rN : Nat) (pn : Int32) (sp : Int64) (py pd : Nat → Nat → Int32) : Prop :=
  (∀ h, h < nH → sI (pd h) 12 = sI (py h) rN ∧ (∀ m, rN ≤ m → m < 12 → pd h m = 0) ∧ ∀ m, m < rN → 0 ≤ (py h m).toInt) ∧ sp.toInt = sS py rN nH ∧ pn = nI (nH * rN)
theorem J35.sp {nH rN : Nat} {pn : Int32} {sp : Int64} {py pd : Nat → Nat → Int32} (h : J35 nH rN pn sp py pd) (hn : nH ≤ 4) (hr : rN ≤ 12) : aL py rN nH = sp := Int64.toInt_inj.mp (by rw [aL_int py hr nH hn, h.2.1])
theorem runS_at {U : Nat → Nat → Int32} {mo : Nat} {py pd : Nat → Nat → Int32} {sk : Int64} : ∀ {n k : Nat}, k < n → (runS U mo py pd sk n).2.1 k = upd (py k) mo (payP (U k) (pd k) mo) ∧ (runS U mo py pd sk n).2.2.1 k = payD (U k) (pd k) mo
  | 0, _, h => absurd h (Nat.not_lt_zero _)
  | n + 1, k, h => by
    rw [runS]
    show upd2 _ n _ k = _ ∧ upd2 _ n _ k = _
    by_cases hk : k = n
    · subst hk
      rw [upd2_s, upd2_s]
      exact ⟨rfl, rfl⟩
    · rw [upd2_n _ _ hk, upd2_n _ _ hk]
      exact runS_at (by omega)
/-- the sum that a run answers, household by household -/
def hSm (py : Nat → Nat → Int32) (mo : Nat) : Nat → Int32
  | 0 => 0
  | n + 1 => hSm py mo n + py n mo
theorem runS_hSm {U : Nat → Nat → Int32} {mo : Nat} {py pd py' : Nat → Nat → Int32} {sk : Int64} : ∀ n, (∀ k, k < n → py' k mo = payP (U k) (pd k) mo) → (runS U mo py pd sk n).1 = hSm py' mo n
  | 0, _ => rfl
  | n + 1, h => by
    rw [runS, hSm, h n (by omega), ← runS_hSm (U := U) (py := py) (pd := pd) (sk := sk) n (fun k hk => h k (by omega))]
theorem hSm_int {py : Nat → Nat → Int32} {mo : Nat} : ∀ n : Nat, n ≤ 4 → (∀ k, k < n → bd (py k mo) 2000000) → (hSm py mo n).toInt = (fun k => (py k mo).toInt) 0 * 0 + (hSm py mo n).toInt ∧ 0 ≤ (hSm py mo n).toInt ∧ (hSm py mo n).toInt ≤ 2000000 * (n : Int)
  | 0, _, _ => ⟨by show (0 : Int) = _ * 0 + 0; omega, Int.le_refl _, by show (0 : Int) ≤ _; omega⟩
  | n + 1, hn, h => by
    obtain ⟨-, a, b⟩ := hSm_int n (by omega) (fun k hk => h k (by omega))
    obtain ⟨c, d⟩ := h n (by omega)
    have e : (hSm py mo n + py n mo).toInt = (hSm py mo n).toInt + (py n mo).toInt := fb_addI (by omega) (by omega)
    rw [hSm, e]
    refine ⟨by omega, by omega, by omega⟩
theorem sS_pay {py py' : Nat → Nat → Int32} {mo : Nat} (hm : mo < 12) : ∀ n : Nat, n ≤ 4 → (∀ k, k < n → bd (py' k mo) 2000000 ∧ sI (py' k) (mo + 1) = sI (py k) mo + (py' k mo).toInt) → sS py' (mo + 1) n = sS py mo n + (hSm py' mo n).toInt
  | 0, _, _ => rfl
  | n + 1, hn, h => by
    have ih := sS_pay hm n (by omega) (fun k hk => h k (by omega))
    obtain ⟨-, a, b⟩ := hSm_int (py := py') (mo := mo) n (by omega) (fun k hk => (h k (by omega)).1)
    obtain ⟨⟨c, d⟩, f⟩ := h n (by omega)
    have e : (hSm py' mo n + py' n mo).toInt = (hSm py' mo n).toInt + (py' n mo).toInt := fb_addI (by omega) (by omega)
    rw [sS, sS, hSm, e, ih, f]
    omega
/-- what a run keeps back of a household -/
def kpt (u f : Nat → Int32) (mo : Nat) : Int32 := if dsum f u mo ≤ 0 then 0 else imin (dsum f u mo) (u mo / 5)
def kS (U pd : Nat → Nat → Int32) (mo : Nat) : Nat → Int64
  | 0 => 0
  | n + 1 => kS U pd mo n + (kpt (U n) (pd n) mo).toInt64
theorem payK_kpt {u f : Nat → Int32} {mo : Nat} {sk : Int64} : payK u f mo sk = sk + (kpt u f mo).toInt64 := by
  unfold payK kpt
  by_cases p : dsum f u mo ≤ 0
  · rw [if_pos p, if_pos p]
    exact (Int64.add_zero sk).symm
  · rw [if_neg p, if_neg p]
theorem runS_kS {U : Nat → Nat → Int32} {mo : Nat} {py pd : Nat → Nat → Int32} {sk : Int64} : ∀ n, (runS U mo py pd sk n).2.2.2 = sk + kS U pd mo n
  | 0 => (Int64.add_zero sk).symm
  | n + 1 => by
    rw [runS, kS]
    show payK _ _ _ (runS U mo py pd sk n).2.2.2 = _
    rw [payK_kpt, runS_kS n, Int64.add_assoc]
/-- the bits of the households without debts -/
def fbit (x : Int32) (h : Nat) : Prop := ((x >>> (nI h &&& 31)) &&& 1) = 1
noncomputable def mS (U : Nat → Nat → Int32) (x : Int32) (mo : Nat) : Nat → Int32
  | 0 => 0
  | n + 1 => mS U x mo n + cif (fbit x n) 0 (U n mo / 5)
theorem k_le_m {U pd : Nat → Nat → Int32} {x : Int32} {mo : Nat} (hm : mo < 12) : ∀ n : Nat, n ≤ 4 → (∀ h, h < n → (∀ j, j < 12 → bd (pd h j) 100000000) ∧ (∀ j, j < 12 → bd (U h j) 100000) ∧ (fbit x h → dsum (pd h) (U h) mo ≤ 0)) → 0 ≤ (kS U pd mo n).toInt ∧ (kS U pd mo n).toInt ≤ (mS U x mo n).toInt ∧ (mS U x mo n).toInt ≤ 100000 * (n : Int)
  | 0, _, _ => ⟨Int.le_refl _, Int.le_refl _, by show (0 : Int) ≤ _; omega⟩
  | n + 1, hn, h => by
    obtain ⟨a, b, c⟩ := k_le_m (U := U) (pd := pd) (x := x) hm n (by omega) (fun k hk => h k (by omega))
    obtain ⟨hf, hu, hb⟩ := h n (by omega)
    obtain ⟨u1, u2⟩ := hu mo hm
    have e5 : (U n mo / 5).toInt = (U n mo).toInt / 5 := i_div (hu mo hm) (by decide)
    have hk : 0 ≤ (kpt (U n) (pd n) mo).toInt ∧ (kpt (U n) (pd n) mo).toInt ≤ (cif (fbit x n) 0 (U n mo / 5)).toInt ∧ (cif (fbit x n) 0 (U n mo / 5)).toInt ≤ 100000 := by
      unfold kpt
      by_cases p : dsum (pd n) (U n) mo ≤ 0
      · rw [if_pos p, i32_0]
        by_cases q : fbit x n
        · rw [cif_t q, i32_0]; omega
        · rw [cif_f q]; omega
      · rw [if_neg p, cif_f (fun q => p (hb q))]
        have ek := i_min (x := dsum (pd n) (U n) mo) (y := U n mo / 5)
        have hk := kept_bd hu hm p
        obtain ⟨k1, k2⟩ := hk
        omega
    have e1 : (kS U pd mo n + (kpt (U n) (pd n) mo).toInt64).toInt = (kS U pd mo n).toInt + (kpt (U n) (pd n) mo).toInt := by
      rw [l_add (by rw [l_of]; omega) (by rw [l_of]; omega), l_of]
    have e2 : (mS U x mo n + cif (fbit x n) 0 (U n mo / 5)).toInt = (mS U x mo n).toInt + (cif (fbit x n) 0 (U n mo / 5)).toInt := fb_addI (by omega) (by omega)
    rw [kS, mS, e1, e2]
    refine ⟨by omega, by omega, by omega⟩
