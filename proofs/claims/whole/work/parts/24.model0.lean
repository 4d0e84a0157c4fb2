/-! ===== the model's rows as the class's timelines ===== -/
def offR (j : Nat) : Nat := if j = 0 then 0 else if j = 1 then 8 else if j = 2 then 16 else 20
def RV (V : Nat → Nat → Int32) : Nat → Nat → Int32 := fun j k => if j < 4 ∧ k < nR j then V (offR j + k / 360) (k % 360) else 0
def FL (f : Nat → Nat → Int32) : Nat → Int32 := fun k => if k < 48 then f (k / 12) (k % 12) else 0
theorem nR_lt (j : Nat) : nR j < 2 ^ 31 := by
  unfold nR
  split
  · omega
  · split <;> omega
theorem nR_le (j : Nat) : nR j ≤ 2880 := by
  unfold nR
  split
  · omega
  · split <;> omega
theorem off_ne {j k i n : Nat} (hj : j < 4) (hk : k < 4) (hne : k ≠ j) (hi : 360 * i + 360 ≤ nR j) (hn : 360 * n < nR k) : offR k + n ≠ offR j + i := by
  have a : j = 0 ∨ j = 1 ∨ j = 2 ∨ j = 3 := by omega
  have b : k = 0 ∨ k = 1 ∨ k = 2 ∨ k = 3 := by omega
  rcases a with rfl | rfl | rfl | rfl <;> rcases b with rfl | rfl | rfl | rfl <;> simp [offR, nR] at * <;> omega
theorem upd2_uu (V : Nat → Nat → Int32) (t : Nat) (f g : Nat → Int32) : upd2 (upd2 V t f) t g = upd2 V t g := by
  funext u
  unfold upd2
  split <;> rfl
theorem upd2_id (V : Nat → Nat → Int32) (t : Nat) : upd2 V t (V t) = V := by
  funext u
  unfold upd2
  split
  · next h => rw [h]
  · rfl
theorem RV_at {V : Nat → Nat → Int32} {j i d t : Nat} (hj : j < 4) (hi : 360 * i + 360 ≤ nR j) (hd : d < 360) (ht : offR j + i = t) : RV V j (360 * i + d) = V t d := by
  unfold RV
  rw [if_pos ⟨hj, by omega⟩, show (360 * i + d) / 360 = i by omega, show (360 * i + d) % 360 = d by omega, ht]
theorem RV_up {V : Nat → Nat → Int32} {j i d t : Nat} {v : Int32} (hj : j < 4) (hi : 360 * i + 360 ≤ nR j) (hd : d < 360) (ht : offR j + i = t) : upd2 (RV V) j (upd (RV V j) (360 * i + d) v) = RV (upd2 V t (upd (V t) d v)) := by
  funext k n
  by_cases hk : k = j
  · subst hk
    rw [upd2_s]
    by_cases hn : n = 360 * i + d
    · subst hn
      rw [pk_us, RV_at hj hi hd ht, upd2_s, pk_us]
    · rw [pk_un hn]
      unfold RV
      by_cases hc : k < 4 ∧ n < nR k
      · rw [if_pos hc, if_pos hc]
        by_cases h2 : offR k + n / 360 = t
        · rw [h2, upd2_s, pk_un (by omega)]
        · rw [upd2_n _ _ h2]
      · rw [if_neg hc, if_neg hc]
  · rw [upd2_n _ _ hk]
    unfold RV
    by_cases hc : k < 4 ∧ n < nR k
    · rw [if_pos hc, if_pos hc, upd2_n _ _ (by rw [← ht]; exact off_ne hj hc.1 hk hi (by omega))]
    · rw [if_neg hc, if_neg hc]
theorem RV_up2 {V : Nat → Nat → Int32} {f : Nat → Int32} {j i d t : Nat} {v : Int32} (hj : j < 4) (hi : 360 * i + 360 ≤ nR j) (hd : d < 360) (ht : offR j + i = t) : upd2 (RV (upd2 V t f)) j (upd (RV (upd2 V t f) j) (360 * i + d) v) = RV (upd2 V t (upd f d v)) := by
  rw [RV_up hj hi hd ht, upd2_s, upd2_uu]
theorem FL_at {f : Nat → Nat → Int32} {h m : Nat} (hh : h < 4) (hm : m < 12) : FL f (12 * h + m) = f h m := by
  unfold FL
  rw [if_pos (by omega), show (12 * h + m) / 12 = h by omega, show (12 * h + m) % 12 = m by omega]
theorem FL_up {f : Nat → Nat → Int32} {h m : Nat} {v : Int32} (hh : h < 4) (hm : m < 12) : upd (FL f) (12 * h + m) v = FL (upd2 f h (upd (f h) m v)) := by
  funext n
  by_cases hn : n = 12 * h + m
  · subst hn
    rw [pk_us, FL_at hh hm, upd2_s, pk_us]
  · rw [pk_un hn]
    unfold FL
    by_cases hc : n < 48
    · rw [if_pos hc, if_pos hc]
      by_cases h2 : n / 12 = h
      · rw [h2, upd2_s, pk_un (by omega)]
      · rw [upd2_n _ _ h2]
    · rw [if_neg hc, if_neg hc]
theorem FL_up2 {f : Nat → Nat → Int32} {g : Nat → Int32} {h m : Nat} {v : Int32} (hh : h < 4) (hm : m < 12) : upd (FL (upd2 f h g)) (12 * h + m) v = FL (upd2 f h (upd g m v)) := by
  rw [FL_up hh hm, upd2_s, upd2_uu]
/-! what the model's small methods answer -/
def kIn (v lo hi : Int32) : Int32 := if v < lo then 0 else if hi < v then 0 else 1
noncomputable def kPl (c : Int32) : Int32 := cif (rIx c < 7) (nI (rIx c)) (-1)
theorem kIn_01 (v lo hi : Int32) : kIn v lo hi = 0 ∨ kIn v lo hi = 1 := by
  unfold kIn
  split
  · exact Or.inl rfl
  · split
    · exact Or.inl rfl
    · exact Or.inr rfl
theorem kIn_t {v lo hi : Int32} (h : ¬ kIn v lo hi = 0) : ¬ v < lo ∧ ¬ hi < v := by
  unfold kIn at h
  refine ⟨fun q => h (if_pos q), fun q => ?_⟩
  by_cases p : v < lo
  · exact h (if_pos p)
  · rw [if_neg p, if_pos q] at h; exact h rfl
theorem kIn_f {v lo hi : Int32} (h : kIn v lo hi = 0) : ¬ (¬ v < lo ∧ ¬ hi < v) := fun q => by
  unfold kIn at h
  rw [if_neg q.1, if_neg q.2] at h
  exact absurd h (by decide)
theorem nI_prd {n : Nat} (hn : n < 2 ^ 31) : (nI n - 1).toInt = (n : Int) - 1 := by
  have h1 : (1 : Int32).toInt = 1 := rfl
  rw [fb_subI (by rw [nI_toInt hn, h1]; omega) (by rw [nI_toInt hn, h1]; omega), nI_toInt hn, h1]
theorem vp_sub {x : Int32} {n : Nat} (hn : n < 2 ^ 31) : (¬ x < 0 ∧ ¬ nI n - 1 < x) ↔ vp_in x n := by
  rw [vp_in_iff, fa_lt, fa_lt, nI_prd hn, i32_0]
  omega
theorem vp_top {x : Int32} {n : Nat} (hn : n + 1 < 2 ^ 31) : (¬ x < 0 ∧ ¬ nI n < x) ↔ vp_in x (n + 1) := by
  rw [← vp_sub hn, nI_m1]
theorem kIn_sub {x : Int32} {n : Nat} (hn : n < 2 ^ 31) : kIn x 0 (nI n - 1) = cif (vp_in x n) 1 0 := by
  by_cases h : vp_in x n
  · rw [cif_t h]
    have := (vp_sub hn).mpr h
    unfold kIn
    rw [if_neg this.1, if_neg this.2]
  · rw [cif_f h]
    rcases kIn_01 x 0 (nI n - 1) with q | q
    · exact q
    · exact absurd ((vp_sub hn).mp (kIn_t (by rw [q]; decide))) h
theorem kIn_top {x : Int32} {n : Nat} (hn : n + 1 < 2 ^ 31) : kIn x 0 (nI n) = cif (vp_in x (n + 1)) 1 0 := by
  rw [← kIn_sub hn, nI_m1]
theorem c10_t {P : Prop} (h : ¬ cif P (1 : Int32) 0 = 0) : P := Classical.byContradiction (fun q => h (cif_f q))
theorem c10_f {P : Prop} (h : cif P (1 : Int32) 0 = 0) : ¬ P := fun q => absurd ((cif_t q).symm.trans h) (by decide)
theorem c10_01 {P : Prop} : cif P (1 : Int32) 0 = 0 ∨ cif P (1 : Int32) 0 = 1 := by
  by_cases h : P
  · exact Or.inr (cif_t h)
  · exact Or.inl (cif_f h)
theorem kPl_t {c : Int32} (h : rIx c < 7) : kPl c = nI (rIx c) := cif_t h
theorem kPl_no {c : Int32} (h : kPl c = -1) : ¬ rIx c < 7 := fun q => by
  rw [kPl_t q, fa_eq, nI_toInt (by omega)] at h
  have : (-1 : Int32).toInt = -1 := rfl
  omega
theorem kPl_yes {c : Int32} (h : ¬ kPl c = -1) : rIx c < 7 := Classical.byContradiction (fun q => h (cif_f q))
theorem ims {x y : Int32} : (if x < y then x else y) = imin y x := by
  unfold imin
  rfl
theorem imin_c (x y : Int32) : imin x y = imin y x := by
  rw [fa_eq, i_min, i_min]
  omega
/-- the state of a model -/
def MW (cI cZ : ClassId) (ad : Nat → Nat) (th : Int32) (V T : Nat → Nat → Int32) (ag : Nat → Int32) (nP nH rN : Nat) (nf pn : Int32) (sp sk : Int64) (py pd : Nat → Nat → Int32) (E1 : Nat → va_E) : Prop := ∃ (du : Nat → Int32) (mA mC mH mG mS mI mT mP : Int32), E1 = mE cI cZ ad th nP nH rN nf pn sp sk ag (RV V) (RV T) (FL pd) (FL py) du mA mC mH mG mS mI mT mP
