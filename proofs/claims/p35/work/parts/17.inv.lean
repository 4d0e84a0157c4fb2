/-! ===== what always holds of an office ===== -/
def cT (T : Nat → Nat → Int32) (d : Nat) : Nat → Nat
  | 0 => 0
  | t + 1 => cT T d t + (if T t d = 0 then 0 else 1)
def cG (ag : Nat → Int32) (d : Nat) : Nat → Nat
  | 0 => 0
  | i + 1 => cG ag d i + (if ag i = nI d then 1 else 0)
def rgV (V : Nat → Nat → Int32) (t : Nat) (n : Int) : Prop := ∀ d, d < 360 → 0 ≤ (V t d).toInt ∧ (V t d).toInt ≤ n
def Inv (V T : Nat → Nat → Int32) (ag : Nat → Int32) (nP nH rN : Nat) (so : Nat → Int32) (pd : Nat → Nat → Int32) : Prop :=
  (nP ≤ 8 ∧ nH ≤ 4 ∧ rN ≤ 12) ∧ (∀ t, t < 27 → ∀ d, d < 360 → T t d = 0 ∨ T t d = 1) ∧ (∀ t, t < 27 → ∀ d, d + 1 < 360 → T t (d + 1) = 0 → V t (d + 1) = V t d) ∧ (∀ d, d < 360 → so d = nI (cT T d 27 + cG ag d nP)) ∧
  (∀ t, 8 ≤ t → t < 20 → rgV V t 999) ∧ (∀ r, r < 7 → rgV V (20 + r) (ruGr r).toInt) ∧ (∀ h, h < 4 → ∀ m, m < 12 → 0 ≤ (pd h m).toInt ∧ (pd h m).toInt ≤ 100000000)
/-! the loop of hold, place by place -/
theorem hF_lo {g : Nat → Int32} {v : Int32} : ∀ (n s : Nat) (f : Nat → Int32) (x : Nat), x < s → hF g v n s f x = f x
  | 0, _, _, _, _ => rfl
  | n + 1, s, f, x, h => by
    rw [hF]
    by_cases h0 : g s = 0
    · rw [if_pos h0, hF_lo n (s + 1) _ x (by omega)]
      exact pk_un (by omega)
    · rw [if_neg h0]
theorem hF_in {g : Nat → Int32} {v : Int32} : ∀ (n s : Nat) (f : Nat → Int32) (x : Nat), s ≤ x → x < s + n → (∀ y, s ≤ y → y ≤ x → g y = 0) → hF g v n s f x = v
  | 0, s, _, x, h1, h2, _ => by omega
  | n + 1, s, f, x, h1, h2, h3 => by
    rw [hF, if_pos (h3 s (Nat.le_refl _) h1)]
    rcases Nat.lt_or_ge s x with q | q
    · exact hF_in n (s + 1) _ x q (by omega) (fun y h4 h5 => h3 y (by omega) h5)
    · have e : x = s := by omega
      subst e
      rw [hF_lo n (x + 1) _ x (by omega)]
      exact pk_us
theorem hF_out {g : Nat → Int32} {v : Int32} : ∀ (n s : Nat) (f : Nat → Int32) (x y : Nat), s ≤ y → y ≤ x → ¬ g y = 0 → hF g v n s f x = f x
  | 0, _, _, _, _, _, _, _ => rfl
  | n + 1, s, f, x, y, h1, h2, h3 => by
    rw [hF]
    by_cases h0 : g s = 0
    · rw [if_pos h0]
      have hs : s ≠ y := fun q => h3 (by rw [← q]; exact h0)
      rw [hF_out n (s + 1) _ x y (by omega) h2 h3]
      exact pk_un (by omega)
    · rw [if_neg h0]
theorem hF_or {g : Nat → Int32} {v : Int32} : ∀ (n s : Nat) (f : Nat → Int32) (x : Nat), hF g v n s f x = f x ∨ hF g v n s f x = v
  | 0, _, _, _ => Or.inl rfl
  | n + 1, s, f, x => by
    rw [hF]
    by_cases h0 : g s = 0
    · rw [if_pos h0]
      rcases hF_or n (s + 1) (upd f s v) x with q | q
      · rw [q]
        by_cases hx : x = s
        · subst hx; exact Or.inr pk_us
        · exact Or.inl (pk_un hx)
      · exact Or.inr q
    · rw [if_neg h0]; exact Or.inl rfl
theorem hold_or {f g : Nat → Int32} {d : Nat} {v : Int32} (x : Nat) : hold f g d v x = f x ∨ hold f g d v x = v := by
  unfold hold
  rcases hF_or (g := g) (v := v) (359 - d) (d + 1) (upd f d v) x with q | q
  · rw [q]
    by_cases hx : x = d
    · subst hx; exact Or.inr pk_us
    · exact Or.inl (pk_un hx)
  · exact Or.inr q
theorem hold_lo {f g : Nat → Int32} {d : Nat} {v : Int32} {x : Nat} (h : x < d) : hold f g d v x = f x := by
  unfold hold
  rw [hF_lo _ _ _ _ (by omega)]
  exact pk_un (by omega)
theorem hold_at {f g : Nat → Int32} {d : Nat} {v : Int32} : hold f g d v d = v := by
  unfold hold
  rw [hF_lo _ _ _ _ (by omega)]
  exact pk_us
/-- behind a change from day d on, a day that isn't told still is as the day before -/
theorem hold_con {f g g0 : Nat → Int32} {d : Nat} {v : Int32} (hd : d < 360) (hf : ∀ e, e + 1 < 360 → g0 (e + 1) = 0 → f (e + 1) = f e) (hg : ∀ x, x ≠ d → g x = g0 x) (h0 : ∀ e, e + 1 = d → g d = 0 → v = f e) : ∀ e, e + 1 < 360 → g (e + 1) = 0 → hold f g d v (e + 1) = hold f g d v e := by
  intro e he h1
  rcases Nat.lt_trichotomy (e + 1) d with q | q | q
  · rw [hold_lo q, hold_lo (by omega), hf e he (by rw [← hg _ (by omega)]; exact h1)]
  · subst q
    rw [hold_at, hold_lo (by omega)]
    exact h0 e rfl h1
  · by_cases hall : ∀ y, d + 1 ≤ y → y ≤ e → g y = 0
    · have e1 : hold f g d v (e + 1) = v := hF_in _ _ _ _ (by omega) (by omega) (fun y h2 h3 => by
        rcases Nat.lt_or_ge y (e + 1) with z | z
        · exact hall y h2 (by omega)
        · rw [show y = e + 1 by omega]; exact h1)
      rw [e1]
      rcases Nat.lt_or_ge d e with z | z
      · exact (hF_in _ _ _ _ (by omega) (by omega) hall).symm
      · rw [show e = d by omega, hold_at]
    · obtain ⟨y, hy⟩ := Classical.not_forall.mp hall
      have hy1 : d + 1 ≤ y := Classical.byContradiction fun z => hy fun z2 => absurd z2 z
      have hy2 : y ≤ e := Classical.byContradiction fun z => hy fun _ z2 => absurd z2 z
      have hy3 : ¬ g y = 0 := fun z => hy fun _ _ => z
      have e1 : hold f g d v (e + 1) = f (e + 1) := by
        unfold hold
        rw [hF_out _ _ _ (e + 1) y hy1 (by omega) hy3]
        exact pk_un (by omega)
      have e2 : hold f g d v e = f e := by
        unfold hold
        rw [hF_out _ _ _ e y hy1 hy2 hy3]
        exact pk_un (by omega)
      rw [e1, e2, hf e he (by rw [← hg _ (by omega)]; exact h1)]
/-! counting -/
theorem cT_le (T : Nat → Nat → Int32) (d : Nat) : ∀ n, cT T d n ≤ n
  | 0 => Nat.le_refl _
  | n + 1 => by
    have h := cT_le T d n
    rw [cT]
    split <;> omega
theorem cG_le (ag : Nat → Int32) (d : Nat) : ∀ n, cG ag d n ≤ n
  | 0 => Nat.le_refl _
  | n + 1 => by
    have h := cG_le ag d n
    rw [cG]
    split <;> omega
theorem cT_0 {T : Nat → Nat → Int32} {d : Nat} : ∀ {n : Nat}, cT T d n = 0 → ∀ t, t < n → T t d = 0
  | 0, _, t, h => absurd h (Nat.not_lt_zero t)
  | n + 1, h, t, ht => by
    rw [cT] at h
    by_cases h0 : T n d = 0
    · rcases Nat.lt_or_ge t n with q | q
      · exact cT_0 (n := n) (by omega) t q
      · rw [show t = n by omega]; exact h0
    · rw [if_neg h0] at h; omega
theorem cG_0 {ag : Nat → Int32} {d : Nat} : ∀ {n : Nat}, cG ag d n = 0 → ∀ t, t < n → ¬ ag t = nI d
  | 0, _, t, h => absurd h (Nat.not_lt_zero t)
  | n + 1, h, t, ht => by
    rw [cG] at h
    by_cases h0 : ag n = nI d
    · rw [if_pos h0] at h; omega
    · rcases Nat.lt_or_ge t n with q | q
      · exact cG_0 (n := n) (by omega) t q
      · rw [show t = n by omega]; exact h0
theorem cT_ne {T : Nat → Nat → Int32} {t d e : Nat} {x : Int32} (h : e ≠ d) : ∀ n, cT (upd2 T t (upd (T t) d x)) e n = cT T e n
  | 0 => rfl
  | n + 1 => by
    rw [cT, cT, cT_ne h n]
    by_cases hn : n = t
    · subst hn; rw [upd2_s, pk_un h]
    · rw [upd2_n _ _ hn]
theorem cT_out {T : Nat → Nat → Int32} {t d : Nat} {x : Int32} : ∀ n, n ≤ t → cT (upd2 T t (upd (T t) d x)) d n = cT T d n
  | 0, _ => rfl
  | n + 1, h => by rw [cT, cT, cT_out n (by omega), upd2_n _ _ (by omega)]
theorem cT_1 {T : Nat → Nat → Int32} {t d : Nat} : ∀ n, t < n → cT (upd2 T t (upd (T t) d 1)) d n = cT T d n + (if T t d = 0 then 1 else 0)
  | 0, h => absurd h (Nat.not_lt_zero t)
  | n + 1, h => by
    rw [cT, cT]
    by_cases hn : n = t
    · subst hn
      rw [cT_out n (Nat.le_refl _), upd2_s, pk_us, if_neg (by decide)]
      split <;> omega
    · rw [cT_1 n (by omega), upd2_n _ _ hn]
      omega
theorem cT_z {T : Nat → Nat → Int32} {t d : Nat} (h1 : ¬ T t d = 0) : ∀ n, t < n → cT (upd2 T t (upd (T t) d 0)) d n + 1 = cT T d n
  | 0, h => absurd h (Nat.not_lt_zero t)
  | n + 1, h => by
    rw [cT, cT]
    by_cases hn : n = t
    · subst hn
      rw [cT_out n (Nat.le_refl _), upd2_s, pk_us, if_pos rfl, if_neg h1]
    · have := cT_z h1 n (by omega)
      rw [upd2_n _ _ hn]
      omega
theorem cG_up {ag : Nat → Int32} {x : Int32} {d k : Nat} : ∀ n, n ≤ k → cG (upd ag k x) d n = cG ag d n
  | 0, _ => rfl
  | n + 1, h => by rw [cG, cG, cG_up n (by omega), pk_un (by omega)]
theorem nI_m1 {a : Nat} : nI (a + 1) - 1 = nI a := by rw [← nI_1, Int32.add_sub_cancel]
theorem nI_p1 {a b : Nat} (h : b = a + 1) : nI a + 1 = nI b := by rw [h, nI_1]
/-- the step: a fact told -/
theorem Inv.tell {V T : Nat → Nat → Int32} {ag : Nat → Int32} {nP nH rN : Nat} {so : Nat → Int32} {pd : Nat → Nat → Int32} (h : Inv V T ag nP nH rN so pd) {t d : Nat} {v : Int32} (ht : t < 27) (hd : d < 360) (hv1 : 8 ≤ t → t < 20 → 0 ≤ v.toInt ∧ v.toInt ≤ 999) (hv2 : ∀ r, r < 7 → t = 20 + r → 0 ≤ v.toInt ∧ v.toInt ≤ (ruGr r).toInt) :
    Inv (upd2 V t (tellV (V t) (T t) d v)) (upd2 T t (upd (T t) d 1)) ag nP nH rN (if T t d = 0 then upd so d (so d + 1) else so) pd := by
  obtain ⟨h1, h2, h3, h4, h5, h6, h7⟩ := h
  refine ⟨h1, fun u hu e he => ?_, fun u hu e he h0 => ?_, fun e he => ?_, fun u hu1 hu2 e he => ?_, fun r hr e he => ?_, h7⟩
  · by_cases hut : u = t
    · subst hut
      rw [upd2_s]
      by_cases hed : e = d
      · subst hed; rw [pk_us]; exact Or.inr rfl
      · rw [pk_un hed]; exact h2 u hu e he
    · rw [upd2_n _ _ hut]; exact h2 u hu e he
  · by_cases hut : u = t
    · subst hut
      rw [upd2_s] at h0 ⊢
      exact hold_con hd (h3 u hu) (fun x hx => pk_un hx) (fun e _ q => absurd (show (1 : Int32) = 0 by rw [pk_us] at q; exact q) (by decide)) e he h0
    · rw [upd2_n _ _ hut] at h0 ⊢; exact h3 u hu e he h0
  · by_cases hed : e = d
    · subst hed
      rw [cT_1 27 ht]
      by_cases h0 : T t e = 0
      · rw [if_pos h0, if_pos h0, pk_us, h4 e he]
        exact nI_p1 (by omega)
      · rw [if_neg h0, if_neg h0, h4 e he]; rfl
    · rw [cT_ne hed]
      by_cases h0 : T t d = 0
      · rw [if_pos h0, pk_un hed]; exact h4 e he
      · rw [if_neg h0]; exact h4 e he
  · by_cases hut : u = t
    · subst hut
      rw [upd2_s]
      rcases hold_or (f := V u) (g := upd (T u) d 1) (d := d) (v := v) e with q | q
      · show 0 ≤ (hold (V u) (upd (T u) d 1) d v e).toInt ∧ _
        unfold tellV
        rw [q]; exact h5 u hu1 hu2 e he
      · unfold tellV
        rw [q]; exact hv1 hu1 hu2
    · rw [upd2_n _ _ hut]; exact h5 u hu1 hu2 e he
  · by_cases hut : 20 + r = t
    · subst hut
      rw [upd2_s]
      unfold tellV
      rcases hold_or (f := V (20 + r)) (g := upd (T (20 + r)) d 1) (d := d) (v := v) e with q | q
      · rw [q]; exact h6 r hr e he
      · rw [q]; exact hv2 r hr rfl
    · rw [upd2_n _ _ hut]; exact h6 r hr e he
theorem ruGr_0 : ∀ r, r < 7 → 0 ≤ (ruGr r).toInt := by decide
/-- the step: a fact taken back -/
theorem Inv.take {V T : Nat → Nat → Int32} {ag : Nat → Int32} {nP nH rN : Nat} {so : Nat → Int32} {pd : Nat → Nat → Int32} (h : Inv V T ag nP nH rN so pd) {t d : Nat} (ht : t < 27) (hd : d < 360) (h1t : ¬ T t d = 0) :
    Inv (upd2 V t (takeV (V t) (T t) d (w0 t))) (upd2 T t (upd (T t) d 0)) ag nP nH rN (upd so d (so d - 1)) pd := by
  obtain ⟨h1, h2, h3, h4, h5, h6, h7⟩ := h
  refine ⟨h1, fun u hu e he => ?_, fun u hu e he h0 => ?_, fun e he => ?_, fun u hu1 hu2 e he => ?_, fun r hr e he => ?_, h7⟩
  · by_cases hut : u = t
    · subst hut
      rw [upd2_s]
      by_cases hed : e = d
      · subst hed; rw [pk_us]; exact Or.inl rfl
      · rw [pk_un hed]; exact h2 u hu e he
    · rw [upd2_n _ _ hut]; exact h2 u hu e he
  · by_cases hut : u = t
    · subst hut
      rw [upd2_s] at h0 ⊢
      exact hold_con hd (h3 u hu) (fun x hx => pk_un hx) (fun e he _ => by rw [if_neg (by omega)]; rw [show d - 1 = e by omega]) e he h0
    · rw [upd2_n _ _ hut] at h0 ⊢; exact h3 u hu e he h0
  · by_cases hed : e = d
    · subst hed
      have hz := cT_z h1t 27 ht
      rw [pk_us, h4 e he, ← hz, show cT (upd2 T t (upd (T t) e 0)) e 27 + 1 + cG ag e nP = (cT (upd2 T t (upd (T t) e 0)) e 27 + cG ag e nP) + 1 by omega]
      exact nI_m1
    · rw [cT_ne hed, pk_un hed]; exact h4 e he
  · by_cases hut : u = t
    · subst hut
      rw [upd2_s]
      unfold takeV
      rcases hold_or (f := V u) (g := upd (T u) d 0) (d := d) (v := if d = 0 then w0 u else V u (d - 1)) e with q | q
      · rw [q]; exact h5 u hu1 hu2 e he
      · rw [q]
        by_cases hd0 : d = 0
        · rw [if_pos hd0]; unfold w0; rw [if_neg (by omega)]; decide
        · rw [if_neg hd0]; exact h5 u hu1 hu2 (d - 1) (by omega)
    · rw [upd2_n _ _ hut]; exact h5 u hu1 hu2 e he
  · by_cases hut : 20 + r = t
    · subst hut
      rw [upd2_s]
      unfold takeV
      rcases hold_or (f := V (20 + r)) (g := upd (T (20 + r)) d 0) (d := d) (v := if d = 0 then w0 (20 + r) else V (20 + r) (d - 1)) e with q | q
      · rw [q]; exact h6 r hr e he
      · rw [q]
        by_cases hd0 : d = 0
        · rw [if_pos hd0]; unfold w0; rw [if_neg (by omega)]
          exact ⟨by decide, ruGr_0 r hr⟩
        · rw [if_neg hd0]; exact h6 r hr (d - 1) (by omega)
    · rw [upd2_n _ _ hut]; exact h6 r hr e he
/-- a person more -/
theorem Inv.person {V T : Nat → Nat → Int32} {ag : Nat → Int32} {nP nH rN : Nat} {so : Nat → Int32} {pd : Nat → Nat → Int32} (h : Inv V T ag nP nH rN so pd) {a : Nat} (hp : nP < 8) (ha : a < 1000) :
    Inv V T (upd ag nP (nI a)) (nP + 1) nH rN (if 360 ≤ a then so else upd so a (so a + 1)) pd := by
  obtain ⟨h1, h2, h3, h4, h5, h6, h7⟩ := h
  refine ⟨⟨by omega, h1.2⟩, h2, h3, fun e he => ?_, h5, h6, h7⟩
  rw [cG, cG_up nP (Nat.le_refl _), pk_us]
  by_cases hea : a = e
  · subst hea
    rw [if_pos rfl, if_neg (by omega), pk_us, h4 a he]
    exact nI_p1 (by omega)
  · rw [if_neg (fun q => hea ((nI_eq (by omega) (by omega)).mp q))]
    by_cases h36 : 360 ≤ a
    · rw [if_pos h36, h4 e he]; rfl
    · rw [if_neg h36, pk_un (fun q => hea q.symm), h4 e he]; rfl
theorem cnt_congr {V : Nat → Nat → Int32} {ag : Nat → Int32} {h : Int32} {d e : Nat} : ∀ n, (∀ i, i < n → V i d = V i e ∧ V (8 + i) d = V (8 + i) e ∧ (nI d < ag i ↔ nI e < ag i)) → cnt V ag h d n = cnt V ag h e n
  | 0, _ => rfl
  | n + 1, hq => by
    obtain ⟨a1, a2, a3⟩ := hq n (by omega)
    rw [cnt, cnt, cnt_congr n (fun i hi => hq i (by omega)), a1, a2]
    by_cases hh : V n e = h
    · rw [if_pos hh, if_pos hh]
      by_cases hz : nI e < ag n
      · rw [if_pos hz, if_pos hz, if_pos (a3.mpr hz), if_pos (a3.mpr hz)]
      · rw [if_neg hz, if_neg hz, if_neg (fun q => hz (a3.mp q)), if_neg (fun q => hz (a3.mp q))]
    · rw [if_neg hh, if_neg hh]
/-- nothing starts on a day: its amounts are those of the day before -/
theorem Inv_amt {V T : Nat → Nat → Int32} {ag : Nat → Int32} {nP nH rN : Nat} {so : Nat → Int32} {pd : Nat → Nat → Int32} (hi : Inv V T ag nP nH rN so pd) {h x : Nat} (hh : h < 4) (hx : 0 < x) (hx2 : x < 360) (hs : so x ≤ 0) : amt V ag nP h x = amt V ag nP h (x - 1) := by
  obtain ⟨h1, h2, h3, h4, h5, h6, h7⟩ := hi
  have c1 := cT_le T x 27
  have c2 := cG_le ag x nP
  rw [h4 x hx2] at hs
  have hz : cT T x 27 + cG ag x nP = 0 := by
    rcases Nat.eq_zero_or_pos (cT T x 27 + cG ag x nP) with q | q
    · exact q
    · exact absurd hs (nI_nle q (by omega))
  have hV : ∀ t, t < 27 → V t x = V t (x - 1) := fun t ht => by
    have := h3 t ht (x - 1) (by omega) (by rw [show x - 1 + 1 = x by omega]; exact cT_0 (n := 27) (by omega) t ht)
    rw [show x - 1 + 1 = x by omega] at this
    exact this
  have hc : cnt V ag (nI h) x nP = cnt V ag (nI h) (x - 1) nP := cnt_congr nP (fun i hi => ⟨hV i (by omega), hV (8 + i) (by omega), by
    have hne := cG_0 (n := nP) (by omega : cG ag x nP = 0) i hi
    rw [fa_lt, fa_lt, nI_toInt (by omega), nI_toInt (by omega)]
    have hne2 : (ag i).toInt ≠ (x : Int) := fun q => hne ((fa_eq _ _).mpr (by rw [nI_toInt (by omega)]; exact q))
    omega⟩)
  unfold amt
  rw [hc, hV (20 + 0) (by omega), hV (20 + 1) (by omega), hV (20 + 2) (by omega), hV (20 + 3) (by omega), hV (20 + 4) (by omega), hV (20 + 5) (by omega), hV (20 + 6) (by omega), hV (16 + h) (by omega)]
