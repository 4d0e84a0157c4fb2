/-! ===== p35: the law: what its picks and its calls are ===== -/
theorem pick_n {x : Int32} {n : Nat} (hn : 0 < n) (hn2 : n < 2 ^ 31) : ∃ j, j < n ∧ (x.toUInt32 >>> ((1 : Int32).toUInt32 &&& Int32.toUInt32 31)).toInt32 - (x.toUInt32 >>> ((1 : Int32).toUInt32 &&& Int32.toUInt32 31)).toInt32 / nI n * nI n = nI j := by
  have h : ∃ t, t < 2 ^ 31 ∧ (x.toUInt32 >>> ((1 : Int32).toUInt32 &&& Int32.toUInt32 31)).toInt32 = nI t := by
    refine ⟨(x.toUInt32 >>> ((1 : Int32).toUInt32 &&& Int32.toUInt32 31)).toNat, ?_, ?_⟩
    · rw [UInt32.toNat_shiftRight]
      have h1 : (((1 : Int32).toUInt32 &&& Int32.toUInt32 31).toNat % 32) = 1 := by decide
      rw [h1, Nat.shiftRight_eq_div_pow]
      have h2 := x.toUInt32.toNat_lt
      omega
    · apply Int32.toBitVec_inj.mp
      show (x.toUInt32 >>> ((1 : Int32).toUInt32 &&& Int32.toUInt32 31)).toBitVec = BitVec.ofNat 32 (x.toUInt32 >>> ((1 : Int32).toUInt32 &&& Int32.toUInt32 31)).toBitVec.toNat
      rw [BitVec.ofNat_toNat, BitVec.setWidth_eq]
  obtain ⟨t, ht, e⟩ := h
  rw [e]
  exact ⟨t % n, Nat.mod_lt _ hn, pk_rem ht hn hn2⟩
/-- homes are households or none -/
def Hm (V : Nat → Nat → Int32) : Prop := ∀ t, t < 8 → ∀ d, d < 360 → -1 ≤ (V t d).toInt
theorem Hm.tell {V T : Nat → Nat → Int32} (h : Hm V) {t d : Nat} {v : Int32} (hv9 : t < 8 → -1 ≤ v.toInt) : Hm (upd2 V t (tellV (V t) (T t) d v)) := fun u hu e he => by
  by_cases hut : u = t
  · subst hut
    rw [upd2_s]
    unfold tellV
    rcases hold_or (f := V u) (g := upd (T u) d 1) (d := d) (v := v) e with q | q
    · rw [q]; exact h u hu e he
    · rw [q]; exact hv9 hu
  · rw [upd2_n _ _ hut]; exact h u hu e he
theorem Hm.take {V T : Nat → Nat → Int32} (h : Hm V) {t d : Nat} (hd : d < 360) : Hm (upd2 V t (takeV (V t) (T t) d (w0 t))) := fun u hu e he => by
  by_cases hut : u = t
  · subst hut
    rw [upd2_s]
    unfold takeV
    rcases hold_or (f := V u) (g := upd (T u) d 0) (d := d) (v := if d = 0 then w0 u else V u (d - 1)) e with q | q
    · rw [q]; exact h u hu e he
    · rw [q]
      by_cases hd0 : d = 0
      · rw [if_pos hd0]; unfold w0; rw [if_pos hu]; decide
      · rw [if_neg hd0]; exact h u hu (d - 1) (by omega)
  · rw [upd2_n _ _ hut]; exact h u hu e he
theorem tell_at {V T : Nat → Nat → Int32} {t d : Nat} {v : Int32} : upd2 V t (tellV (V t) (T t) d v) t d = v := by
  rw [upd2_s]
  exact hold_at
theorem kMove_c {nP nH p d : Nat} {h : Int32} (hp : p < 2 ^ 31) (hd : d < 2 ^ 31) : (kMove nP nH (nI p) h (nI d) = 0 ∧ p < nP ∧ d < 360 ∧ (h = -1 ∨ vp_in h nH)) ∨ kMove nP nH (nI p) h (nI d) = 1 ∨ kMove nP nH (nI p) h (nI d) = 2 := by
  unfold kMove
  by_cases a : vp_in (nI p) nP ∧ (h = -1 ∨ vp_in h nH)
  · rw [cif_t a]
    by_cases b : vp_in (nI d) 360
    · rw [cif_t b]; exact Or.inl ⟨rfl, in_lt hp a.1, in_lt hd b, a.2⟩
    · rw [cif_f b]; exact Or.inr (Or.inr rfl)
  · rw [cif_f a]; exact Or.inr (Or.inl rfl)
theorem kSet_c {n p d : Nat} {v : Int32} (hp : p < 2 ^ 31) (hd : d < 2 ^ 31) : (kSet n (nI p) v (nI d) = 0 ∧ p < n ∧ d < 360) ∨ kSet n (nI p) v (nI d) = 1 ∨ kSet n (nI p) v (nI d) = 2 := by
  unfold kSet
  by_cases a : vp_in (nI p) n
  · rw [cif_t a]
    by_cases b : vp_in v 1000 ∧ vp_in (nI d) 360
    · rw [cif_t b]; exact Or.inl ⟨rfl, in_lt hp a, in_lt hd b.2⟩
    · rw [cif_f b]; exact Or.inr (Or.inr rfl)
  · rw [cif_f a]; exact Or.inr (Or.inl rfl)
theorem kRule_c {d : Nat} {c v : Int32} (hd : d < 2 ^ 31) (hc : rIx c < 7) : (kRule c v (nI d) = 0 ∧ d < 360) ∨ kRule c v (nI d) = 1 ∨ kRule c v (nI d) = 2 := by
  unfold kRule
  rw [cif_t hc]
  by_cases b : (¬ v < 0 ∧ v ≤ ruGr (rIx c)) ∧ vp_in (nI d) 360
  · rw [cif_t b]; exact Or.inl ⟨rfl, in_lt hd b.2⟩
  · rw [cif_f b]; exact Or.inr (Or.inr rfl)
theorem kTake_c {T : Nat → Nat → Int32} {o n p d : Nat} (hp : p < 2 ^ 31) (hd : d < 2 ^ 31) : (kTake T o n (nI p) (nI d) = 0 ∧ p < n ∧ d < 360) ∨ kTake T o n (nI p) (nI d) = 1 ∨ kTake T o n (nI p) (nI d) = 2 := by
  unfold kTake
  by_cases a : vp_in (nI p) n
  · rw [cif_t a]
    by_cases b : vp_in (nI d) 360 ∧ ¬ T (o + ix (nI p)) (ix (nI d)) = 0
    · rw [cif_t b]; exact Or.inl ⟨rfl, in_lt hp a, in_lt hd b.1⟩
    · rw [cif_f b]; exact Or.inr (Or.inr rfl)
  · rw [cif_f a]; exact Or.inr (Or.inl rfl)
theorem kTakeR_c {T : Nat → Nat → Int32} {d : Nat} {c : Int32} (hd : d < 2 ^ 31) : (kTakeR T c (nI d) = 0 ∧ d < 360) ∨ kTakeR T c (nI d) = 1 ∨ kTakeR T c (nI d) = 2 := by
  unfold kTakeR
  by_cases a : rIx c < 7 ∧ (vp_in (nI d) 360 ∧ ¬ T (20 + rIx c) (ix (nI d)) = 0)
  · rw [cif_t a]
    by_cases b : nI d = 0
    · rw [cif_t b]; exact Or.inr (Or.inr rfl)
    · rw [cif_f b]; exact Or.inl ⟨rfl, in_lt hd a.2.1⟩
  · rw [cif_f a]; exact Or.inr (Or.inl rfl)
theorem kPay_c {rN : Nat} : (kPay rN = 0 ∧ rN < 12) ∨ (kPay rN = 1 ∧ ¬ rN < 12) := by
  unfold kPay
  by_cases a : rN < 12
  · rw [cif_t a]; exact Or.inl ⟨rfl, a⟩
  · rw [cif_f a]; exact Or.inr ⟨rfl, a⟩
theorem kAddP_0 {nP a : Nat} (hp : nP < 8) (ha : a < 1000) : kAddP nP (nI a) = 0 := by
  unfold kAddP
  rw [cif_t (vp_in_nI ha (by omega)), cif_t hp]
theorem kAddH_0 {nH : Nat} (hn : nH < 4) : kAddH nH = 0 := by
  unfold kAddH
  exact cif_t hn
theorem kMove_0 {nP nH p d h : Nat} (hn : nH ≤ 4) (hP : nP ≤ 8) (hp : p < nP) (hh : h < nH) (hd : d < 360) : kMove nP nH (nI p) (nI h) (nI d) = 0 := by
  unfold kMove
  rw [cif_t ⟨vp_in_nI hp (by omega), Or.inr (vp_in_nI hh (by omega))⟩, cif_t (vp_in_nI hd (by omega))]
theorem m1_le {x : Int32} (h : -1 ≤ x.toInt) : ¬ x < -1 := fun q => by
  have := (fa_lt _ _).mp q
  have e : (-1 : Int32).toInt = -1 := rfl
  omega
theorem vin_m1 {h : Int32} {n : Nat} (q : h = -1 ∨ vp_in h n) : -1 ≤ h.toInt := by
  rcases q with q | q
  · rw [q]; decide
  · have := (vp_in_iff.mp q).1
    omega
/-- what holds between the law's turns -/
def ST35 (V : Nat → Nat → Int32) (G rN : Nat) (pn : Int32) (sp : Int64) (py pd : Nat → Nat → Int32) : Prop := Hm V ∧ J35 G rN pn sp py pd
/-- a run of the office -/
theorem pay_all {V T : Nat → Nat → Int32} {ag : Nat → Int32} {P G rN : Nat} {so : Nat → Int32} {pn : Int32} {sp sk : Int64} {py pd : Nat → Nat → Int32} (hi : Inv V T ag P G rN so pd) (hJ : J35 G rN pn sp py pd) (hr : rN < 12) :
    0 ≤ (runS (due V ag P) rN py pd sk G).1.toInt ∧ (∀ h, h < G → 0 ≤ ((runS (due V ag P) rN py pd sk G).2.1 h rN).toInt) ∧ (∀ h, h < G → (runS (due V ag P) rN py pd sk G).2.2.1 h rN = due V ag P h rN) ∧
    (∀ h, h < G → fbit (pBb (nodebt (due V ag P) pd rN) G) h → stl (due V ag P h) ((runS (due V ag P) rN py pd sk G).2.2.1 h) (rN + 1) = 1 ∧ bal (due V ag P h) ((runS (due V ag P) rN py pd sk G).2.2.1 h) (rN + 1) = 0) ∧
    hSm (runS (due V ag P) rN py pd sk G).2.1 rN G = (runS (due V ag P) rN py pd sk G).1 ∧
    (0 ≤ ((runS (due V ag P) rN py pd sk G).2.2.2 - sk).toInt ∧ ((runS (due V ag P) rN py pd sk G).2.2.2 - sk).toInt ≤ (mS (due V ag P) (pBb (nodebt (due V ag P) pd rN) G) rN G).toInt) ∧
    J35 G (rN + 1) (pn + nI G) (sp + (runS (due V ag P) rN py pd sk G).1.toInt64) (runS (due V ag P) rN py pd sk G).2.1 (runS (due V ag P) rN py pd sk G).2.2.1 := by
  have hG : G ≤ 4 := hi.1.2.1
  have hf : ∀ h, h < G → ∀ j, j < 12 → bd (pd h j) 100000000 := fun h hh j hj => hi.2.2.2.2.2.2 h (by omega) j hj
  have hu : ∀ h, h < G → ∀ j, j < 12 → bd (due V ag P h j) 100000 := fun h hh j hj => due_bd hi (by omega) hj
  have hone : ∀ h, h < G → _ := fun h hh => pay_one (hf h hh) (hu h hh) hr (hJ.1 h hh).2.1
  have ePy : ∀ h, h < G → (runS (due V ag P) rN py pd sk G).2.1 h = upd (py h) rN (payP (due V ag P h) (pd h) rN) := fun h hh => (runS_at hh).1
  have ePd : ∀ h, h < G → (runS (due V ag P) rN py pd sk G).2.2.1 h = payD (due V ag P h) (pd h) rN := fun h hh => (runS_at hh).2
  have eN : ∀ h, h < G → (runS (due V ag P) rN py pd sk G).2.1 h rN = payP (due V ag P h) (pd h) rN := fun h hh => by rw [ePy h hh]; exact pk_us
  have eS := runS_hSm (U := due V ag P) (mo := rN) (py := py) (pd := pd) (py' := (runS (due V ag P) rN py pd sk G).2.1) (sk := sk) G eN
  have hb9 : ∀ k, k < G → bd ((runS (due V ag P) rN py pd sk G).2.1 k rN) 2000000 := fun k hk => by rw [eN k hk]; exact (hone k hk).1
  have hsum := hSm_int (py := (runS (due V ag P) rN py pd sk G).2.1) (mo := rN) G hG hb9
  have hfree : ∀ h, h < G → fbit (pBb (nodebt (due V ag P) pd rN) G) h → dsum (pd h) (due V ag P h) rN ≤ 0 := fun h hh q =>
    (free_iff (hf h hh) (hu h hh) (by omega)).mp (of_decide_eq_true (fbit_pB hG hh q))
  have ek : (runS (due V ag P) rN py pd sk G).2.2.2 - sk = kS (due V ag P) pd rN G := by
    rw [runS_kS, Int64.add_comm, Int64.add_sub_cancel]
  have hk := k_le_m (U := due V ag P) (pd := pd) (x := pBb (nodebt (due V ag P) pd rN) G) hr G hG (fun h hh => ⟨hf h hh, hu h hh, hfree h hh⟩)
  refine ⟨by rw [eS]; exact hsum.2.1, fun h hh => (hb9 h hh).1, fun h hh => by rw [ePd h hh]; exact (hone h hh).2.2.1, fun h hh q => ?_, eS.symm, by rw [ek]; exact ⟨hk.1, hk.2.1⟩, ?_⟩
  · have hall := (hone h hh).2.2.2.2 (hfree h hh q)
    rw [ePd h hh]
    have h1 := stl_all (u := due V ag P h) (f := payD (due V ag P h) (pd h) rN) (rN + 1) hall
    exact ⟨h1, stl_bal (rN + 1) (by rw [h1]; decide)⟩
  · obtain ⟨j1, j2, j3⟩ := hJ
    refine ⟨fun h hh => ⟨?_, fun m h1 h2 => ?_, fun m hm => ?_⟩, ?_, ?_⟩
    · rw [ePd h hh, (hone h hh).2.1, (j1 h hh).1, sI, ePy h hh, sI_upo rN (Nat.le_refl _), pk_us]
    · rw [ePd h hh]; exact (hone h hh).2.2.2.1 m h1 h2
    · rw [ePy h hh]
      by_cases q : m = rN
      · subst q; rw [pk_us]; exact (hone h hh).1.1
      · rw [pk_un q]; exact (j1 h hh).2.2 m (by omega)
    · have e := sS_pay (py := py) (py' := (runS (due V ag P) rN py pd sk G).2.1) hr G hG (fun k hk => ⟨hb9 k hk, by rw [sI, ePy k hk, sI_upo rN (Nat.le_refl _)]⟩)
      have r1 := sS_rng py (r := rN) (by omega) G
      have r2 := fb_rng (runS (due V ag P) rN py pd sk G).1
      rw [l_add (by rw [l_of]; omega) (by rw [l_of]; omega), l_of, e, j2, ← eS]
    · rw [j3, nI_add, Nat.mul_add, Nat.mul_one]
