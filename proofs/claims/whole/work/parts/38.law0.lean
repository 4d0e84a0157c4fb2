/-! ===== the law's world: 0..108 the office, 109 out, 110..122 the model, 123 outD ===== -/
def lE (cJ cF : ClassId) (Ec Em : Nat → va_E) (o : Nat → Int64) (od : Nat → UInt64) : Nat → va_E := fun k =>
  if k < 109 then Ec k else if k = 109 then .inl (cJ, 1, .inr (.inl o)) else if k < 123 then Em (k - 110) else .inl (cF, 1, .inr (.inr (.inr (.inl od))))
/-- what a helper leaves (its cells 0..109) within the law's world -/
def gH (cF : ClassId) (E1 Em : Nat → va_E) (od : Nat → UInt64) : Nat → va_E := fun k =>
  if k < 110 then E1 k else if k < 123 then Em (k - 110) else .inl (cF, 1, .inr (.inr (.inr (.inl od))))
/-- what a helper of outD leaves (its cell 109 is the law's 123) -/
def gD (cJ : ClassId) (E1 Em : Nat → va_E) (o : Nat → Int64) : Nat → va_E := fun k =>
  if k < 109 then E1 k else if k = 109 then .inl (cJ, 1, .inr (.inl o)) else if k < 123 then Em (k - 110) else E1 109
def sD (k : Nat) : Nat := if k = 109 then 123 else k
section LAWW
variable {cJ cF : ClassId} {Ec Em E1 : Nat → va_E} {o : Nat → Int64} {od : Nat → UInt64}
theorem lE_h {k : Nat} (h : k < 110) : lE cJ cF Ec Em o od k = hE cJ Ec o k := by
  unfold lE hE
  by_cases h2 : k < 109
  · rw [if_pos h2, if_pos h2]
  · rw [if_neg h2, if_neg h2, if_pos (by omega)]
theorem lE_m {k : Nat} (h : k < 13) : lE cJ cF Ec Em o od (110 + k) = Em k := by
  unfold lE
  rw [if_neg (by omega), if_neg (by omega), if_pos (by omega), Nat.add_sub_cancel_left]
theorem lE_d {k : Nat} (h : k < 110) : lE cJ cF Ec Em o od (sD k) = hF9 cF Ec od k := by
  unfold lE hF9 sD
  by_cases h2 : k < 109
  · rw [if_neg (by omega : ¬ k = 109), if_pos h2, if_pos h2]
  · rw [if_pos (by omega : k = 109), if_neg h2]
    rfl
theorem gH_in {k : Nat} (h : k < 110) : gH cF E1 Em od k = E1 k := if_pos h
theorem gH_out {j : Nat} (hno : ∀ k, k < 110 → k ≠ j) : gH cF E1 Em od j = lE cJ cF Ec Em o od j := by
  have h : ¬ j < 110 := fun q => hno j q rfl
  unfold gH lE
  rw [if_neg h, if_neg (by omega : ¬ j < 109), if_neg (by omega : ¬ j = 109)]
theorem gH_eq : gH cF (hE cJ Ec o) Em od = lE cJ cF Ec Em o od := by
  funext k
  by_cases h : k < 110
  · rw [gH_in h, lE_h h]
  · exact gH_out (fun i hi e => h (by omega))
theorem lE_out {j : Nat} (hno : ∀ k, k < 13 → 110 + k ≠ j) : lE cJ cF Ec E1 o od j = lE cJ cF Ec Em o od j := by
  unfold lE
  by_cases h : j < 109
  · rw [if_pos h, if_pos h]
  · rw [if_neg h, if_neg h]
    by_cases h2 : j = 109
    · rw [if_pos h2, if_pos h2]
    · rw [if_neg h2, if_neg h2]
      have h3 : ¬ j < 123 := fun q => hno (j - 110) (by omega) (by omega)
      rw [if_neg h3, if_neg h3]
theorem gD_in {k : Nat} (h : k < 110) : gD cJ E1 Em o (sD k) = E1 k := by
  unfold gD sD
  by_cases h2 : k < 109
  · rw [if_neg (by omega : ¬ k = 109), if_pos h2]
  · have e : k = 109 := by omega
    subst e
    rfl
theorem gD_out {j : Nat} (hj : j < 124) (hno : ∀ k, k < 110 → sD k ≠ j) : gD cJ E1 Em o j = lE cJ cF Ec Em o od j := by
  have h : ¬ j < 109 := fun q => hno j (by omega) (if_neg (by omega))
  have h3 : ¬ j = 123 := fun q => hno 109 (by omega) (by rw [q]; rfl)
  unfold gD lE
  rw [if_neg h, if_neg h]
  by_cases h2 : j = 109
  · rw [if_pos h2, if_pos h2]
  · rw [if_neg h2, if_neg h2, if_pos (by omega), if_pos (by omega)]
theorem gD_eq {D : va_G} {ad : Nat → Nat} {H : Heap} (hW : hH D ad 124 (gD cJ (hF9 cF Ec od) Em o) H) : hH D ad 124 (lE cJ cF Ec Em o od) H := fun k hk => by
  have z := hW k hk
  have e : gD cJ (hF9 cF Ec od) Em o k = lE cJ cF Ec Em o od k := by
    unfold gD lE hF9
    by_cases h : k < 109
    · rw [if_pos h, if_pos h, if_pos h]
    · rw [if_neg h, if_neg h]
      by_cases h2 : k = 109
      · rw [if_pos h2, if_pos h2]
      · rw [if_neg h2, if_neg h2]
        by_cases h3 : k < 123
        · rw [if_pos h3, if_pos h3]
        · rw [if_neg h3, if_neg h3]
          rfl
  rw [e] at z
  exact z
theorem sD_inj (i j : Nat) (hi : i < 110) (hj : j < 110) (h : sD i = sD j) : i = j := by
  unfold sD at h
  by_cases h1 : i = 109
  · rw [if_pos h1] at h
    by_cases h2 : j = 109
    · omega
    · rw [if_neg h2] at h; omega
  · rw [if_neg h1] at h
    by_cases h2 : j = 109
    · rw [if_pos h2] at h; omega
    · rw [if_neg h2] at h; exact h
theorem sD_lt (k : Nat) (h : k < 110) : sD k < 124 := by
  unfold sD
  split <;> omega
end LAWW
