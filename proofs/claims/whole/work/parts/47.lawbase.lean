theorem sD_lo {k : Nat} (h : k < 109) : sD k = k := if_neg (by omega)
/-! ===== the law's walk: base ===== -/
section LAWB
variable {cJ cF : ClassId} {Ec Em E1 : Nat → va_E} {o : Nat → Int64} {od : Nat → UInt64}
theorem lE_c {k : Nat} (h : k < 109) : lE cJ cF Ec Em o od k = Ec k := if_pos h
theorem lE_co {j : Nat} (hno : ∀ k, k < 109 → k ≠ j) : lE cJ cF E1 Em o od j = lE cJ cF Ec Em o od j := by
  have h : ¬ j < 109 := fun q => hno j q rfl
  unfold lE
  rw [if_neg h, if_neg h]
theorem lE_109 : lE cJ cF Ec Em o od 109 = .inl (cJ, 1, .inr (.inl o)) := rfl
theorem lE_123 : lE cJ cF Ec Em o od 123 = .inl (cF, 1, .inr (.inr (.inr (.inl od)))) := rfl
theorem lE_ad {D : va_G} {ad ad1 ad2 : Nat → Nat} {cI cZ cH cP cT : ClassId} {V T : Nat → Nat → Int32} {ag : Nat → Int32} {nP nH rN : Nat} {nf pn : Int32} {sp sk : Int64} {py pd : Nat → Nat → Int32} {so en : Nat → Int32} {rA rC rI aA aC aH aT aP : Int32} {H : Heap} (h : ∀ k, k < 109 → ad2 k = ad1 k) (hW : hH D ad 124 (lE cJ cF (cE cI cZ cH cP cT ad1 V T ag nP nH rN nf pn sp sk py pd so en rA rC rI aA aC aH aT aP) Em o od) H) : hH D ad 124 (lE cJ cF (cE cI cZ cH cP cT ad2 V T ag nP nH rN nf pn sp sk py pd so en rA rC rI aA aC aH aT aP) Em o od) H := fun k hk => by
  have z := hW k hk
  by_cases h1 : k < 109
  · rw [lE_c h1] at z ⊢
    by_cases a1 : k = 1
    · subst a1; exact at_Q z (fun j hj => by rw [h (8 + j) (by omega)])
    · by_cases a2 : k = 2
      · subst a2; exact at_Q z (fun j hj => by rw [h (16 + j) (by omega)])
      · by_cases a3 : k = 3
        · subst a3; exact at_Q z (fun j hj => by rw [h (20 + (20 + j)) (by omega)])
        · have e : cE cI cZ cH cP cT ad2 V T ag nP nH rN nf pn sp sk py pd so en rA rC rI aA aC aH aT aP k = cE cI cZ cH cP cT ad1 V T ag nP nH rN nf pn sp sk py pd so en rA rC rI aA aC aH aT aP k := by
            by_cases a0 : k = 0
            · subst a0
              rw [cE_0, cE_0, h 1 (by omega), h 2 (by omega), h 3 (by omega), h 4 (by omega), h 5 (by omega), h 6 (by omega), h 7 (by omega)]
            · by_cases b1 : k < 8
              · have : k = 4 ∨ k = 5 ∨ k = 6 ∨ k = 7 := by omega
                rcases this with rfl | rfl | rfl | rfl <;> rfl
              · by_cases b2 : k < 16
                · obtain ⟨i, rfl⟩ : ∃ i, k = 8 + i := ⟨k - 8, by omega⟩
                  rw [cE_per (by omega), cE_per (by omega), h (20 + i) (by omega), h (20 + (8 + i)) (by omega)]
                · by_cases b3 : k < 20
                  · obtain ⟨i, rfl⟩ : ∃ i, k = 16 + i := ⟨k - 16, by omega⟩
                    rw [cE_hh (by omega), cE_hh (by omega), h (20 + (16 + i)) (by omega), h (101 + i) (by omega), h (105 + i) (by omega)]
                  · by_cases b4 : k < 47
                    · obtain ⟨i, rfl⟩ : ∃ i, k = 20 + i := ⟨k - 20, by omega⟩
                      rw [cE_tl (by omega), cE_tl (by omega), h (47 + i) (by omega), h (74 + i) (by omega)]
                    · by_cases b5 : k < 74
                      · obtain ⟨i, rfl⟩ : ∃ i, k = 47 + i := ⟨k - 47, by omega⟩
                        rw [cE_val (by omega), cE_val (by omega)]
                      · by_cases b6 : k < 101
                        · obtain ⟨i, rfl⟩ : ∃ i, k = 74 + i := ⟨k - 74, by omega⟩
                          rw [cE_told (by omega), cE_told (by omega)]
                        · by_cases b7 : k < 105
                          · obtain ⟨i, rfl⟩ : ∃ i, k = 101 + i := ⟨k - 101, by omega⟩
                            rw [cE_py (by omega), cE_py (by omega)]
                          · obtain ⟨i, rfl⟩ : ∃ i, k = 105 + i := ⟨k - 105, by omega⟩
                            rw [cE_pd, cE_pd]
          rw [e]
          exact z
  · have e : lE cJ cF (cE cI cZ cH cP cT ad2 V T ag nP nH rN nf pn sp sk py pd so en rA rC rI aA aC aH aT aP) Em o od k = lE cJ cF (cE cI cZ cH cP cT ad1 V T ag nP nH rN nf pn sp sk py pd so en rA rC rI aA aC aH aT aP) Em o od k := lE_co (fun i hi e => h1 (by omega))
    rw [e]
    exact z
end LAWB
section LAWR
variable {p : Program} {l : Launch} {e : Env} {R : Room} {s : State} {m : MethodId} {args : Array Value} {below : List Frame} {meth : Method} {c : Code} {H : Heap} {locs : List Loc} {cells slots : Nat} {Q : State → Prop}
variable {cc : ByteArray} {pc nL : Nat} {own : String} {ls : Array Slot} {rest : List Value} {D : va_G} {tys : List (ClassId × FieldType)} {ad : Nat → Nat} {N : Nat} {E : Nat → va_E}
theorem b_lald (B : MB p c cc nL own s m args D tys) (hW : hH D ad N E H) {cJ : ClassId} (ht : tys[5]? = some (cJ, .long)) {k n j : Nat} {f : Nat → Int64} {i : Int32} (hk : k < N) (he : E k = .inl (cJ, n, .inr (.inl f))) (hin : vp_in i n) (hj : i.toNatClampNeg = j) (hdg : decode cc pc = .ok (.laload, 1))
    (kk : W p l e R s m args below meth c H locs cells slots Q (F0 m (pc + 1) ls (.long (f j) :: rest))) : W p l e R s m args below meth c H locs cells slots Q (F0 m pc ls (.int i :: .ref (ad k) :: rest)) :=
  va_lald B.1 B.2.1 B.2.2.2.2.2 (hW.one hk he) 0 5 rfl ht hin hdg (by rw [hj]; exact kk)
theorem b_dald (B : MB p c cc nL own s m args D tys) (hW : hH D ad N E H) {cF : ClassId} (ht : tys[6]? = some (cF, .double)) {k n j : Nat} {f : Nat → UInt64} {i : Int32} (hk : k < N) (he : E k = .inl (cF, n, .inr (.inr (.inr (.inl f))))) (hin : vp_in i n) (hj : i.toNatClampNeg = j) (hdg : decode cc pc = .ok (.daload, 1))
    (kk : W p l e R s m args below meth c H locs cells slots Q (F0 m (pc + 1) ls (.double (f j) :: rest))) : W p l e R s m args below meth c H locs cells slots Q (F0 m pc ls (.int i :: .ref (ad k) :: rest)) :=
  va_dald B.1 B.2.1 B.2.2.2.2.2 (hW.one hk he) 0 6 rfl ht hin hdg (by rw [hj]; exact kk)
end LAWR
theorem d_self {x : UInt64} (h : vf_n64 x) (op : CmpOp) : Op.cmpValue (FP.dcmp x x) op = 0 := by
  have e : FP.dcmp x x = some .eq := FP.Core.dcmp_self ((FP.Core.notNaN_iff x).mp (Jvm.Free.Fl.noNaN64_no.mp h))
  rw [e]
  rfl
/-- what holds all along the law -/
def LC (p : Program) (l : Launch) (s : State) (m : MethodId) (args : Array Value) (c : Code) (D : va_G) (ad : Nat → Nat) (cI cZ cH cP cT cJ cF : ClassId) (b L : Nat) (xs : Nat → Int32) : Prop :=
  MB p c cL_law 9 RL s m args D [(cI, .int), (cZ, .boolean), (cH, .object RX1), (cP, .object RX2), (cT, .object RX4), (cJ, .long), (cF, .double)] ∧ (l.stackTraces = false ∧ TX s ∧ NC s ∧ HX (cA ad 124 s.heap.size) s s.heap ∧ aI ad 124) ∧ va_X b L xs s s.heap ∧ b < s.heap.size ∧ (¬ cA ad 124 s.heap.size b) ∧ L ≤ 2048
/-- the way on from a step's end -/
def LK (p : Program) (l : Launch) (e : Env) (s : State) (m : MethodId) (args : Array Value) (below : List Frame) (meth : Method) (c : Code) (Q : State → Prop) (D : va_G) (ad : Nat → Nat) (cI cZ cH cP cT cJ cF : ClassId) (b t C0 S0 : Nat) : Prop :=
  ∀ (V T : Nat → Nat → Int32) (ag : Nat → Int32) (nP nH rN : Nat) (nf pn : Int32) (sp sk : Int64) (py pd : Nat → Nat → Int32) (th : Int32) (Ec Em : Nat → va_E) (o : Nat → Int64) (od : Nat → UInt64) (H : Heap) (locs : List Loc) (ls : Array Slot), CW cI cZ cH cP cT ad V T ag nP nH rN nf pn sp sk py pd Ec → MW cI cZ (fun k => ad (110 + k)) th V T ag nP nH rN nf pn sp sk py pd Em → hH D ad 124 (lE cJ cF Ec Em o od) H → va_S (cA ad 124 s.heap.size) s.heap H locs → lv_has ls 9 [(0, .ref b), (1, .ref (ad 0)), (2, .ref (ad 110)), (3, .ref (ad 109)), (4, .ref (ad 123)), (5, .int (nI (4 * t)))] → W p l e room_1 s m args below meth c H locs C0 S0 Q (F0 m 2118 ls [])
