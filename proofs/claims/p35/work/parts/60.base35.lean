/-! ===== p35: the law's own layer ===== -/
/-- an answer, by the code of what was thrown -/
def hv {α : Type} (K : Int32) (c1 c2 c3 r : α) : α := if K = 0 then r else if K = 1 then c1 else if K = 2 then c2 else c3
theorem hv_0 {α : Type} {c1 c2 c3 r : α} : hv 0 c1 c2 c3 r = r := if_pos rfl
theorem hv_1 {α : Type} {c1 c2 c3 r : α} : hv 1 c1 c2 c3 r = c1 := by unfold hv; rw [if_neg (by decide), if_pos rfl]
theorem hv_2 {α : Type} {c1 c2 c3 r : α} : hv 2 c1 c2 c3 r = c2 := by unfold hv; rw [if_neg (by decide), if_neg (by decide), if_pos rfl]
theorem hv_3 {α : Type} {c1 c2 c3 r : α} : hv 3 c1 c2 c3 r = c3 := by unfold hv; rw [if_neg (by decide), if_neg (by decide), if_neg (by decide)]
/-- the arrays' classes -/
def TY (tys : List (ClassId × FieldType)) (cI cZ cH cP cT : ClassId) : Prop := tys[0]? = some (cI, .int) ∧ cZ = cI ∧ tys[2]? = some (cH, .object RX1) ∧ tys[3]? = some (cP, .object RX2) ∧ tys[4]? = some (cT, .object RX4)
theorem stl_01 {u f : Nat → Int32} : ∀ n, stl u f n = 0 ∨ stl u f n = 1
  | 0 => Or.inr rfl
  | n + 1 => by
    rw [stl]
    split
    · exact Or.inl rfl
    · split
      · exact Or.inr rfl
      · exact Or.inl rfl
theorem ix_n {n : Nat} (h : n < 2 ^ 31) : ix (nI n) = n := nI_clamp h
section ROW35
variable {p : Program} {l : Launch} {e : Env} {R : Room} {s : State} {m : MethodId} {args : Array Value} {below : List Frame} {meth : Method} {c : Code} {H : Heap} {locs : List Loc} {cells slots : Nat} {Q : State → Prop}
variable {cc : ByteArray} {pc nL : Nat} {own : String} {ls : Array Slot} {rest : List Value} {D : va_G} {tys : List (ClassId × FieldType)} {ad : Nat → Nat} {N : Nat} {E : Nat → va_E}
variable {y : MethodName} {bytes : ByteArray} {maxL mc ms n index : Nat} {ret : Option FieldType} {rm : Room} {As : List Value} {hh : List (Nat × Nat × Nat × Nat)}
/-- a call of a helper with a table, in the same world -/
theorem b_runSW (B : MB p c cc nL own s m args D tys) (hT : TX s) (hX : HX (cA ad N s.heap.size) s s.heap) (hN : NC s) (hW : hH D ad N E H) (hS : va_S (cA ad N s.heap.size) s.heap H locs) {Qc : (Nat → Prop) → Array Value → State → Outcome → State → Prop} (hM : ∀ sz, Met l y (Cond.codeWith y bytes maxL ret hh :: wsL_law) rm (va_Pc As (PN D tys ad N E sz)) (Qc (cA ad N sz)) mc ms (cA ad N sz)) (cw : vx_CSW R s args own index y bytes maxL ret hh (Cond.codeWith y bytes maxL ret hh :: wsL_law) rm mc ms n) (hn : As.length = n) (hsize : ls.size = nL) (hW8 : (rest.map fun v => v.category).sum ≤ 8) (hdg : decode cc pc = .ok (.invokestatic index, 3)) (hf : cells + mc ≤ R.cells ∧ slots + ms ≤ R.slots) :
    va_Run p l e R s m args below meth c H locs cells slots mc ms (F0 m pc ls (As.reverse ++ rest)) rest (Qc (cA ad N H.size) As.toArray) (cA ad N H.size) :=
  y_runSW B hT hX hN hW hS (σ := fun k => k) (fun k h => h) (fun _ _ => rfl) (fun _ _ => rfl) hM cw hn hsize hW8 hdg hf
/-- a call of one of the law's methods that call helpers -/
theorem b_runSN (B : MB p c cc nL own s m args D tys) (hT : TX s) (hX : HX (cA ad N s.heap.size) s s.heap) (hN : NC s) (hW : hH D ad N E H) (hS : va_S (cA ad N s.heap.size) s.heap H locs) {Qc : (Nat → Prop) → Array Value → State → Outcome → State → Prop} (hM : ∀ sz, Met l y (Cond.code y bytes maxL ret :: wsL_law) rm (va_Pc As (PN D tys ad N E sz)) (Qc (cA ad N sz)) mc ms (cA ad N sz)) (cw : CWS R s args own index y bytes maxL ret rm mc ms n) (hn : As.length = n) (hsize : ls.size = nL) (hW8 : (rest.map fun v => v.category).sum ≤ 8) (hdg : decode cc pc = .ok (.invokestatic index, 3)) (hf : cells + mc ≤ R.cells ∧ slots + ms ≤ R.slots) :
    va_Run p l e R s m args below meth c H locs cells slots mc ms (F0 m pc ls (As.reverse ++ rest)) rest (Qc (cA ad N H.size) As.toArray) (cA ad N H.size) :=
  va_runS ⟨B.1, B.2.1, B.2.2.1, B.2.2.2.1, B.2.2.2.2.1⟩ (hM H.size) cw ⟨PN.blind, fun U hU hU2 => ⟨rfl, PC.of B hT hX hW hS hU hU2, hN.go hU2.alike⟩⟩ rfl hn hsize rfl (lv_room hW8) hdg hf
theorem cw_recv {cI cZ cH cP cT : ClassId} {V T : Nat → Nat → Int32} {ag : Nat → Int32} {nP nH rN : Nat} {nf pn : Int32} {sp sk : Int64} {py pd : Nat → Nat → Int32} (B : MB p c cc nL own s m args D tys) (hW : hH D ad 109 E H) (hC : CW cI cZ cH cP cT ad V T ag nP nH rN nf pn sp sk py pd E) : ∃ cell : Cell, H[ad 0]? = some cell ∧ cell.vm.isStatics = false ∧ s.vm.findClass RX5 = some cell.cls := by
  obtain ⟨so, en, rA, rC, rI, aA, aC, aH, aT, aP, rfl, hInv⟩ := hC
  exact b_recv B hW (by decide) cE_0 rfl
end ROW35
section ENTRY35
variable {l : Launch} {y : MethodName} {cc : ByteArray} {maxL : Nat} {ret : Option FieldType} {rm : Room} {As : List Value} {D : va_G} {tys : List (ClassId × FieldType)} {ad : Nat → Nat} {N : Nat} {E : Nat → va_E} {mc ms : Nat}
theorem cn_of {own : String} {Qc : (Nat → Prop) → Array Value → State → Outcome → State → Prop} (ho : y.cls = own) (hy : plainName y.cls = true) (hL : (lg_sl As).length ≤ maxL)
    (body : ∀ (p : Program) (e : Env) (s : State) (m : MethodId) (args : Array Value) (below : List Frame) (meth : Method) (c : Code) (ls : Array Slot) (Q : State → Prop), MB p c cc maxL own s m args D tys → TX s → HX (cA ad N s.heap.size) s s.heap → NC s → hH D ad N E s.heap → meth.sig.returnType = ret → meth.locks = false → lv_has ls maxL (lv_args 0 As) → va_S (cA ad N s.heap.size) s.heap s.heap [] → (∀ k : Nat, k < N → cA ad N s.heap.size (ad k)) →
      Q = MQ below (Qc (cA ad N s.heap.size)) args s mc ms (cA ad N s.heap.size) → W p l e rm s m args below meth c s.heap [] 0 0 Q (F0 m 0 ls [])) (sz : Nat) :
    Met l y (Cond.code y cc maxL ret :: wsL_law) rm (va_Pc As (PN D tys ad N E sz)) (Qc (cA ad N sz)) mc ms (cA ad N sz) := by
  refine Met.ofW (cc := cc) (maxL := maxL) (ret := ret) hy rfl ?_
  intro p e s m args below meth c s₁ B hml hv
  obtain ⟨rfl, ⟨hsz, hW, hK, hT, hX⟩, hN⟩ := hv
  subst hsz
  have hts0 := atoms_spec (ws := Cond.code y cc maxL ret :: wsL_law) B.pre
  have hown : s.vm.findClass y.cls = some m.cls := findClass_of_methodNamed B.named
  rw [ho] at hown
  have hl := lv_entry As (n := maxL) hL
  rw [lg_entry_eq]
  generalize (lg_sl As ++ List.replicate (maxL - (lg_sl As).length) Slot.unset).toArray = ls at hl ⊢
  exact body p e s m _ below meth c ls _ ⟨B.exec, B.bytes, hml, hown, fun w h => hts0 w (List.mem_cons_of_mem _ h), hK⟩ hT hX hN hW B.returns B.notSynchronized hl va_S.rf (fun k hk => cA.in_ hk) rfl
/-! a method of the law that reads the script: no world, the script's array is given -/
def PXs (D : va_G) (tys : List (ClassId × FieldType)) (b L : Nat) (xs : Nat → Int32) (ad : Nat → Nat) (E : Nat → va_E) (sz : Nat) (U : State) : Prop := PC D tys ad 0 E sz U ∧ va_X b L xs U U.heap ∧ b < sz
theorem PXs.blind {b L : Nat} {xs : Nat → Int32} {sz : Nat} {E : Nat → va_E} : FrameBlind (va_Pc As (PXs D tys b L xs ad E sz)) := fun a U g mk q => by
  obtain ⟨q0, q1, q2, q3⟩ := q
  obtain ⟨_, h⟩ := PC.blind (As := As) a U g mk ⟨q0, q1⟩
  exact ⟨q0, h, va_X.moved (u := U) (U := U.calling g mk a) (Vm.Alike.refl U.vm) q2, q3⟩
theorem cs_of {own : String} {b L : Nat} {xs : Nat → Int32} {Qc : (Nat → Prop) → Array Value → State → Outcome → State → Prop} (ho : y.cls = own) (hy : plainName y.cls = true) (hL : (lg_sl As).length ≤ maxL)
    (body : ∀ (p : Program) (e : Env) (s : State) (m : MethodId) (args : Array Value) (below : List Frame) (meth : Method) (c : Code) (ls : Array Slot) (Q : State → Prop), MB p c cc maxL own s m args D tys → TX s → HX (cA ad 0 s.heap.size) s s.heap → va_X b L xs s s.heap → b < s.heap.size → ¬ cA ad 0 s.heap.size b → hH D ad 0 E s.heap → meth.sig.returnType = ret → meth.locks = false → lv_has ls maxL (lv_args 0 As) → va_S (cA ad 0 s.heap.size) s.heap s.heap [] →
      Q = MQ below (Qc (cA ad 0 s.heap.size)) args s mc ms (cA ad 0 s.heap.size) → W p l e rm s m args below meth c s.heap [] 0 0 Q (F0 m 0 ls [])) (sz : Nat) :
    Met l y (Cond.code y cc maxL ret :: wsL_law) rm (va_Pc As (PXs D tys b L xs ad E sz)) (Qc (cA ad 0 sz)) mc ms (cA ad 0 sz) := by
  refine Met.ofW (cc := cc) (maxL := maxL) (ret := ret) hy rfl ?_
  intro p e s m args below meth c s₁ B hml hv
  obtain ⟨rfl, ⟨hsz, hW, hK, hT, hX⟩, hXs, hbl⟩ := hv
  subst hsz
  have hts0 := atoms_spec (ws := Cond.code y cc maxL ret :: wsL_law) B.pre
  have hown : s.vm.findClass y.cls = some m.cls := findClass_of_methodNamed B.named
  rw [ho] at hown
  have hl := lv_entry As (n := maxL) hL
  rw [lg_entry_eq]
  generalize (lg_sl As ++ List.replicate (maxL - (lg_sl As).length) Slot.unset).toArray = ls at hl ⊢
  exact body p e s m _ below meth c ls _ ⟨B.exec, B.bytes, hml, hown, fun w h => hts0 w (List.mem_cons_of_mem _ h), hK⟩ hT hX hXs hbl (fun q => q.elim (fun ⟨k, hk, _⟩ => absurd hk (Nat.not_lt_zero k)) (fun h => absurd hbl (Nat.not_lt.mpr h))) hW B.returns B.notSynchronized hl va_S.rf rfl
end ENTRY35
section ROW35S
variable {p : Program} {l : Launch} {e : Env} {R : Room} {s : State} {m : MethodId} {args : Array Value} {below : List Frame} {meth : Method} {c : Code} {H : Heap} {locs : List Loc} {cells slots : Nat} {Q : State → Prop}
variable {cc : ByteArray} {pc nL : Nat} {own : String} {ls : Array Slot} {rest : List Value} {D : va_G} {tys : List (ClassId × FieldType)} {ad : Nat → Nat} {N : Nat} {E : Nat → va_E} {H0 : Heap} {A : Nat → Prop}
variable {y : MethodName} {bytes : ByteArray} {maxL mc ms n index : Nat} {ret : Option FieldType} {rm : Room} {As : List Value} {b L : Nat} {xs : Nat → Int32}
theorem PXs.of {U : State} (B : MB p c cc nL own s m args D tys) (hT : TX s) (hX : HX (cA ad N s.heap.size) s s.heap) (hXs : va_X b L xs s s.heap) (hbl : b < s.heap.size) (hbA : ¬ cA ad N s.heap.size b) (hS : va_S (cA ad N s.heap.size) s.heap H locs) (hU : U.heap = H) (hU2 : s.WarmedH U.vm) : PXs D tys b L xs ad E H.size U := by
  refine ⟨⟨by rw [hU], fun k hk => absurd hk (Nat.not_lt_zero k), va_K.moved hU2.alike B.2.2.2.2.2, hT.warm hU2, hX.go hS hU2.alike hU (fun q h => ?_)⟩, ?_, Nat.lt_of_lt_of_le hbl hS.1⟩
  · exact h.elim (fun ⟨k, hk, _⟩ => absurd hk (Nat.not_lt_zero k)) (fun h => Or.inr (Nat.le_trans hS.1 h))
  · rw [hU]
    exact (hXs.kept (hS.2.1 b hbl hbA)).moved hU2.alike
theorem b_runSX (B : MB p c cc nL own s m args D tys) (hT : TX s) (hX : HX (cA ad N s.heap.size) s s.heap) (hXs : va_X b L xs s s.heap) (hbl : b < s.heap.size) (hbA : ¬ cA ad N s.heap.size b) (hS : va_S (cA ad N s.heap.size) s.heap H locs) {Qc : (Nat → Prop) → Array Value → State → Outcome → State → Prop} (hM : ∀ sz, Met l y (Cond.code y bytes maxL ret :: wsL_law) rm (va_Pc As (PXs D tys b L xs ad E sz)) (Qc (cA ad 0 sz)) mc ms (cA ad 0 sz)) (cw : CWS R s args own index y bytes maxL ret rm mc ms n) (hn : As.length = n) (hsize : ls.size = nL) (hW8 : (rest.map fun v => v.category).sum ≤ 8) (hdg : decode cc pc = .ok (.invokestatic index, 3)) (hf : cells + mc ≤ R.cells ∧ slots + ms ≤ R.slots) :
    va_Run p l e R s m args below meth c H locs cells slots mc ms (F0 m pc ls (As.reverse ++ rest)) rest (Qc (cA ad 0 H.size) As.toArray) (cA ad 0 H.size) :=
  va_runS ⟨B.1, B.2.1, B.2.2.1, B.2.2.2.1, B.2.2.2.2.1⟩ (hM H.size) cw ⟨PXs.blind, fun U hU hU2 => ⟨rfl, PXs.of B hT hX hXs hbl hbA hS hU hU2⟩⟩ rfl hn hsize rfl (lv_room hW8) hdg hf
variable {post : Int32 → (Nat → va_E) → Prop} {av : Array Value} {st0 : List Value}
/-- a callee without a world: the caller's world stands -/
theorem b_ci0 (hr : va_Run p l e R s m args below meth c H locs cells slots mc ms (F0 m pc ls st0) rest (Qi D ad 0 post (cA ad 0 H.size) av) (cA ad 0 H.size)) (hW : hH D ad N E H) (hS : va_S (cA ad N s.heap.size) s.heap H locs)
    (kk : ∀ (r : Int32) (H1 : Heap) (locs1 : List Loc), (∃ E1, post r E1) → hH D ad N E H1 → va_S (cA ad N s.heap.size) s.heap H1 locs1 → W p l e R s m args below meth c H1 locs1 (cells + mc) (slots + ms) Q (F0 m (pc + 3) ls (.int r :: rest))) : W p l e R s m args below meth c H locs cells slots Q (F0 m pc ls st0) :=
  have h0 : ∀ q, cA ad 0 H.size q → cA ad N s.heap.size q := fun q h => h.elim (fun ⟨k, hk, _⟩ => absurd hk (Nat.not_lt_zero k)) (fun h => Or.inr (Nat.le_trans hS.1 h))
  va_calli hr hS (fun q _ h => h0 q h) (fun q h => h0 q h)
    (fun r u t H1 locs1 ht _ hw hB _ hf hS1 => kk r H1 locs1 ⟨u, hw⟩ (fun k hk => (hW k hk).kept (hf _ (hW.lt hk) (fun h => h.elim (fun ⟨j, hj, _⟩ => absurd hj (Nat.not_lt_zero j)) (fun h => absurd (hW.lt hk) (Nat.not_lt.mpr h))))) hS1)
end ROW35S
