/-! ===== the law's helpers: the table catches all that the office throws ===== -/
def ncs : List (String × String) := [(xISE, xIAE), (xIAE, xIOB), (xIAE, xNSE), (xNSE, xIOB), (xUOE, xNSE), (xNSE, xIAE)]
def NC (U : State) : Prop := ∀ q ∈ ncs, va_Nc q.1 q.2 U
theorem NC.go {u U : State} (hvm : u.vm.Alike U.vm) (h : NC u) : NC U := fun q hq => (h q hq).moved hvm
def PN (D : va_G) (tys : List (ClassId × FieldType)) (ad : Nat → Nat) (N : Nat) (E : Nat → va_E) (sz : Nat) (U : State) : Prop := PC D tys ad N E sz U ∧ NC U
theorem PN.blind {D : va_G} {tys : List (ClassId × FieldType)} {ad : Nat → Nat} {N : Nat} {E : Nat → va_E} {As : List Value} {sz : Nat} : FrameBlind (va_Pc As (PN D tys ad N E sz)) := fun a U g mk q => by
  obtain ⟨q0, q1, q2⟩ := q
  obtain ⟨_, h⟩ := PC.blind (As := As) a U g mk ⟨q0, q1⟩
  exact ⟨q0, h, NC.go (u := U) (U := U.calling g mk a) (Vm.Alike.refl U.vm) q2⟩
section HELP
variable {l : Launch} {y : MethodName} {cc : ByteArray} {maxL : Nat} {ret : Option FieldType} {rm : Room} {As : List Value} {D : va_G} {tys : List (ClassId × FieldType)} {ad : Nat → Nat} {N : Nat} {E : Nat → va_E} {mc ms : Nat} {hh : List (Nat × Nat × Nat × Nat)}
theorem Met.ofWH {ws ws' : List Cond} {Pc : Array Value → State → Prop} {Qc : Array Value → State → Outcome → State → Prop} {free : Addr → Prop} (hy : plainName y.cls = true) (hw : ws = Cond.codeWith y cc maxL ret hh :: ws')
    (body : ∀ p e s m args below meth c s₁, BodyLoose p l y (headSpec ws rm) cc maxL ret e s m args below meth c s₁ → c.maxLocals = maxL → Pc args s →
      W p l e (headSpec ws rm).room s m args below meth c s.heap [] 0 0 (MQ below Qc args s mc ms free) (entryFrame m args maxL)) : Met l y ws rm Pc Qc mc ms free := by
  refine MetFree.of_bodyS (code := cc) (maxLocals := maxL) (ret := ret) hy ?_ ?_
  · intro args s m h hn
    obtain ⟨m9, meth, c, hn9, h1, h2, h3, h4, -, h5, h6, -⟩ := Cond.codeWith_spec (atoms_spec (ws := ws) h _ (by rw [hw]; exact List.mem_cons_self))
    cases hn.symm.trans hn9
    exact ⟨meth, c, h1, h2, h3, h4, h5, h6⟩
  · intro p e s m args below meth c s₁ B hml hP _
    have hh0 : s₁.heap = s.heap := by rw [B.state]; rfl
    obtain ⟨t, a1, o, b1, b2, b3⟩ := body p e s m args below meth c s₁ B hml hP s₁ hh0 (Stand.of_body B)
    exact ⟨t, o, a1, b1, b2, b3⟩
theorem ch_of {own : String} {Qc : (Nat → Prop) → Array Value → State → Outcome → State → Prop} (ho : y.cls = own) (hy : plainName y.cls = true) (hL : (lg_sl As).length ≤ maxL)
    (body : ∀ (p : Program) (e : Env) (s : State) (m : MethodId) (args : Array Value) (below : List Frame) (meth : Method) (c : Code) (ls : Array Slot) (Q : State → Prop), MB p c cc maxL own s m args D tys → TX s → HX (cA ad N s.heap.size) s s.heap → NC s → hH D ad N E s.heap → meth.sig.returnType = ret → meth.locks = false → c.exceptionTable.toList = tableOf hh → lv_has ls maxL (lv_args 0 As) → va_S (cA ad N s.heap.size) s.heap s.heap [] → (∀ k : Nat, k < N → cA ad N s.heap.size (ad k)) →
      Q = MQ below (Qc (cA ad N s.heap.size)) args s mc ms (cA ad N s.heap.size) → W p l e rm s m args below meth c s.heap [] 0 0 Q (F0 m 0 ls [])) (sz : Nat) :
    Met l y (Cond.codeWith y cc maxL ret hh :: wsL_law) rm (va_Pc As (PN D tys ad N E sz)) (Qc (cA ad N sz)) mc ms (cA ad N sz) := by
  refine Met.ofWH (cc := cc) (maxL := maxL) (ret := ret) (hh := hh) hy rfl ?_
  intro p e s m args below meth c s₁ B hml hv
  obtain ⟨rfl, ⟨hsz, hW, hK, hT, hX⟩, hN⟩ := hv
  subst hsz
  have hts0 := atoms_spec (ws := Cond.codeWith y cc maxL ret hh :: wsL_law) B.pre
  have hown : s.vm.findClass y.cls = some m.cls := findClass_of_methodNamed B.named
  have htab := vx_table (x := y) B (hts0 _ List.mem_cons_self)
  rw [ho] at hown
  have hl := lv_entry As (n := maxL) hL
  rw [lg_entry_eq]
  generalize (lg_sl As ++ List.replicate (maxL - (lg_sl As).length) Slot.unset).toArray = ls at hl ⊢
  exact body p e s m _ below meth c ls _ ⟨B.exec, B.bytes, hml, hown, fun w h => hts0 w (List.mem_cons_of_mem _ h), hK⟩ hT hX hN hW B.returns B.notSynchronized htab hl va_S.rf (fun k hk => cA.in_ hk) rfl
end HELP
section HROW
variable {p : Program} {l : Launch} {e : Env} {R : Room} {s : State} {m : MethodId} {args : Array Value} {below : List Frame} {meth : Method} {c : Code} {H : Heap} {locs : List Loc} {cells slots : Nat} {Q : State → Prop}
variable {cc : ByteArray} {pc nL : Nat} {own : String} {ls : Array Slot} {rest : List Value} {D : va_G} {tys : List (ClassId × FieldType)} {ad : Nat → Nat} {N : Nat} {E : Nat → va_E} {A : Nat → Prop} {H0 : Heap}
theorem b_last (B : MB p c cc nL own s m args D tys) (hI : aI ad N) (hA : ∀ k : Nat, k < N → A (ad k)) (hW : hH D ad N E H) (hS : va_S A H0 H locs) {cJ : ClassId} (ht : tys[5]? = some (cJ, .long)) {k n j : Nat} {f : Nat → Int64} {i : Int32} {x : Int64} (hk : k < N) (he : E k = .inl (cJ, n, .inr (.inl f))) (hin : vp_in i n) (hj : i.toNatClampNeg = j) (hdg : decode cc pc = .ok (.lastore, 1))
    (kk : ∀ (H1 : Heap) (locs1 : List Loc), hH D ad N (va_up E k (.inl (cJ, n, .inr (.inl (vp_updL f j x))))) H1 → va_S A H0 H1 locs1 → W p l e R s m args below meth c H1 locs1 cells slots Q (F0 m (pc + 1) ls rest)) : W p l e R s m args below meth c H locs cells slots Q (F0 m pc ls (.long x :: .int i :: .ref (ad k) :: rest)) := by
  subst hj
  exact va_last B.1 B.2.1 B.2.2.2.2.2 hW.toP (wl_D hI hA) hS k 5 (by rw [wl_get hk, he]) ht hin hdg (fun H1 locs1 hP _ hS1 => kk H1 locs1 (hH.ofSet hP) hS1)
theorem b_dast (B : MB p c cc nL own s m args D tys) (hI : aI ad N) (hA : ∀ k : Nat, k < N → A (ad k)) (hW : hH D ad N E H) (hS : va_S A H0 H locs) {cF : ClassId} (ht : tys[6]? = some (cF, .double)) {k n j : Nat} {f : Nat → UInt64} {i : Int32} {x : UInt64} (hk : k < N) (he : E k = .inl (cF, n, .inr (.inr (.inr (.inl f))))) (hin : vp_in i n) (hj : i.toNatClampNeg = j) (hdg : decode cc pc = .ok (.dastore, 1))
    (kk : ∀ (H1 : Heap) (locs1 : List Loc), hH D ad N (va_up E k (.inl (cF, n, .inr (.inr (.inr (.inl (vf_upd f j x))))))) H1 → va_S A H0 H1 locs1 → W p l e R s m args below meth c H1 locs1 cells slots Q (F0 m (pc + 1) ls rest)) : W p l e R s m args below meth c H locs cells slots Q (F0 m pc ls (.double x :: .int i :: .ref (ad k) :: rest)) := by
  subst hj
  exact va_dast B.1 B.2.1 B.2.2.2.2.2 hW.toP (wl_D hI hA) hS k 6 (by rw [wl_get hk, he]) ht hin hdg (fun H1 locs1 hP _ hS1 => kk H1 locs1 (hH.ofSet hP) hS1)
/-- what is thrown is caught by the entry x of the table, those before it passed -/
theorem h_catch (B : MB p c cc nL own s m args D tys) (hT : TX s) (hN : NC s) {hh pre suf : List (Nat × Nat × Nat × Nat)} {a b h ct : Nat} {Ex : String} {ce : Cell} {q : Addr} (htab : c.exceptionTable.toList = tableOf hh) (hsp : hh = pre ++ (a, b, h, ct) :: suf)
    (hpre : ∀ z ∈ pre, z.2.2.2 ≠ 0 ∧ ∃ nm : String, Cond.classLink own z.2.2.2 nm ∈ wsL_law ∧ (Ex, nm) ∈ ncs) (hcov : (decide (a ≤ pc) && decide (pc < b)) = true) (h0 : ct ≠ 0) (hlink : Cond.classLink own ct Ex ∈ wsL_law) (hcast : Cond.castable Ex Ex ∈ nxw) (hcell : H[q]? = some ce) (hv : ce.vm = .none) (hcl : s.vm.findClass Ex = some ce.cls)
    (kk : W p l e R s m args below meth c H locs cells slots Q (F0 m h ls [.ref q])) : vx_W p l e R s m args below meth c H locs cells slots Q (F0 m pc ls rest) q := by
  refine vx_catch B.2.2.2.1 (tableOf pre) ⟨a, b, h, ct⟩ (tableOf suf) (by rw [htab, hsp]; simp [tableOf]) (fun z hz => ?_) hcov h0 (B.2.2.2.2.1 _ hlink) (va_Nw.use rfl (hT.1 _ hcast)) hcell hv hcl kk
  obtain ⟨z0, hz0, rfl⟩ := List.mem_map.mp hz
  obtain ⟨h1, nm, h2, h3⟩ := hpre z0 hz0
  exact Or.inr ⟨h1, nm, B.2.2.2.2.1 _ h2, hN _ h3⟩
end HROW
