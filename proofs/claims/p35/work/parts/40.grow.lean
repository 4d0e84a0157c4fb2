/-! ===== worlds that grow: what a constructor makes comes behind the cells that are there ===== -/
theorem wl_push {ad : Nat → Nat} {E : Nat → va_E} {N q : Nat} {e : va_E} : wl ad E N ++ [(q, e)] = wl (va_up ad N q) (va_up E N e) (N + 1) := by
  have h1 : (List.range N).map (fun k => (va_up ad N q k, va_up E N e k)) = (List.range N).map (fun k => (ad k, E k)) := List.map_congr_left (fun k hk => by
    have h : k ≠ N := Nat.ne_of_lt (List.mem_range.mp hk)
    rw [va_up_ne _ _ h, va_up_ne _ _ h])
  unfold wl
  rw [List.range_succ, List.map_append, h1, List.map_cons, List.map_nil, va_up_self, va_up_self]
theorem hH.ofP {D : va_G} {ad : Nat → Nat} {N : Nat} {E : Nat → va_E} {H : Heap} (h : va_P D cls7 (wl ad E N) H) : hH D ad N E H := fun _ hk => h _ _ (wl_get hk)
theorem aI.ofD {A : Nat → Prop} {ad : Nat → Nat} {N : Nat} {E : Nat → va_E} (h : va_D A (wl ad E N)) : aI ad N := fun i j hi hj e => h.1 i j _ _ (wl_get hi) (wl_get hj) e
theorem aA.ofD {A : Nat → Prop} {ad : Nat → Nat} {N : Nat} {E : Nat → va_E} (h : va_D A (wl ad E N)) : ∀ k : Nat, k < N → A (ad k) := fun k hk => h.2 k _ (wl_get hk)
theorem ra_eq {U : State} {c1 c2 : ClassId} {ty : FieldType} (h1 : va_RA U c1 ty) (h2 : va_RA U c2 ty) : c1 = c2 := by
  cases ty with
  | object C =>
    obtain ⟨_, _, _, _, _, a⟩ := h1
    obtain ⟨_, _, _, _, _, b⟩ := h2
    exact Option.some.inj (a.symm.trans b)
  | _ => exact Option.some.inj (Eq.trans (Eq.symm h1) h2)
/-- what is behind the row's end doesn't count -/
theorem arrV_ext {cA : ClassId} {n : Nat} {f g : Nat → Value} (h : ∀ j, j < n → f j = g j) : arrV cA n f = arrV cA n g := by
  unfold arrV
  have e : (fun j : Fin n => f j.val) = (fun j : Fin n => g j.val) := funext fun j => h j.val j.isLt
  rw [e]
theorem at_I {D : va_G} {q : Nat} {cA : ClassId} {n : Nat} {f g : Nat → Int32} {H : Heap} (h : va_at D cls7 (q, .inl (cA, n, .inl f)) H) (hfg : ∀ j, j < n → f j = g j) : va_at D cls7 (q, .inl (cA, n, .inl g)) H := by
  have h : H[q]? = some (vp_cell cA (n, .inl f)) := h
  show H[q]? = some (vp_cell cA (n, .inl g))
  rw [h, vp_cell_i, vp_cell_i, arrV_ext (fun j hj => by rw [hfg j hj])]
theorem at_Q {D : va_G} {q : Nat} {cA : ClassId} {n : Nat} {f g : Nat → Option Nat} {H : Heap} (h : va_at D cls7 (q, .inl (cA, n, .inr (.inr (.inr (.inr f))))) H) (hfg : ∀ j, j < n → f j = g j) : va_at D cls7 (q, .inl (cA, n, .inr (.inr (.inr (.inr g))))) H := by
  have h : H[q]? = some (vp_cell cA (n, .inr (.inr (.inr (.inr f))))) := h
  show H[q]? = some (vp_cell cA (n, .inr (.inr (.inr (.inr g)))))
  rw [h, vp_cell_q, vp_cell_q, arrV_ext (fun j hj => by rw [hfg j hj])]
/-- a constructor's end: N2 cells, the first of them the object itself -/
def Qg (D : va_G) (N2 a0 : Nat) (post : (Nat → Nat) → (Nat → va_E) → Prop) : (Nat → Prop) → Array Value → State → Outcome → State → Prop := fun A => va_Qv (S := (Nat → Nat) × (Nat → va_E)) (fun u => u.1 0 = a0 ∧ aI u.1 N2 ∧ (∀ k : Nat, k < N2 → A (u.1 k)) ∧ post u.1 u.2) (fun u t => hH D u.1 N2 u.2 t.heap) A
section GROW
variable {p : Program} {l : Launch} {e : Env} {R : Room} {s : State} {m : MethodId} {args : Array Value} {below : List Frame} {meth : Method} {c : Code} {H : Heap} {locs : List Loc} {cells slots : Nat} {Q : State → Prop}
variable {cc : ByteArray} {pc nL : Nat} {own : String} {ls : Array Slot} {rest : List Value} {D : va_G} {tys : List (ClassId × FieldType)} {ad : Nat → Nat} {N : Nat} {E : Nat → va_E} {A : Nat → Prop} {H0 : Heap}
theorem g_obj (B : MB p c cc nL own s m args D tys) {idx a : Nat} (hsize : ls.size = nL) (hlink : Cond.methodLink own idx objectInit ∈ wsL_law) (hdg : decode cc pc = .ok (.invokespecial idx, 3)) (hW8 : (rest.map fun v => v.category).sum + 12 ≤ R.locals) (hf : 1 ≤ R.frames)
    (kk : W p l e R s m args below meth c H locs cells slots Q (F0 m (pc + 3) ls rest)) : W p l e R s m args below meth c H locs cells slots Q (F0 m pc ls (.ref a :: rest)) :=
  W.objInit (g := F0 m pc ls (.ref a :: rest)) B.1 B.2.1 B.2.2.2.1 (B.2.2.2.2.1 _ hlink) (B.2.2.2.2.1 _ (r1_in _ (List.mem_of_getElem? (i := 7) rfl))) (B.2.2.2.2.1 _ (r1_in _ (List.mem_of_getElem? (i := 8) rfl))) rfl (by rw [B.2.2.1]; exact hsize) rfl hdg hf (by show 2 * 0 + _ + 12 ≤ _; omega) kk
theorem g_new (B : MB p c cc nL own s m args D tys) (hI : aI ad N) (hA : ∀ k : Nat, k < N → A (ad k)) (hAn : ∀ q : Nat, H0.size ≤ q → A q) (hW : hH D ad N E H) (hS : va_S A H0 H locs) {C : String} {T : u_T} {n ci index : Nat} (hin : ∀ w ∈ u_ws C T n, w ∈ wsL_law) (ty : Nat → FieldType) (hty : ∀ k, k < n → parseFieldDescriptor (T k).2.2.1 = some (ty k)) (hcl : Cond.classLink own index C ∈ wsL_law) (hinst : Cond.instantiable C n ∈ wsL_law) (hini : Cond.initialized C ∈ wsL_law) (hc : cls7[ci]? = some (C, T, n)) {fs : List Value} (hfs : ∀ j, j < n → defaultValue (ty j) = vp_V fs j) (hcells : cells + 1 ≤ R.cells) (hslots : slots + n ≤ R.slots) (hdg : decode cc pc = .ok (.new index, 3))
    (kk : ∀ (ad2 : Nat → Nat) (E2 : Nat → va_E) (H1 : Heap), (∀ k, k < N → ad2 k = ad k) → (∀ k, k < N → E2 k = E k) → E2 N = .inr (ci, fs) → aI ad2 (N + 1) → (∀ k : Nat, k < N + 1 → A (ad2 k)) → hH D ad2 (N + 1) E2 H1 → va_S A H0 H1 locs → W p l e R s m args below meth c H1 locs (cells + 1) (slots + n) Q (F0 m (pc + 3) ls (.ref (ad2 N) :: rest))) : W p l e R s m args below meth c H locs cells slots Q (F0 m pc ls rest) :=
  va_new B.1 B.2.1 (Ts := wsL_law) B.2.2.2.2.1 hin ty hty B.2.2.2.1 (B.2.2.2.2.1 _ hcl) (B.2.2.2.2.1 _ hinst) (B.2.2.2.2.1 _ hini) B.2.2.2.2.2 hW.toP (wl_D hI hA) hS hAn hc hfs hcells hslots hdg (fun q H1 hP hD hS1 => by
    rw [wl_push] at hP hD
    have z := kk (va_up ad N q) (va_up E N (.inr (ci, fs))) H1 (fun k hk => va_up_ne _ _ (Nat.ne_of_lt hk)) (fun k hk => va_up_ne _ _ (Nat.ne_of_lt hk)) (va_up_self _ _ _) (aI.ofD hD) (aA.ofD hD) (hH.ofP hP) hS1
    rw [va_up_self] at z
    exact z)
theorem g_newa (B : MB p c cc nL own s m args D tys) (hI : aI ad N) (hA : ∀ k : Nat, k < N → A (ad k)) (hAn : ∀ q : Nat, H0.size ≤ q → A q) (hW : hH D ad N E H) (hS : va_S A H0 H locs) {atype : ArrayType} {ty : FieldType} (hty : newarray.typeOf atype = ty) (harr : Cond.arrayClass ty ∈ wsL_law) (t : Nat) {cX : ClassId} (ht : tys[t]? = some (cX, ty)) {n : Int32} {N' : Nat} {a0 : vp_A} (ha : ∀ cA : ClassId, vp_cell cA a0 = arrV cA N' (fun _ => defaultValue ty)) (hn : ¬ n < 0) (hN : n.toNatClampNeg = N') (hbytes : N' * componentBytes ty ≤ 536870912) (hcells : cells + 1 ≤ R.cells) (hslots : slots + N' ≤ R.slots) (hdg : decode cc pc = .ok (.newarray atype, 2))
    (kk : ∀ (ad2 : Nat → Nat) (E2 : Nat → va_E) (H1 : Heap), (∀ k, k < N → ad2 k = ad k) → (∀ k, k < N → E2 k = E k) → E2 N = .inl (cX, a0) → aI ad2 (N + 1) → (∀ k : Nat, k < N + 1 → A (ad2 k)) → hH D ad2 (N + 1) E2 H1 → va_S A H0 H1 locs → W p l e R s m args below meth c H1 locs (cells + 1) (slots + N') Q (F0 m (pc + 2) ls (.ref (ad2 N) :: rest))) : W p l e R s m args below meth c H locs cells slots Q (F0 m pc ls (.int n :: rest)) :=
  va_newa B.1 B.2.1 (by rw [hty]; exact B.2.2.2.2.1 _ harr) hty B.2.2.2.2.2 hW.toP (wl_D hI hA) hS hAn ha hn hN hbytes hcells hslots hdg (fun q cA H1 hK hP hD hS1 => by
    have e1 : (tys ++ [(cA, ty)])[tys.length]? = some (cA, ty) := by simp
    have e2 : cA = cX := ra_eq (hK.2 _ _ e1).2 (B.2.2.2.2.2.2 _ _ ht).2
    subst e2
    rw [wl_push] at hP hD
    have z := kk (va_up ad N q) (va_up E N (.inl (cA, a0))) H1 (fun k hk => va_up_ne _ _ (Nat.ne_of_lt hk)) (fun k hk => va_up_ne _ _ (Nat.ne_of_lt hk)) (va_up_self _ _ _) (aI.ofD hD) (aA.ofD hD) (hH.ofP hP) hS1
    rw [va_up_self] at z
    exact z)
theorem g_newq (B : MB p c cc nL own s m args D tys) (hI : aI ad N) (hA : ∀ k : Nat, k < N → A (ad k)) (hAn : ∀ q : Nat, H0.size ≤ q → A q) (hW : hH D ad N E H) (hS : va_S A H0 H locs) {C : String} {index : Nat} (hcl : Cond.classLink own index C ∈ wsL_law) (hover : va_AO C s) (t : Nat) {cX : ClassId} (ht : tys[t]? = some (cX, .object C)) {n : Int32} {N' : Nat} (hn : ¬ n < 0) (hN : n.toNatClampNeg = N') (hbytes : N' * 4 ≤ 536870912) (hcells : cells + 1 ≤ R.cells) (hslots : slots + N' ≤ R.slots) (hdg : decode cc pc = .ok (.anewarray index, 3))
    (kk : ∀ (ad2 : Nat → Nat) (E2 : Nat → va_E) (H1 : Heap), (∀ k, k < N → ad2 k = ad k) → (∀ k, k < N → E2 k = E k) → E2 N = .inl (cX, N', .inr (.inr (.inr (.inr (fun _ => none))))) → aI ad2 (N + 1) → (∀ k : Nat, k < N + 1 → A (ad2 k)) → hH D ad2 (N + 1) E2 H1 → va_S A H0 H1 locs → W p l e R s m args below meth c H1 locs (cells + 1) (slots + N') Q (F0 m (pc + 3) ls (.ref (ad2 N) :: rest))) : W p l e R s m args below meth c H locs cells slots Q (F0 m pc ls (.int n :: rest)) :=
  va_newq B.1 B.2.1 B.2.2.2.1 (B.2.2.2.2.1 _ hcl) hover B.2.2.2.2.2 hW.toP (wl_D hI hA) hS hAn hn hN hbytes hcells hslots hdg (fun q cA H1 hK hP hD hS1 => by
    have e1 : (tys ++ [(cA, FieldType.object C)])[tys.length]? = some (cA, .object C) := by simp
    have e2 : cA = cX := ra_eq (hK.2 _ _ e1).2 (B.2.2.2.2.2.2 _ _ ht).2
    subst e2
    rw [wl_push] at hP hD
    have z := kk (va_up ad N q) (va_up E N (.inl (cA, N', .inr (.inr (.inr (.inr (fun _ => none))))))) H1 (fun k hk => va_up_ne _ _ (Nat.ne_of_lt hk)) (fun k hk => va_up_ne _ _ (Nat.ne_of_lt hk)) (va_up_self _ _ _) (aI.ofD hD) (aA.ofD hD) (hH.ofP hP) hS1
    rw [va_up_self] at z
    exact z)
/-- a final field, in the class's own constructor -/
theorem g_putF (B : MB p c cc nL own s m args D tys) (hnm0 : meth.name = "<init>") (hI : aI ad N) (hA : ∀ k : Nat, k < N → A (ad k)) (hW : hH D ad N E H) (hS : va_S A H0 H locs) {ref C : String} {T : u_T} {n ci index k : Nat} {fs : List Value} {v : Value} {ty : FieldType} (hin : ∀ w ∈ u_ws C T n, w ∈ wsL_law) (ty0 : Nat → FieldType) (hty : ∀ k, k < n → parseFieldDescriptor (T k).2.2.1 = some (ty0 k)) (hnm : ∀ a, a < n → ∀ b, b < n → a ≠ b → (T a).2.1 ≠ (T b).2.1) (hc : cls7[ci]? = some (C, T, n)) (f : Nat) (hf : f < n) (hlink : Cond.fieldLink own index ref (T f).2.1 (T f).2.2.1 ∈ wsL_law) (hsame : (T f).1 = ref) (hown2 : (T f).1 = own) (hfin : (T f).2.2.2 = true) (hd : parseFieldDescriptor (T f).2.2.1 = some ty) (hk : k < N) (he : E k = .inr (ci, fs)) (hl : f < fs.length) (hn : narrow ty v = v) (hfit : fits ty v = true) (hdg : decode cc pc = .ok (.putfield index, 3))
    (kk : ∀ (H1 : Heap) (locs1 : List Loc), hH D ad N (va_up E k (.inr (ci, fs.set f v))) H1 → va_S A H0 H1 locs1 → W p l e R s m args below meth c H1 locs1 cells slots Q (F0 m (pc + 3) ls rest)) : W p l e R s m args below meth c H locs cells slots Q (F0 m pc ls (v :: .ref (ad k) :: rest)) :=
  va_putF B.1 B.2.1 (Ts := wsL_law) B.2.2.2.2.1 hin ty0 hty hnm B.2.2.2.1 B.2.2.2.2.2 hW.toP (wl_D hI hA) hS k (by rw [wl_get hk, he]) hc f hf (B.2.2.2.2.1 _ hlink) (fun _ h => by rw [hsame] at h; exact h) hfin hnm0 hown2 hd hn hfit hl hdg (fun H1 locs1 hP _ hS1 => kk H1 locs1 (hH.ofSet hP) hS1)
theorem g_aast (B : MB p c cc nL own s m args D tys) (hI : aI ad N) (hA : ∀ k : Nat, k < N → A (ad k)) (hW : hH D ad N E H) (hS : va_S A H0 H locs) {cX : ClassId} {r : vw_C} (t : Nat) (ht : tys[t]? = some (cX, .object r.1)) {k k9 n j ci : Nat} {f : Nat → Option Nat} {vs : List Value} {i : Int32} (hk : k < N) (he : E k = .inl (cX, n, .inr (.inr (.inr (.inr f))))) (hk9 : k9 < N) (he9 : E k9 = .inr (ci, vs)) (hc : cls7[ci]? = some r) (hin : vp_in i n) (hj : i.toNatClampNeg = j) (hdg : decode cc pc = .ok (.aastore, 1))
    (kk : ∀ (H1 : Heap) (locs1 : List Loc), hH D ad N (va_up E k (.inl (cX, n, .inr (.inr (.inr (.inr (va_up f j (some (ad k9)))))))) ) H1 → va_S A H0 H1 locs1 → W p l e R s m args below meth c H1 locs1 cells slots Q (F0 m (pc + 1) ls rest)) : W p l e R s m args below meth c H locs cells slots Q (F0 m pc ls (.ref (ad k9) :: .int i :: .ref (ad k) :: rest)) := by
  subst hj
  exact va_astq B.1 B.2.1 B.2.2.2.2.2 hW.toP (wl_D hI hA) hS k t k9 ci (by rw [wl_get hk, he]) ht (by rw [wl_get hk9, he9]) hc hin hdg (fun H1 locs1 hP _ hS1 => kk H1 locs1 (hH.ofSet hP) hS1)
/-- a constructor's return -/
theorem e_g {N2 a0 mc ms : Nat} {post : (Nat → Nat) → (Nat → va_E) → Prop} (hQ : Q = MQ below (Qg D N2 a0 post A) args s mc ms A) (B : MB p c cc nL own s m args D tys) (hr : meth.sig.returnType = none) (hlk : meth.locks = false) (hS : va_S A s.heap H locs) (h0 : ad 0 = a0) (hI : aI ad N2) (hA : ∀ k : Nat, k < N2 → A (ad k)) (hW : hH D ad N2 E H) (hdg : decode cc pc = .ok (.return_, 1)) (hc : cells ≤ mc) (hs : slots ≤ ms) (hp : post ad E) : W p l e R s m args below meth c H locs cells slots Q (F0 m pc ls []) := by
  subst hQ
  exact W.widen hc hs (W.vret B.1 B.2.1 hr (fun t ht _ => ⟨⟨(ad, E), rfl, ⟨h0, hI, hA, hp⟩, show hH D ad N2 E t.heap from by rw [ht]; exact hW⟩, hS.F ht⟩) hS.2.2 hdg hlk)
variable {y : MethodName} {bytes : ByteArray} {maxL mc ms n index : Nat} {ret : Option FieldType} {rm : Room} {As : List Value} {C : String} {k o : Nat}
theorem PC.at1 {U : State} (B : MB p c cc nL own s m args D tys) (hT : TX s) (hX : HX A s s.heap) (hAn : ∀ q : Nat, s.heap.size ≤ q → A q) (hA : ∀ k : Nat, k < N → A (ad k)) (hW : hH D ad N E H) (hS : va_S A s.heap H locs) (ho : o < N) (hU : U.heap = H) (hU2 : s.WarmedH U.vm) : PC D tys (fun k => ad (o + k)) 1 (fun k => E (o + k)) H.size U :=
  ⟨by rw [hU], by rw [hU]; exact fun k hk => hW (o + k) (by omega), va_K.moved hU2.alike B.2.2.2.2.2, hT.warm hU2, hX.go hS hU2.alike hU (fun q h => h.elim (fun ⟨k, hk, e⟩ => by rw [← e]; exact hA _ (by omega)) (fun h2 => hAn q (Nat.le_trans hS.1 h2)))⟩
theorem g_runI (B : MB p c cc nL own s m args D tys) (hT : TX s) (hX : HX A s s.heap) (hAn : ∀ q : Nat, s.heap.size ≤ q → A q) (hA : ∀ k : Nat, k < N → A (ad k)) (hW : hH D ad N E H) (hS : va_S A s.heap H locs) (ho : o < N) {Qc : (Nat → Prop) → Array Value → State → Outcome → State → Prop} (hM : ∀ sz, Met l y (Cond.code y bytes maxL none :: wsL_law) rm (va_Pc (.ref (ad o) :: As) (PC D tys (fun k => ad (o + k)) 1 (fun k => E (o + k)) sz)) (Qc (cA (fun k => ad (o + k)) 1 sz)) mc ms (cA (fun k => ad (o + k)) 1 sz)) (cw : CallB R s args own index y bytes maxL none (Cond.code y bytes maxL none :: wsL_law) rm mc ms n ∧ y.name = "<init>" ∧ (Cond.instanceMethod y).before args s = true) (hn : As.length = n) (hsize : ls.size = nL) (hW8 : (rest.map fun v => v.category).sum ≤ 8) (hdg : decode cc pc = .ok (.invokespecial index, 3)) (hf : cells + mc ≤ R.cells ∧ slots + ms ≤ R.slots) :
    va_Run p l e R s m args below meth c H locs cells slots mc ms (F0 m pc ls (As.reverse ++ .ref (ad o) :: rest)) rest (Qc (cA (fun k => ad (o + k)) 1 H.size) (Value.ref (ad o) :: As).toArray) (cA (fun k => ad (o + k)) 1 H.size) :=
  va_runI ⟨B.1, B.2.1, B.2.2.1, B.2.2.2.1, B.2.2.2.2.1⟩ (hM H.size) cw ⟨PC.blind, fun U hU hU2 => ⟨rfl, PC.at1 B hT hX hAn hA hW hS ho hU hU2⟩⟩ rfl hn hsize rfl (lv_room hW8) hdg hf
theorem g_runIN {host : String} (B : MB p c cc nL own s m args D tys) (hT : TX s) (hX : HX A s s.heap) (hAn : ∀ q : Nat, s.heap.size ≤ q → A q) (hA : ∀ k : Nat, k < N → A (ad k)) (hW : hH D ad N E H) (hS : va_S A s.heap H locs) (ho : o < N) {Qc : (Nat → Prop) → Array Value → State → Outcome → State → Prop} (hM : ∀ sz, Met l y (Cond.code y bytes maxL none :: wsL_law) rm (va_Pc (.ref (ad o) :: As) (PC D tys (fun k => ad (o + k)) 1 (fun k => E (o + k)) sz)) (Qc (cA (fun k => ad (o + k)) 1 sz)) mc ms (cA (fun k => ad (o + k)) 1 sz)) (cw : va_CN R s args own index y host bytes maxL none (Cond.code y bytes maxL none :: wsL_law) rm mc ms n ∧ y.name = "<init>" ∧ (Cond.instanceMethod y).before args s = true) (hn : As.length = n) (hsize : ls.size = nL) (hW8 : (rest.map fun v => v.category).sum ≤ 8) (hdg : decode cc pc = .ok (.invokespecial index, 3)) (hf : cells + mc ≤ R.cells ∧ slots + ms ≤ R.slots) :
    va_Run p l e R s m args below meth c H locs cells slots mc ms (F0 m pc ls (As.reverse ++ .ref (ad o) :: rest)) rest (Qc (cA (fun k => ad (o + k)) 1 H.size) (Value.ref (ad o) :: As).toArray) (cA (fun k => ad (o + k)) 1 H.size) :=
  va_runIN ⟨B.1, B.2.1, B.2.2.1, B.2.2.2.1, B.2.2.2.2.1⟩ (hM H.size) cw ⟨PC.blind, fun U hU hU2 => ⟨rfl, PC.at1 B hT hX hAn hA hW hS ho hU hU2⟩⟩ rfl hn hsize rfl (lv_room hW8) hdg hf
/-- behind a constructor's call on the cell made last -/
theorem g_cv {N2 a0 : Nat} {post : (Nat → Nat) → (Nat → va_E) → Prop} {av : Array Value} {st0 : List Value} (hr : va_Run p l e R s m args below meth c H locs cells slots mc ms (F0 m pc ls st0) rest (Qg D N2 a0 post (cA (fun k => ad (o + k)) 1 H.size) av) (cA (fun k => ad (o + k)) 1 H.size)) (hI : aI ad N) (hA : ∀ k : Nat, k < N → A (ad k)) (hAn : ∀ q : Nat, s.heap.size ≤ q → A q) (hW : hH D ad N E H) (hS : va_S A s.heap H locs) (hN : N = o + 1) (ha0 : a0 = ad o)
    (kk : ∀ (ad2 : Nat → Nat) (E2 : Nat → va_E) (H1 : Heap) (locs1 : List Loc), (∀ k, k < N → ad2 k = ad k) → (∀ k, k < o → E2 k = E k) → post (fun k => ad2 (o + k)) (fun k => E2 (o + k)) → aI ad2 (o + N2) → (∀ k : Nat, k < o + N2 → A (ad2 k)) → hH D ad2 (o + N2) E2 H1 → va_S A s.heap H1 locs1 → W p l e R s m args below meth c H1 locs1 (cells + mc) (slots + ms) Q (F0 m (pc + 3) ls rest)) : W p l e R s m args below meth c H locs cells slots Q (F0 m pc ls st0) := by
  have hf : ∀ q : Nat, cA (fun k => ad (o + k)) 1 H.size q → A q := fun q h => h.elim (fun ⟨k, hk, e⟩ => by rw [← e]; exact hA _ (by omega)) (fun h2 => hAn q (Nat.le_trans hS.1 h2))
  refine va_callv hr hS (fun q _ h => hf q h) hf (fun u t H1 locs1 ht _ hw hB _ hk1 hS1 => ?_)
  obtain ⟨b, F⟩ := u
  obtain ⟨h0, hI2, hA2, hp⟩ := hw
  dsimp only at h0 hI2 hA2 hp hB
  have hB : hH D b N2 F H1 := by rw [ht] at hB; exact hB
  have hlow : ∀ k : Nat, k < o → ¬ cA (fun k => ad (o + k)) 1 H.size (ad k) := fun k hk h => h.elim (fun ⟨j, hj, e⟩ => absurd (hI _ _ (by omega) (by omega) e) (by omega)) (fun h2 => absurd (hW.lt (k := k) (by omega)) (Nat.not_lt.mpr h2))
  have e1 : (fun k => (fun j => if j < o then ad j else b (j - o)) (o + k)) = b := funext fun k => by
    show (if o + k < o then _ else _) = _
    rw [if_neg (by omega), Nat.add_sub_cancel_left]
  have e2 : (fun k => (fun j => if j < o then E j else F (j - o)) (o + k)) = F := funext fun k => by
    show (if o + k < o then _ else _) = _
    rw [if_neg (by omega), Nat.add_sub_cancel_left]
  refine kk (fun j => if j < o then ad j else b (j - o)) (fun j => if j < o then E j else F (j - o)) H1 locs1 (fun k hk => ?_) (fun k hk => if_pos hk) (by rw [e1, e2]; exact hp) (fun i j hi hj e => ?_) (fun k hk => ?_) (fun k hk => ?_) hS1
  · show (if k < o then _ else _) = _
    by_cases h : k < o
    · rw [if_pos h]
    · have : k = o := by omega
      subst this
      rw [if_neg h, Nat.sub_self, h0, ha0]
  · have e : (if i < o then ad i else b (i - o)) = (if j < o then ad j else b (j - o)) := e
    by_cases h1 : i < o
    · rw [if_pos h1] at e
      by_cases h2 : j < o
      · rw [if_pos h2] at e
        exact hI _ _ (by omega) (by omega) e
      · rw [if_neg h2] at e
        exact absurd (by rw [e]; exact hA2 _ (by omega)) (hlow i h1)
    · rw [if_neg h1] at e
      by_cases h2 : j < o
      · rw [if_pos h2] at e
        exact absurd (by rw [← e]; exact hA2 _ (by omega)) (hlow j h2)
      · rw [if_neg h2] at e
        have := hI2 _ _ (by omega) (by omega) e
        omega
  · show A (if k < o then _ else _)
    by_cases h : k < o
    · rw [if_pos h]; exact hA k (by omega)
    · rw [if_neg h]; exact hf _ (hA2 _ (by omega))
  · show va_at D cls7 (if k < o then ad k else b (k - o), if k < o then E k else F (k - o)) H1
    by_cases h : k < o
    · rw [if_pos h, if_pos h]
      exact (hW k (by omega)).kept (hk1 _ (hW.lt (by omega)) (hlow k h))
    · rw [if_neg h, if_neg h]
      exact hB _ (by omega)
/-- a call that makes nothing, out of a world that grows: of an object's method, of a static one -/
theorem g_runV (B : MB p c cc nL own s m args D tys) (hT : TX s) (hX : HX A s s.heap) (hAn : ∀ q : Nat, s.heap.size ≤ q → A q) (hA : ∀ k : Nat, k < N → A (ad k)) (hW : hH D ad N E H) (hS : va_S A s.heap H locs) {Qc : (Nat → Prop) → Array Value → State → Outcome → State → Prop} (hM : ∀ sz, Met l y (Cond.code y bytes maxL ret :: wsL_law) rm (va_Pc (.ref (ad k) :: As) (PC D tys ad N E sz)) (Qc (cA ad N sz)) mc ms (cA ad N sz)) (cw : CWV R s args own C index y bytes maxL ret rm mc ms n) (hr : ∃ cell : Cell, H[ad k]? = some cell ∧ cell.vm.isStatics = false ∧ s.vm.findClass C = some cell.cls) (hn : As.length = n) (hsize : ls.size = nL) (hW8 : (rest.map fun v => v.category).sum ≤ 8) (hdg : decode cc pc = .ok (.invokevirtual index, 3)) (hf : cells + mc ≤ R.cells ∧ slots + ms ≤ R.slots) :
    va_Run p l e R s m args below meth c H locs cells slots mc ms (F0 m pc ls (As.reverse ++ .ref (ad k) :: rest)) rest (Qc (cA ad N H.size) (Value.ref (ad k) :: As).toArray) (cA ad N H.size) :=
  va_runV ⟨B.1, B.2.1, B.2.2.1, B.2.2.2.1, B.2.2.2.2.1⟩ (hM H.size) cw ⟨PC.blind, hr, fun U hU hU2 => ⟨rfl, by rw [hU], by rw [hU]; exact hW, va_K.moved hU2.alike B.2.2.2.2.2, hT.warm hU2, hX.go hS hU2.alike hU (fun q h => h.elim (fun ⟨k, hk, e⟩ => by rw [← e]; exact hA _ hk) (fun h2 => hAn q (Nat.le_trans hS.1 h2)))⟩⟩ rfl hn hsize rfl (lv_room hW8) hdg hf
theorem g_runS (B : MB p c cc nL own s m args D tys) (hT : TX s) (hX : HX A s s.heap) (hAn : ∀ q : Nat, s.heap.size ≤ q → A q) (hA : ∀ k : Nat, k < N → A (ad k)) (hW : hH D ad N E H) (hS : va_S A s.heap H locs) {Qc : (Nat → Prop) → Array Value → State → Outcome → State → Prop} (hM : ∀ sz, Met l y (Cond.code y bytes maxL ret :: wsL_law) rm (va_Pc As (PC D tys ad N E sz)) (Qc (cA ad N sz)) mc ms (cA ad N sz)) (cw : CWS R s args own index y bytes maxL ret rm mc ms n) (hn : As.length = n) (hsize : ls.size = nL) (hW8 : (rest.map fun v => v.category).sum ≤ 8) (hdg : decode cc pc = .ok (.invokestatic index, 3)) (hf : cells + mc ≤ R.cells ∧ slots + ms ≤ R.slots) :
    va_Run p l e R s m args below meth c H locs cells slots mc ms (F0 m pc ls (As.reverse ++ rest)) rest (Qc (cA ad N H.size) As.toArray) (cA ad N H.size) :=
  va_runS ⟨B.1, B.2.1, B.2.2.1, B.2.2.2.1, B.2.2.2.2.1⟩ (hM H.size) cw ⟨PC.blind, fun U hU hU2 => ⟨rfl, by rw [hU], by rw [hU]; exact hW, va_K.moved hU2.alike B.2.2.2.2.2, hT.warm hU2, hX.go hS hU2.alike hU (fun q h => h.elim (fun ⟨k, hk, e⟩ => by rw [← e]; exact hA _ hk) (fun h2 => hAn q (Nat.le_trans hS.1 h2)))⟩⟩ rfl hn hsize rfl (lv_room hW8) hdg hf
theorem cA.inA (hA : ∀ k : Nat, k < N → A (ad k)) (hAn : ∀ q : Nat, s.heap.size ≤ q → A q) (hS : va_S A s.heap H locs) : ∀ q : Nat, cA ad N H.size q → A q := fun q h => h.elim (fun ⟨k, hk, e⟩ => by rw [← e]; exact hA _ hk) (fun h2 => hAn q (Nat.le_trans hS.1 h2))
theorem g_ci {post : Int32 → (Nat → va_E) → Prop} {av : Array Value} {st0 : List Value} (hr : va_Run p l e R s m args below meth c H locs cells slots mc ms (F0 m pc ls st0) rest (Qi D ad N post (cA ad N H.size) av) (cA ad N H.size)) (hA : ∀ k : Nat, k < N → A (ad k)) (hAn : ∀ q : Nat, s.heap.size ≤ q → A q) (hS : va_S A s.heap H locs)
    (kk : ∀ (r : Int32) (E1 : Nat → va_E) (H1 : Heap) (locs1 : List Loc), post r E1 → hH D ad N E1 H1 → va_S A s.heap H1 locs1 → W p l e R s m args below meth c H1 locs1 (cells + mc) (slots + ms) Q (F0 m (pc + 3) ls (.int r :: rest))) : W p l e R s m args below meth c H locs cells slots Q (F0 m pc ls st0) :=
  va_calli hr hS (fun q _ h => cA.inA hA hAn hS q h) (cA.inA hA hAn hS) (fun r u t H1 locs1 ht _ hw hB _ _ hS1 => kk r u H1 locs1 hw (by rw [ht] at hB; exact hB) hS1)
theorem g_cv0 {postv : (Nat → va_E) → Prop} {av : Array Value} {st0 : List Value} (hr : va_Run p l e R s m args below meth c H locs cells slots mc ms (F0 m pc ls st0) rest (Qv D ad N postv (cA ad N H.size) av) (cA ad N H.size)) (hA : ∀ k : Nat, k < N → A (ad k)) (hAn : ∀ q : Nat, s.heap.size ≤ q → A q) (hS : va_S A s.heap H locs)
    (kk : ∀ (E1 : Nat → va_E) (H1 : Heap) (locs1 : List Loc), postv E1 → hH D ad N E1 H1 → va_S A s.heap H1 locs1 → W p l e R s m args below meth c H1 locs1 (cells + mc) (slots + ms) Q (F0 m (pc + 3) ls rest)) : W p l e R s m args below meth c H locs cells slots Q (F0 m pc ls st0) :=
  va_callv hr hS (fun q _ h => cA.inA hA hAn hS q h) (cA.inA hA hAn hS) (fun u t H1 locs1 ht _ hw hB _ _ hS1 => kk u H1 locs1 hw (by rw [ht] at hB; exact hB) hS1)
end GROW
/-- a constructor's contract -/
theorem cg_of {l : Launch} {y : MethodName} {cc : ByteArray} {maxL : Nat} {rm : Room} {As : List Value} {D : va_G} {tys : List (ClassId × FieldType)} {ad : Nat → Nat} {E : Nat → va_E} {mc ms N2 : Nat} {post : (Nat → Nat) → (Nat → va_E) → Prop} {own : String} (ho : y.cls = own) (hy : plainName y.cls = true) (hy2 : y.name = "<init>") (hL : (lg_sl As).length ≤ maxL)
    (body : ∀ (p : Program) (e : Env) (s : State) (m : MethodId) (args : Array Value) (below : List Frame) (meth : Method) (c : Code) (ls : Array Slot) (Q : State → Prop) (A : Nat → Prop), MB p c cc maxL own s m args D tys → TX s → HX A s s.heap → hH D ad 1 E s.heap → meth.sig.returnType = none → meth.locks = false → meth.name = "<init>" → lv_has ls maxL (lv_args 0 As) → va_S A s.heap s.heap [] → aI ad 1 → (∀ k : Nat, k < 1 → A (ad k)) → (∀ q : Nat, s.heap.size ≤ q → A q) →
      Q = MQ below (Qg D N2 (ad 0) post A) args s mc ms A → W p l e rm s m args below meth c s.heap [] 0 0 Q (F0 m 0 ls [])) (sz : Nat) :
    Met l y (Cond.code y cc maxL none :: wsL_law) rm (va_Pc As (PC D tys ad 1 E sz)) (Qg D N2 (ad 0) post (cA ad 1 sz)) mc ms (cA ad 1 sz) :=
  cm_of (own := own) (Qc := Qg D N2 (ad 0) post) (ret := none) ho hy hL (fun p e s m args below meth c ls Q B hT hX hW hr hlk hnm hl hS hA hQ =>
    body p e s m args below meth c ls Q (cA ad 1 s.heap.size) B hT hX hW hr hlk (hnm.trans hy2) hl hS (fun i j hi hj _ => by omega) hA (fun q hq => Or.inr hq) hQ) sz
section GROW2
variable {p : Program} {l : Launch} {e : Env} {R : Room} {s : State} {m : MethodId} {args : Array Value} {below : List Frame} {meth : Method} {c : Code} {H : Heap} {locs : List Loc} {cells slots : Nat} {Q : State → Prop}
variable {cc : ByteArray} {pc nL : Nat} {own : String} {ls : Array Slot} {rest : List Value} {D : va_G} {tys : List (ClassId × FieldType)} {ad : Nat → Nat} {N : Nat} {E : Nat → va_E} {A : Nat → Prop} {H0 : Heap}
theorem b_alen (B : MB p c cc nL own s m args D tys) (hW : hH D ad N E H) (t : Nat) {cX : ClassId} {ty : FieldType} (ht : tys[t]? = some (cX, ty)) {k : Nat} {x : vp_A} {v : Int32} (hk : k < N) (he : E k = .inl (cX, x)) (hv : Int32.ofNat x.1 = v) (hdg : decode cc pc = .ok (.arraylength, 1))
    (kk : W p l e R s m args below meth c H locs cells slots Q (F0 m (pc + 1) ls (.int v :: rest))) : W p l e R s m args below meth c H locs cells slots Q (F0 m pc ls (.ref (ad k) :: rest)) :=
  va_alen B.1 B.2.1 B.2.2.2.2.2 (hW.one hk he) 0 t rfl ht hv hdg kk
/-- an update, told by its facts -/
theorem up_facts {E2 : Nat → va_E} {k : Nat} {e : va_E} (h : E2 = va_up E k e) : E2 k = e ∧ ∀ j : Nat, j ≠ k → E2 j = E j := ⟨by rw [h, va_up_self], fun j hj => by rw [h, va_up_ne _ _ hj]⟩
end GROW2
