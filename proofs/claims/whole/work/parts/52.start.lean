theorem ciL_115 {R : Room} {s : State} {args : Array Value} {rm : Room} (hts : ∀ w ∈ wsL_law, w.before args s = true) (hR : rm.frames + 1 ≤ R.frames ∧ 8 + (2 + 11) + rm.locals ≤ R.locals) : CallB R s args RL 115 yX5_init cX5_init 2 none (Cond.code yX5_init cX5_init 2 none :: wsL_law) rm rm.cells rm.slots 0 ∧ yX5_init.name = "<init>" ∧ (Cond.instanceMethod yX5_init).before args s = true :=
  cwI 0 hts (gi_self (r1_in _ (List.mem_of_getElem? (i := 10) rfl))) rfl rfl rfl (hts _ (r1_in _ (List.mem_of_getElem? (i := 2) rfl))) (hts _ (r1_in _ (List.mem_of_getElem? (i := 8) rfl))) (hts _ (r1_in _ (List.mem_of_getElem? (i := 9) rfl))) rfl (by decide +kernel) hR
theorem ciL_118 {R : Room} {s : State} {args : Array Value} {rm : Room} (hts : ∀ w ∈ wsL_law, w.before args s = true) (hR : rm.frames + 1 ≤ R.frames ∧ 8 + (3 + 11) + rm.locals ≤ R.locals) : CallB R s args RL 118 yX6_init cX6_init 3 none (Cond.code yX6_init cX6_init 3 none :: wsL_law) rm rm.cells rm.slots 0 ∧ yX6_init.name = "<init>" ∧ (Cond.instanceMethod yX6_init).before args s = true :=
  cwI 0 hts (gi_self (r5_in _ (List.mem_of_getElem? (i := 1) rfl))) rfl rfl rfl (hts _ (r1_in _ (List.mem_of_getElem? (i := 5) rfl))) (hts _ (r4_in _ (List.mem_of_getElem? (i := 23) rfl))) (hts _ (r5_in _ (List.mem_of_getElem? (i := 0) rfl))) rfl (by decide +kernel) hR
section GRA
variable {p : Program} {l : Launch} {e : Env} {R : Room} {s : State} {m : MethodId} {args : Array Value} {below : List Frame} {meth : Method} {c : Code} {H : Heap} {locs : List Loc} {cells slots : Nat} {Q : State → Prop}
variable {cc : ByteArray} {pc nL : Nat} {own : String} {ls : Array Slot} {rest : List Value} {D : va_G} {tys : List (ClassId × FieldType)} {ad : Nat → Nat} {N : Nat} {E : Nat → va_E} {A : Nat → Prop}
variable {y : MethodName} {bytes : ByteArray} {maxL mc ms n index : Nat} {rm : Room} {As : List Value} {o : Nat}
theorem g_runIA (B : MB p c cc nL own s m args D tys) (hAO : AO3 s) (hT : TX s) (hX : HX A s s.heap) (hAn : ∀ q : Nat, s.heap.size ≤ q → A q) (hA : ∀ k : Nat, k < N → A (ad k)) (hW : hH D ad N E H) (hS : va_S A s.heap H locs) (ho : o < N) {Qc : (Nat → Prop) → Array Value → State → Outcome → State → Prop} (hM : ∀ sz, Met l y (Cond.code y bytes maxL none :: wsL_law) rm (va_Pc (.ref (ad o) :: As) (PA D tys (fun k => ad (o + k)) (fun k => E (o + k)) sz)) (Qc (cA (fun k => ad (o + k)) 1 sz)) mc ms (cA (fun k => ad (o + k)) 1 sz)) (cw : CallB R s args own index y bytes maxL none (Cond.code y bytes maxL none :: wsL_law) rm mc ms n ∧ y.name = "<init>" ∧ (Cond.instanceMethod y).before args s = true) (hn : As.length = n) (hsize : ls.size = nL) (hW8 : (rest.map fun v => v.category).sum ≤ 8) (hdg : decode cc pc = .ok (.invokespecial index, 3)) (hf : cells + mc ≤ R.cells ∧ slots + ms ≤ R.slots) :
    va_Run p l e R s m args below meth c H locs cells slots mc ms (F0 m pc ls (As.reverse ++ .ref (ad o) :: rest)) rest (Qc (cA (fun k => ad (o + k)) 1 H.size) (Value.ref (ad o) :: As).toArray) (cA (fun k => ad (o + k)) 1 H.size) :=
  va_runI ⟨B.1, B.2.1, B.2.2.1, B.2.2.2.1, B.2.2.2.2.1⟩ (hM H.size) cw ⟨PA.blind, fun U hU hU2 => ⟨rfl, PC.at1 B hT hX hAn hA hW hS ho hU hU2, hAO.moved hU2.alike⟩⟩ rfl hn hsize rfl (lv_room hW8) hdg hf
end GRA
set_option maxHeartbeats 4000000 in
set_option maxRecDepth 100000 in
/-- the law, from its entry -/
theorem whole_start {p : Program} {e : Env} {s : State} {m : MethodId} {below : List Frame} {meth : Method} {c : Code} (l : Launch) (hflags : l.flags = flags0) {b L : Nat} {xs : Nat → Int32} (hL : L ≤ 2048) (C0 : lw_At p s m meth c b L xs) : W p l e room_1 s m #[Value.ref b] below meth c s.heap [] 0 0 (lw_Z below #[Value.ref b] s) (entryFrame m ([Value.ref b] : List Value).toArray 9) := by
  obtain ⟨hx, hb, hr, hml, hown, htt, hXs, hbl, hlk, hgv⟩ := C0
  have hg := flat_of_before _ hgv
  have hlf : l.stackTraces = false := by
    unfold Launch.stackTraces
    rw [hflags]
    decide +kernel
  obtain ⟨D, cI, cZ, cH, cP, cT, cJ, cF, hK⟩ := st_K htt
  have B : MB p c cL_law 9 RL s m #[Value.ref b] D [(cI, .int), (cZ, .boolean), (cH, .object RX1), (cP, .object RX2), (cT, .object RX4), (cJ, .long), (cF, .double)] := ⟨hx, hb, hml, hown, fun w hw => htt w (wsL_tbl w hw), hK⟩
  have hT : TX s := st_T htt hg
  have hN : NC s := st_N hg
  have hAO : AO3 s := st_AO htt
  have hX : HX (fun q => s.heap.size ≤ q) s s.heap := st_X htt hg (fun a ha => Nat.not_le.mpr ha)
  have hAn : ∀ q : Nat, s.heap.size ≤ q → (fun q => s.heap.size ≤ q) q := fun q h => h
  have hS : va_S (fun q => s.heap.size ≤ q) s.heap s.heap [] := va_S.rf
  have hl := lv_entry ([.ref b]) (n := 9) (Nat.le_of_ble_eq_true rfl)
  rw [lg_entry_eq]
  generalize (lg_sl ([.ref b]) ++ List.replicate (9 - (lg_sl ([.ref b])).length) Slot.unset).toArray = ls at hl ⊢
  have hl : lv_has ls 9 [(0, .ref b)] := hl
  refine g_new (ci := 5) (ad := fun _ => 0) (E := fun _ => .inl (cI, 0, .inl (fun _ => 0))) (N := 0) B (fun i j hi => absurd hi (Nat.not_lt_zero _)) (fun k hk => absurd hk (Nat.not_lt_zero _)) hAn (fun k hk => absurd hk (Nat.not_lt_zero _)) hS inlX5 tyX5 tyX5_ok (r1_in _ (List.mem_of_getElem? (i := 0) rfl)) (r1_in _ (List.mem_of_getElem? (i := 1) rfl)) (r1_in _ (List.mem_of_getElem? (i := 2) rfl)) (fs := [.null, .null, .null, .int 0, .int 0, .null, .int 0, .int 0, .int 0, .long 0, .long 0, .null, .null, .null]) rfl (fun j hj => by rcases (show j = 0 ∨ j = 1 ∨ j = 2 ∨ j = 3 ∨ j = 4 ∨ j = 5 ∨ j = 6 ∨ j = 7 ∨ j = 8 ∨ j = 9 ∨ j = 10 ∨ j = 11 ∨ j = 12 ∨ j = 13 by omega) with rfl | rfl | rfl | rfl | rfl | rfl | rfl | rfl | rfl | rfl | rfl | rfl | rfl | rfl <;> rfl) (Nat.le_of_ble_eq_true rfl) (Nat.le_of_ble_eq_true rfl) dL_law_0 (fun ad E H ha hE h_0 hI hA hW hS => ?_)
  refine lv_dup hx hb dL_law_3 rfl ?_
  refine g_cv (g_runIA (As := []) (rest := [.ref (ad 0)]) B hAO hT hX hAn hA hW hS (o := 0) (by omega) (fun sz => ct_off rfl rfl rfl rfl rfl (ad := fun k => ad (0 + k)) (E := fun k => E (0 + k)) h_0 sz) (ciL_115 B.2.2.2.2.1 ⟨Nat.le_of_ble_eq_true rfl, Nat.le_of_ble_eq_true rfl⟩) rfl hl.1 (Nat.le_of_ble_eq_true rfl) dL_law_4 ⟨Nat.le_of_ble_eq_true rfl, Nat.le_of_ble_eq_true rfl⟩) hI hA hAn hW hS rfl rfl (fun ad E H locs ha hE hoff hI hA hW hS => ?_)
  have e1 : (fun k => ad (0 + k)) = ad := funext fun k => by rw [Nat.zero_add]
  have e2 : (fun k => E (0 + k)) = E := funext fun k => by rw [Nat.zero_add]
  rw [e1, e2] at hoff
  rw [← ha 0 (by omega)]
  have hI : aI ad 109 := hI
  have hA : ∀ k : Nat, k < 109 → s.heap.size ≤ ad k := hA
  have hW : hH D ad 109 E H := hW
  refine lv_astore_n (lv' := [(1, .ref (ad 0)), (0, .ref b)]) hx hb dL_law_7 rfl hl (by decide) rfl (fun ls hl => ?_)
  refine g_new (ci := 6) B hI hA hAn hW hS inlX6 tyX6 tyX6_ok (r1_in _ (List.mem_of_getElem? (i := 3) rfl)) (r1_in _ (List.mem_of_getElem? (i := 4) rfl)) (r1_in _ (List.mem_of_getElem? (i := 5) rfl)) (fs := [.int 0, .int 0, .int 0, .int 0, .int 0, .int 0, .long 0, .long 0, .null, .null, .null, .null, .null, .null, .null, .null, .null, .null, .null, .null, .int 0, .int 0, .int 0, .int 0, .int 0, .int 0, .int 0, .int 0]) rfl (fun j hj => by rcases (show j = 0 ∨ j = 1 ∨ j = 2 ∨ j = 3 ∨ j = 4 ∨ j = 5 ∨ j = 6 ∨ j = 7 ∨ j = 8 ∨ j = 9 ∨ j = 10 ∨ j = 11 ∨ j = 12 ∨ j = 13 ∨ j = 14 ∨ j = 15 ∨ j = 16 ∨ j = 17 ∨ j = 18 ∨ j = 19 ∨ j = 20 ∨ j = 21 ∨ j = 22 ∨ j = 23 ∨ j = 24 ∨ j = 25 ∨ j = 26 ∨ j = 27 by omega) with rfl | rfl | rfl | rfl | rfl | rfl | rfl | rfl | rfl | rfl | rfl | rfl | rfl | rfl | rfl | rfl | rfl | rfl | rfl | rfl | rfl | rfl | rfl | rfl | rfl | rfl | rfl | rfl <;> rfl) (Nat.le_of_ble_eq_true rfl) (Nat.le_of_ble_eq_true rfl) dL_law_8 (fun ad E H ha hE h_0 hI hA hW hS => ?_)
  have hoff := offQ.cong ha hE hoff
  rw [← ha 0 (by omega)] at hl
  refine lv_dup hx hb dL_law_11 rfl ?_
  refine g_cv (g_runI (As := []) (rest := [.ref (ad 109)]) B hT hX hAn hA hW hS (o := 109) (by omega) (fun sz => ct_mod rfl rfl (ad := fun k => ad (109 + k)) (E := fun k => E (109 + k)) h_0 sz) (ciL_118 B.2.2.2.2.1 ⟨Nat.le_of_ble_eq_true rfl, Nat.le_of_ble_eq_true rfl⟩) rfl hl.1 (Nat.le_of_ble_eq_true rfl) dL_law_12 ⟨Nat.le_of_ble_eq_true rfl, Nat.le_of_ble_eq_true rfl⟩) hI hA hAn hW hS rfl rfl (fun ad E H locs ha hE hmod hI hA hW hS => ?_)
  have hoff := offQ.cong (fun k hk => ha k (by omega)) hE hoff
  rw [← ha 0 (by omega)] at hl
  rw [← ha 109 (by omega)]
  have hI : aI ad 122 := hI
  have hA : ∀ k : Nat, k < 122 → s.heap.size ≤ ad k := hA
  have hW : hH D ad 122 E H := hW
  refine lv_astore_n (lv' := [(2, .ref (ad 109)), (1, .ref (ad 0)), (0, .ref b)]) hx hb dL_law_15 rfl hl (by decide) rfl (fun ls hl => ?_)
  refine lv_iconst (v := 1) hx hb dL_law_16 (by decide) ?_
  refine g_newa B hI hA hAn hW hS (atype := .long) (ty := .long) rfl (r1_in _ (List.mem_of_getElem? (i := 6) rfl)) 5 rfl (N' := 1) (a0 := (1, .inr (.inl (fun _ => 0)))) (fun _ => rfl) (by decide) (by decide) (Nat.le_of_ble_eq_true rfl) (Nat.le_of_ble_eq_true rfl) (Nat.le_of_ble_eq_true rfl) dL_law_17 (fun ad E H ha hE h122 hI hA hW hS => ?_)
  have hoff := offQ.cong (fun k hk => ha k (by omega)) (fun k hk => hE k (by omega)) hoff
  have hmod := modQ.cong (ad2 := fun k => ad (109 + k)) (E2 := fun k => E (109 + k)) (fun k hk => ha _ (by omega)) (fun k hk => hE _ (by omega)) hmod
  rw [← ha 0 (by omega), ← ha 109 (by omega)] at hl
  refine lv_astore_n (lv' := [(3, .ref (ad 122)), (2, .ref (ad 109)), (1, .ref (ad 0)), (0, .ref b)]) hx hb dL_law_19 rfl hl (by decide) rfl (fun ls hl => ?_)
  refine lv_iconst (v := 1) hx hb dL_law_20 (by decide) ?_
  refine g_newa B hI hA hAn hW hS (atype := .double) (ty := .double) rfl (r1_in _ (List.mem_of_getElem? (i := 7) rfl)) 6 rfl (N' := 1) (a0 := (1, .inr (.inr (.inr (.inl (fun _ => 0)))))) (fun _ => rfl) (by decide) (by decide) (Nat.le_of_ble_eq_true rfl) (Nat.le_of_ble_eq_true rfl) (Nat.le_of_ble_eq_true rfl) dL_law_21 (fun ad E H ha hE h123 hI hA hW hS => ?_)
  have hoff := offQ.cong (fun k hk => ha k (by omega)) (fun k hk => hE k (by omega)) hoff
  have hmod := modQ.cong (ad2 := fun k => ad (109 + k)) (E2 := fun k => E (109 + k)) (fun k hk => ha _ (by omega)) (fun k hk => hE _ (by omega)) hmod
  have h122 := (hE 122 (by omega)).trans h122
  rw [← ha 0 (by omega), ← ha 109 (by omega), ← ha 122 (by omega)] at hl
  refine lv_astore (lv' := [(4, .ref (ad 123)), (3, .ref (ad 122)), (2, .ref (ad 109)), (1, .ref (ad 0)), (0, .ref b)]) hx hb dL_law_23 hl (by decide) rfl (fun ls hl => ?_)
  refine lv_iconst (v := nI 0) hx hb dL_law_25 (by decide) ?_
  refine lv_istore (lv' := [(5, .int (nI 0)), (4, .ref (ad 123)), (3, .ref (ad 122)), (2, .ref (ad 109)), (1, .ref (ad 0)), (0, .ref b)]) hx hb dL_law_26 hl (by decide) rfl (fun ls hl => ?_)
  have hI : aI ad 124 := hI
  have hA : ∀ k : Nat, k < 124 → s.heap.size ≤ ad k := hA
  have hW : hH D ad 124 E H := hW
  obtain ⟨Ec, Em, hC, hM, hW⟩ := st_world (cJ := cJ) (cF := cF) hoff hmod h122 h123 hW
  have hge : ∀ k, k < 124 → s.heap.size ≤ (fun k => ad (tau k)) k := fun k hk => hA _ (tau_lt k hk)
  have hcA : ∀ q : Nat, cA (fun k => ad (tau k)) 124 s.heap.size q → s.heap.size ≤ q := fun q h => h.elim (fun ⟨k, hk, ek⟩ => by rw [← ek]; exact hge k hk) id
  have hLC : LC p l s m #[Value.ref b] c D (fun k => ad (tau k)) cI cZ cH cP cT cJ cF b L xs := ⟨B, ⟨hlf, hT, hN, HX.go (s := s) (U := s) (locs := []) hX va_S.rf (Vm.Alike.refl s.vm) rfl hcA, fun i j hi hj eij => tau_inj i hi j hj (hI _ _ (tau_lt i hi) (tau_lt j hj) eij)⟩, hXs, hbl, fun q => absurd (hcA b q) (Nat.not_le.mpr hbl), hL⟩
  refine W.widen (k := 124 + 8 * 0) (n := 39652 + 48 * 0) (Nat.le_of_ble_eq_true rfl) (Nat.le_of_ble_eq_true rfl) ?_
  exact law_loop hLC hr hlk hge (L + 1) 0 (by omega) (by omega) _ _ _ _ _ _ _ _ _ _ _ _ _ _ _ _ _ _ _ _ hC hM hW ⟨hS.1, fun q h1 h2 => hS.2.1 q h1 (fun h3 => h2 (Or.inr h3)), fun l hl => Or.inr (hS.2.2 l hl)⟩ (lv_sub hl [5, 4, 3, 2, 1, 0] rfl)
