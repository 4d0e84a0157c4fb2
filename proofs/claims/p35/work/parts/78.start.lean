theorem ciL_122 {R : Room} {s : State} {args : Array Value} {rm : Room} (hts : ∀ w ∈ wsL_law, w.before args s = true) (hR : rm.frames + 1 ≤ R.frames ∧ 8 + (2 + 11) + rm.locals ≤ R.locals) : CallB R s args RL 122 yX5_init cX5_init 2 none (Cond.code yX5_init cX5_init 2 none :: wsL_law) rm rm.cells rm.slots 0 ∧ yX5_init.name = "<init>" ∧ (Cond.instanceMethod yX5_init).before args s = true :=
  cwI 0 hts (gi_self (r1_in _ (List.mem_of_getElem? (i := 5) rfl))) rfl rfl rfl (hts _ (r1_in _ (List.mem_of_getElem? (i := 2) rfl))) (hts _ (r1_in _ (List.mem_of_getElem? (i := 3) rfl))) (hts _ (r1_in _ (List.mem_of_getElem? (i := 4) rfl))) rfl (by decide +kernel) hR
section GRA
variable {p : Program} {l : Launch} {e : Env} {R : Room} {s : State} {m : MethodId} {args : Array Value} {below : List Frame} {meth : Method} {c : Code} {H : Heap} {locs : List Loc} {cells slots : Nat} {Q : State → Prop}
variable {cc : ByteArray} {pc nL : Nat} {own : String} {ls : Array Slot} {rest : List Value} {D : va_G} {tys : List (ClassId × FieldType)} {ad : Nat → Nat} {N : Nat} {E : Nat → va_E} {A : Nat → Prop}
variable {y : MethodName} {bytes : ByteArray} {maxL mc ms n index : Nat} {rm : Room} {As : List Value} {o : Nat}
theorem g_runIA (B : MB p c cc nL own s m args D tys) (hAO : AO3 s) (hT : TX s) (hX : HX A s s.heap) (hAn : ∀ q : Nat, s.heap.size ≤ q → A q) (hA : ∀ k : Nat, k < N → A (ad k)) (hW : hH D ad N E H) (hS : va_S A s.heap H locs) (ho : o < N) {Qc : (Nat → Prop) → Array Value → State → Outcome → State → Prop} (hM : ∀ sz, Met l y (Cond.code y bytes maxL none :: wsL_law) rm (va_Pc (.ref (ad o) :: As) (PA D tys (fun k => ad (o + k)) (fun k => E (o + k)) sz)) (Qc (cA (fun k => ad (o + k)) 1 sz)) mc ms (cA (fun k => ad (o + k)) 1 sz)) (cw : CallB R s args own index y bytes maxL none (Cond.code y bytes maxL none :: wsL_law) rm mc ms n ∧ y.name = "<init>" ∧ (Cond.instanceMethod y).before args s = true) (hn : As.length = n) (hsize : ls.size = nL) (hW8 : (rest.map fun v => v.category).sum ≤ 8) (hdg : decode cc pc = .ok (.invokespecial index, 3)) (hf : cells + mc ≤ R.cells ∧ slots + ms ≤ R.slots) :
    va_Run p l e R s m args below meth c H locs cells slots mc ms (F0 m pc ls (As.reverse ++ .ref (ad o) :: rest)) rest (Qc (cA (fun k => ad (o + k)) 1 H.size) (Value.ref (ad o) :: As).toArray) (cA (fun k => ad (o + k)) 1 H.size) :=
  va_runI ⟨B.1, B.2.1, B.2.2.1, B.2.2.2.1, B.2.2.2.2.1⟩ (hM H.size) cw ⟨PA.blind, fun U hU hU2 => ⟨rfl, PC.at1 B hT hX hAn hA hW hS ho hU hU2, hAO.moved hU2.alike⟩⟩ rfl hn hsize rfl (lv_room hW8) hdg hf
end GRA
set_option maxHeartbeats 4000000 in
set_option maxRecDepth 100000 in
theorem lm_end {p : Program} {l : Launch} {e : Env} {s : State} {m : MethodId} {below : List Frame} {meth : Method} {c : Code} {D : va_G} {ad : Nat → Nat} {cI cZ cH cP cT cJ cF : ClassId} {b L : Nat} {xs : Nat → Int32} (C : LC35 p l s m #[Value.ref b] c D ad cI cZ cH cP cT cJ cF b L xs) (hr : meth.sig.returnType = ret) (hlk : meth.locks = false) (hge : ∀ k, k < 109 → s.heap.size ≤ ad k) : LE35 p l e s m #[Value.ref b] below meth c (lw_Z below #[Value.ref b] s) D ad cI cH cP cT b := by
  intro ag P9 G9 V T rN nf pn sp sk py pd hST E H locs ls hC hW hS hl
  obtain ⟨B, ⟨hlf, hT, hN, hX, hI⟩, hXs, hbl, hbA, hL⟩ := id C
  have hx := B.1
  have hb := B.2.1
  have hty : TY [(cI, .int), (cZ, .int), (cH, .object RX1), (cP, .object RX2), (cT, .object RX4), (cJ, .int), (cF, .int)] cI cI cH cP cT := ⟨rfl, rfl, rfl, rfl, rfl⟩
  refine lv_iload hx hb dL_law_924 (lv_at hl 3 rfl) ?_
  refine lv_if_eq (tgt := 941) hx hb dL_law_926 (by decide) (fun c_926 => ?_) (fun c_926 => ?_)
  · exact absurd c_926 (by decide)
  · skip
    refine lv_aload_n hx hb dL_law_929 rfl (lv_at hl 1 rfl) ?_
    refine lv_iload_n hx hb dL_law_930 rfl (lv_at hl 2 rfl) ?_
    refine y_ci (b_runSN B hT hX hN hW hS (As := [.ref (ad 0), .int (nI G9)]) (rest := []) (fun sz => ow_areMonths hlf hI hty hC hST.2 sz) (cwL_182 B.2.2.2.2.1 ⟨Nat.le_of_ble_eq_true rfl, Nat.le_of_ble_eq_true rfl⟩) rfl hl.1 (Nat.le_of_ble_eq_true rfl) dL_law_931 ⟨by show _ ≤ 600390; omega, by show _ ≤ 7288600; omega⟩) hI hW hS (fun k h => h) (fun _ _ => rfl) (fun E1 => E1) (fun _ _ _ => rfl) (fun E1 j hj hno => absurd rfl (hno j hj)) (fun r_931 E H locs hp hW hS => ?_)
    obtain ⟨hr_, hC⟩ := hp
    subst hr_
    refine lv_if_eq (tgt := 941) hx hb dL_law_934 (by decide) (fun c_934 => ?_) (fun c_934 => ?_)
    · exact absurd c_934 (by decide)
    · skip
      refine lv_iconst (v := 1) hx hb dL_law_937 (by decide) ?_
      refine lv_goto (tgt := 942) hx hb dL_law_938 (by decide) ?_
      refine va_forget (fun q hq => (hS.2.2 q hq).elim (fun ⟨k, hk, ek⟩ => by rw [← ek]; exact hge k hk) id) ?_
      refine W.widen (k := 600390) (n := 7288600) (by omega) (by omega) ?_
      refine W.base ?_
      exact lw_ret (Drawn.sameBut.refl s.drawn lw_cs) hx hb hr hlk dL_law_942
set_option maxHeartbeats 4000000 in
set_option maxRecDepth 100000 in
/-- the law, from its entry -/
theorem whole_start {p : Program} {e : Env} {s : State} {m : MethodId} {below : List Frame} {meth : Method} {c : Code} (l : Launch) (hflags : l.flags = flags0) {b L : Nat} {xs : Nat → Int32} (hL : L ≤ 260) (C0 : lw_At p s m meth c b L xs) : W p l e room_1 s m #[Value.ref b] below meth c s.heap [] 0 0 (lw_Z below #[Value.ref b] s) (entryFrame m ([Value.ref b] : List Value).toArray 20) := by
  obtain ⟨hx, hb, hr, hml, hown, htt, hXs, hbl, hlk, hgv⟩ := C0
  have hg := flat_of_before _ hgv
  have hlf : l.stackTraces = false := by
    unfold Launch.stackTraces
    rw [hflags]
    decide +kernel
  obtain ⟨D, cI, cZ, cH, cP, cT, cJ, cF, hK⟩ := st_K htt
  have B : MB p c cL_law 20 RL s m #[Value.ref b] D [(cI, .int), (cZ, .int), (cH, .object RX1), (cP, .object RX2), (cT, .object RX4), (cJ, .int), (cF, .int)] := ⟨hx, hb, hml, hown, fun w hw => htt w (wsL_tbl w hw), hK⟩
  have hT : TX s := st_T htt hg
  have hN : NC s := st_N hg
  have hAO : AO3 s := st_AO htt
  have hX : HX (fun q => s.heap.size ≤ q) s s.heap := st_X htt hg (fun a ha => Nat.not_le.mpr ha)
  have hAn : ∀ q : Nat, s.heap.size ≤ q → (fun q => s.heap.size ≤ q) q := fun q h => h
  have hS : va_S (fun q => s.heap.size ≤ q) s.heap s.heap [] := va_S.rf
  have hl := lv_entry ([.ref b]) (n := 20) (Nat.le_of_ble_eq_true rfl)
  rw [lg_entry_eq]
  generalize (lg_sl ([.ref b]) ++ List.replicate (20 - (lg_sl ([.ref b])).length) Slot.unset).toArray = ls at hl ⊢
  have hl : lv_has ls 20 [(0, .ref b)] := hl
  refine g_new (ci := 5) (ad := fun _ => 0) (E := fun _ => .inl (cI, 0, .inl (fun _ => 0))) (N := 0) B (fun i j hi => absurd hi (Nat.not_lt_zero _)) (fun k hk => absurd hk (Nat.not_lt_zero _)) hAn (fun k hk => absurd hk (Nat.not_lt_zero _)) hS inlX5 tyX5 tyX5_ok (r1_in _ (List.mem_of_getElem? (i := 0) rfl)) (r1_in _ (List.mem_of_getElem? (i := 1) rfl)) (r1_in _ (List.mem_of_getElem? (i := 2) rfl)) (fs := [.null, .null, .null, .int 0, .int 0, .null, .int 0, .int 0, .int 0, .long 0, .long 0, .null, .null, .null]) rfl (fun j hj => by rcases (show j = 0 ∨ j = 1 ∨ j = 2 ∨ j = 3 ∨ j = 4 ∨ j = 5 ∨ j = 6 ∨ j = 7 ∨ j = 8 ∨ j = 9 ∨ j = 10 ∨ j = 11 ∨ j = 12 ∨ j = 13 by omega) with rfl | rfl | rfl | rfl | rfl | rfl | rfl | rfl | rfl | rfl | rfl | rfl | rfl | rfl <;> rfl) (Nat.le_of_ble_eq_true rfl) (Nat.le_of_ble_eq_true rfl) dL_law_0 (fun ad E H ha hE h_0 hI hA hW hS => ?_)
  refine lv_dup hx hb dL_law_3 rfl ?_
  refine g_cv (g_runIA (As := []) (rest := [.ref (ad 0)]) B hAO hT hX hAn hA hW hS (o := 0) (by omega) (fun sz => ct_off (cZ := cI) rfl rfl rfl rfl rfl (ad := fun k => ad (0 + k)) (E := fun k => E (0 + k)) h_0 sz) (ciL_122 B.2.2.2.2.1 ⟨Nat.le_of_ble_eq_true rfl, Nat.le_of_ble_eq_true rfl⟩) rfl hl.1 (Nat.le_of_ble_eq_true rfl) dL_law_4 ⟨Nat.le_of_ble_eq_true rfl, Nat.le_of_ble_eq_true rfl⟩) hI hA hAn hW hS rfl rfl (fun ad E H locs ha hE hoff hI hA hW hS => ?_)
  have e1 : (fun k => ad (0 + k)) = ad := funext fun k => by rw [Nat.zero_add]
  have e2 : (fun k => E (0 + k)) = E := funext fun k => by rw [Nat.zero_add]
  rw [e1, e2] at hoff
  rw [← ha 0 (by omega)]
  have hI : aI ad 109 := hI
  have hA : ∀ k : Nat, k < 109 → s.heap.size ≤ ad k := hA
  have hW : hH D ad 109 E H := hW
  refine lv_astore_n (lv' := [(1, .ref (ad 0)), (0, .ref b)]) hx hb dL_law_7 rfl hl (by decide) rfl (fun ls hl => ?_)
  obtain ⟨E, hC, hW⟩ := st_world hoff hW
  have hge : ∀ k, k < 109 → s.heap.size ≤ (fun k => ad (tau k)) k := fun k hk => hA _ (tau_lt9 k hk)
  have hcA : ∀ q : Nat, cA (fun k => ad (tau k)) 109 s.heap.size q → s.heap.size ≤ q := fun q h => h.elim (fun ⟨k, hk, ek⟩ => by rw [← ek]; exact hge k hk) id
  have C : LC35 p l s m #[Value.ref b] c D (fun k => ad (tau k)) cI cZ cH cP cT cJ cF b L xs := ⟨B, ⟨hlf, hT, hN, HX.go (s := s) (U := s) (locs := []) hX va_S.rf (Vm.Alike.refl s.vm) rfl hcA, fun i j hi hj eij => tau_inj i (by omega) j (by omega) (hI _ _ (tau_lt9 i hi) (tau_lt9 j hj) eij)⟩, hXs, hbl, fun q => absurd (hcA b q) (Nat.not_le.mpr hbl), hL⟩
  have KE := lm_end (e := e) (below := below) C hr hlk hge
  have hS : va_S (cA (fun k => ad (tau k)) 109 s.heap.size) s.heap H locs := ⟨hS.1, fun q h1 h2 => hS.2.1 q h1 (fun h3 => h2 (Or.inr h3)), fun l hl => Or.inr (hS.2.2 l hl)⟩
  have hl : lv_has ls 20 [(0, .ref b), (1, .ref ((fun k => ad (tau k)) 0))] := lv_sub hl [1, 0] rfl
  generalize hq9 : (fun k => ad (tau k)) = ad at *
  clear hx hb
  obtain ⟨B, ⟨hlf, hT, hN, hX, hI⟩, hXs, hbl, hbA, hL⟩ := id C
  have hx := B.1
  have hb := B.2.1
  have hty : TY [(cI, .int), (cZ, .int), (cH, .object RX1), (cP, .object RX2), (cT, .object RX4), (cJ, .int), (cF, .int)] cI cI cH cP cT := ⟨rfl, rfl, rfl, rfl, rfl⟩
  refine lv_iconst (v := 2) hx hb dL_law_8 (by decide) ?_
  refine lv_aload_n hx hb dL_law_9 rfl (lv_at hl 0 rfl) ?_
  refine lv_iconst (v := (nI 0)) hx hb dL_law_10 (by decide) ?_
  refine lv_bipush (v := (nI 6)) hx hb dL_law_11 (by decide) ?_
  refine b_ci0 (b_runSX (E := fun _ => .inl (cI, 0, .inl (fun _ => 0))) B hT hX hXs hbl hbA hS (As := [.ref b, .int (nI 0), .int (nI 6)]) (rest := [.int 2]) (fun sz => ow_pick (ad := ad) 0 6 (by omega) (by omega) (by omega) hL sz) (cwL_123 B.2.2.2.2.1 ⟨Nat.le_of_ble_eq_true rfl, Nat.le_of_ble_eq_true rfl⟩) rfl hl.1 (Nat.le_of_ble_eq_true rfl) dL_law_13 ⟨by show _ ≤ 600390; omega, by show _ ≤ 7288600; omega⟩) hW hS (fun r_13 H locs hp hW hS => ?_)
  obtain ⟨_, j13, hj13, hr_⟩ := hp
  subst hr_
  refine lv_iadd hx hb dL_law_16 ?_
  refine b_top (y := nI (2 + j13)) (two_add_nI _) ?_
  refine lv_istore_n (lv' := [(2, .int (nI (2 + j13))), (0, .ref b), (1, .ref (ad 0))]) hx hb dL_law_17 rfl hl (by decide) rfl (fun ls hl => ?_)
  refine lv_iconst (v := 1) hx hb dL_law_18 (by decide) ?_
  refine lv_aload_n hx hb dL_law_19 rfl (lv_at hl 1 rfl) ?_
  refine lv_iconst (v := (nI 1)) hx hb dL_law_20 (by decide) ?_
  refine lv_iconst (v := (nI 4)) hx hb dL_law_21 (by decide) ?_
  refine b_ci0 (b_runSX (E := fun _ => .inl (cI, 0, .inl (fun _ => 0))) B hT hX hXs hbl hbA hS (As := [.ref b, .int (nI 1), .int (nI 4)]) (rest := [.int 1]) (fun sz => ow_pick (ad := ad) 1 4 (by omega) (by omega) (by omega) hL sz) (cwL_123 B.2.2.2.2.1 ⟨Nat.le_of_ble_eq_true rfl, Nat.le_of_ble_eq_true rfl⟩) rfl hl.1 (Nat.le_of_ble_eq_true rfl) dL_law_22 ⟨by show _ ≤ 600390; omega, by show _ ≤ 7288600; omega⟩) hW hS (fun r_22 H locs hp hW hS => ?_)
  obtain ⟨_, j22, hj22, hr_⟩ := hp
  subst hr_
  refine lv_iadd hx hb dL_law_25 ?_
  refine b_top (y := nI (1 + j22)) (one_add_nI _) ?_
  refine lv_istore_n (lv' := [(3, .int (nI (1 + j22))), (2, .int (nI (2 + j13))), (0, .ref b), (1, .ref (ad 0))]) hx hb dL_law_26 rfl hl (by decide) rfl (fun ls hl => ?_)
  refine lv_iconst (v := 1) hx hb dL_law_27 (by decide) ?_
  refine lv_istore (lv' := [(4, .int 1), (3, .int (nI (1 + j22))), (2, .int (nI (2 + j13))), (0, .ref b), (1, .ref (ad 0))]) hx hb dL_law_28 hl (by decide) rfl (fun ls hl => ?_)
  refine lv_iconst (v := (nI 2)) hx hb dL_law_30 (by decide) ?_
  refine lv_istore (lv' := [(5, .int (nI 2)), (4, .int 1), (3, .int (nI (1 + j22))), (2, .int (nI (2 + j13))), (0, .ref b), (1, .ref (ad 0))]) hx hb dL_law_31 hl (by decide) rfl (fun ls hl => ?_)
  refine lv_iconst (v := (nI 0)) hx hb dL_law_33 (by decide) ?_
  refine lv_istore (lv' := [(6, .int (nI 0)), (5, .int (nI 2)), (4, .int 1), (3, .int (nI (1 + j22))), (2, .int (nI (2 + j13))), (0, .ref b), (1, .ref (ad 0))]) hx hb dL_law_34 hl (by decide) rfl (fun ls hl => ?_)
  refine W.widen (k := 110) (n := 10700) (by omega) (by omega) ?_
  exact lm_persons (P9 := (2 + j13)) (G9 := (1 + j22)) C (by omega) (by omega) (by omega) (by omega) KE hC hW hS (lv_sub hl [5, 6, 4, 3, 2, 1, 0] rfl)
