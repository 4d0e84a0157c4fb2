theorem cwL_181 {R : Room} {s : State} {args : Array Value} {rm : Room} (hts : ∀ w ∈ wsL_law, w.before args s = true) (hR : rm.frames + 1 ≤ R.frames ∧ 8 + (1 + 11) + rm.locals ≤ R.locals) : CWV R s args RL RX5 181 yX5_keptBack cX5_keptBack 1 (some .long) rm rm.cells rm.slots 0 :=
  cwV 0 hts (gi_V (r22_in _ (List.mem_of_getElem? (i := 2) rfl)) (r22_in _ (List.mem_of_getElem? (i := 3) rfl)) (r22_in _ (List.mem_of_getElem? (i := 4) rfl)) (r1_in _ (List.mem_of_getElem? (i := 2) rfl)) (r22_in _ (List.mem_of_getElem? (i := 5) rfl))) rfl rfl rfl (by decide +kernel) hR
theorem cwL_184 {R : Room} {s : State} {args : Array Value} {rm : Room} (hts : ∀ w ∈ wsL_law, w.before args s = true) (hR : rm.frames + 1 ≤ R.frames ∧ 8 + (1 + 11) + rm.locals ≤ R.locals) : CWV R s args RL RX6 184 yX6_keptBack cX6_keptBack 1 (some .long) rm rm.cells rm.slots 0 :=
  cwV 0 hts (gi_V (r22_in _ (List.mem_of_getElem? (i := 6) rfl)) (r22_in _ (List.mem_of_getElem? (i := 7) rfl)) (r22_in _ (List.mem_of_getElem? (i := 8) rfl)) (r1_in _ (List.mem_of_getElem? (i := 5) rfl)) (r22_in _ (List.mem_of_getElem? (i := 9) rfl))) rfl rfl rfl (by decide +kernel) hR
theorem cwL_185 {R : Room} {s : State} {args : Array Value} {rm : Room} (hts : ∀ w ∈ wsL_law, w.before args s = true) (hR : rm.frames + 1 ≤ R.frames ∧ 8 + (5 + 11) + rm.locals ≤ R.locals) : vx_CSW R s args RL 185 yL_homeOf cL_homeOf 5 (some .int) [(0, 10, 13, 25), (0, 10, 17, 13)] (Cond.codeWith yL_homeOf cL_homeOf 5 (some .int) [(0, 10, 13, 25), (0, 10, 17, 13)] :: wsL_law) rm rm.cells rm.slots 4 :=
  vx_cwSW 4 hts (gi_S (r22_in _ (List.mem_of_getElem? (i := 10) rfl)) (r22_in _ (List.mem_of_getElem? (i := 11) rfl)) (r5_in _ (List.mem_of_getElem? (i := 22) rfl)) (r22_in _ (List.mem_of_getElem? (i := 12) rfl))) rfl rfl rfl (by decide +kernel) hR
theorem cwL_187 {R : Room} {s : State} {args : Array Value} {rm : Room} (hts : ∀ w ∈ wsL_law, w.before args s = true) (hR : rm.frames + 1 ≤ R.frames ∧ 8 + (3 + 11) + rm.locals ≤ R.locals) : CWV R s args RL RX6 187 yX6_homeOf cX6_homeOf 3 (some .int) rm rm.cells rm.slots 2 :=
  cwV 2 hts (gi_V (r22_in _ (List.mem_of_getElem? (i := 17) rfl)) (r22_in _ (List.mem_of_getElem? (i := 18) rfl)) (r22_in _ (List.mem_of_getElem? (i := 19) rfl)) (r1_in _ (List.mem_of_getElem? (i := 5) rfl)) (r22_in _ (List.mem_of_getElem? (i := 20) rfl))) rfl rfl rfl (by decide +kernel) hR
theorem cwL_188 {R : Room} {s : State} {args : Array Value} {rm : Room} (hts : ∀ w ∈ wsL_law, w.before args s = true) (hR : rm.frames + 1 ≤ R.frames ∧ 8 + (5 + 11) + rm.locals ≤ R.locals) : vx_CSW R s args RL 188 yL_ruleAt cL_ruleAt 5 (some .int) [(0, 10, 13, 37), (0, 10, 17, 13)] (Cond.codeWith yL_ruleAt cL_ruleAt 5 (some .int) [(0, 10, 13, 37), (0, 10, 17, 13)] :: wsL_law) rm rm.cells rm.slots 4 :=
  vx_cwSW 4 hts (gi_S (r22_in _ (List.mem_of_getElem? (i := 21) rfl)) (r22_in _ (List.mem_of_getElem? (i := 22) rfl)) (r5_in _ (List.mem_of_getElem? (i := 22) rfl)) (r22_in _ (List.mem_of_getElem? (i := 23) rfl))) rfl rfl rfl (by decide +kernel) hR
theorem cwL_190 {R : Room} {s : State} {args : Array Value} {rm : Room} (hts : ∀ w ∈ wsL_law, w.before args s = true) (hR : rm.frames + 1 ≤ R.frames ∧ 8 + (4 + 11) + rm.locals ≤ R.locals) : CWV R s args RL RX6 190 yX6_ruleAt cX6_ruleAt 4 (some .int) rm rm.cells rm.slots 2 :=
  cwV 2 hts (gi_V (r23_in _ (List.mem_of_getElem? (i := 4) rfl)) (r23_in _ (List.mem_of_getElem? (i := 5) rfl)) (r23_in _ (List.mem_of_getElem? (i := 6) rfl)) (r1_in _ (List.mem_of_getElem? (i := 5) rfl)) (r23_in _ (List.mem_of_getElem? (i := 7) rfl))) rfl rfl rfl (by decide +kernel) hR
theorem cwL_191 {R : Room} {s : State} {args : Array Value} {rm : Room} (hts : ∀ w ∈ wsL_law, w.before args s = true) (hR : rm.frames + 1 ≤ R.frames ∧ 8 + (5 + 11) + rm.locals ≤ R.locals) : vx_CSW R s args RL 191 yL_adults cL_adults 5 (some .int) [(0, 10, 13, 25), (0, 10, 17, 13)] (Cond.codeWith yL_adults cL_adults 5 (some .int) [(0, 10, 13, 25), (0, 10, 17, 13)] :: wsL_law) rm rm.cells rm.slots 4 :=
  vx_cwSW 4 hts (gi_S (r23_in _ (List.mem_of_getElem? (i := 8) rfl)) (r23_in _ (List.mem_of_getElem? (i := 9) rfl)) (r5_in _ (List.mem_of_getElem? (i := 22) rfl)) (r23_in _ (List.mem_of_getElem? (i := 10) rfl))) rfl rfl rfl (by decide +kernel) hR
theorem cwL_193 {R : Room} {s : State} {args : Array Value} {rm : Room} (hts : ∀ w ∈ wsL_law, w.before args s = true) (hR : rm.frames + 1 ≤ R.frames ∧ 8 + (3 + 11) + rm.locals ≤ R.locals) : CWV R s args RL RX6 193 yX6_adults cX6_adults 3 (some .int) rm rm.cells rm.slots 2 :=
  cwV 2 hts (gi_V (r23_in _ (List.mem_of_getElem? (i := 15) rfl)) (r23_in _ (List.mem_of_getElem? (i := 16) rfl)) (r23_in _ (List.mem_of_getElem? (i := 17) rfl)) (r1_in _ (List.mem_of_getElem? (i := 5) rfl)) (r23_in _ (List.mem_of_getElem? (i := 18) rfl))) rfl rfl rfl (by decide +kernel) hR
theorem cwL_194 {R : Room} {s : State} {args : Array Value} {rm : Room} (hts : ∀ w ∈ wsL_law, w.before args s = true) (hR : rm.frames + 1 ≤ R.frames ∧ 8 + (5 + 11) + rm.locals ≤ R.locals) : vx_CSW R s args RL 194 yL_children cL_children 5 (some .int) [(0, 10, 13, 25), (0, 10, 17, 13)] (Cond.codeWith yL_children cL_children 5 (some .int) [(0, 10, 13, 25), (0, 10, 17, 13)] :: wsL_law) rm rm.cells rm.slots 4 :=
  vx_cwSW 4 hts (gi_S (r23_in _ (List.mem_of_getElem? (i := 23) rfl)) (r24_in _ (List.mem_of_getElem? (i := 0) rfl)) (r5_in _ (List.mem_of_getElem? (i := 22) rfl)) (r24_in _ (List.mem_of_getElem? (i := 1) rfl))) rfl rfl rfl (by decide +kernel) hR
theorem cwL_196 {R : Room} {s : State} {args : Array Value} {rm : Room} (hts : ∀ w ∈ wsL_law, w.before args s = true) (hR : rm.frames + 1 ≤ R.frames ∧ 8 + (3 + 11) + rm.locals ≤ R.locals) : CWV R s args RL RX6 196 yX6_children cX6_children 3 (some .int) rm rm.cells rm.slots 2 :=
  cwV 2 hts (gi_V (r24_in _ (List.mem_of_getElem? (i := 6) rfl)) (r24_in _ (List.mem_of_getElem? (i := 7) rfl)) (r24_in _ (List.mem_of_getElem? (i := 8) rfl)) (r1_in _ (List.mem_of_getElem? (i := 5) rfl)) (r24_in _ (List.mem_of_getElem? (i := 9) rfl))) rfl rfl rfl (by decide +kernel) hR
theorem cwL_197 {R : Room} {s : State} {args : Array Value} {rm : Room} (hts : ∀ w ∈ wsL_law, w.before args s = true) (hR : rm.frames + 1 ≤ R.frames ∧ 8 + (5 + 11) + rm.locals ≤ R.locals) : vx_CSW R s args RL 197 yL_incomeOf cL_incomeOf 5 (some .int) [(0, 10, 13, 25), (0, 10, 17, 13)] (Cond.codeWith yL_incomeOf cL_incomeOf 5 (some .int) [(0, 10, 13, 25), (0, 10, 17, 13)] :: wsL_law) rm rm.cells rm.slots 4 :=
  vx_cwSW 4 hts (gi_S (r24_in _ (List.mem_of_getElem? (i := 10) rfl)) (r24_in _ (List.mem_of_getElem? (i := 11) rfl)) (r5_in _ (List.mem_of_getElem? (i := 22) rfl)) (r24_in _ (List.mem_of_getElem? (i := 12) rfl))) rfl rfl rfl (by decide +kernel) hR
theorem cwL_199 {R : Room} {s : State} {args : Array Value} {rm : Room} (hts : ∀ w ∈ wsL_law, w.before args s = true) (hR : rm.frames + 1 ≤ R.frames ∧ 8 + (3 + 11) + rm.locals ≤ R.locals) : CWV R s args RL RX6 199 yX6_incomeOf cX6_incomeOf 3 (some .int) rm rm.cells rm.slots 2 :=
  cwV 2 hts (gi_V (r24_in _ (List.mem_of_getElem? (i := 17) rfl)) (r24_in _ (List.mem_of_getElem? (i := 18) rfl)) (r24_in _ (List.mem_of_getElem? (i := 19) rfl)) (r1_in _ (List.mem_of_getElem? (i := 5) rfl)) (r24_in _ (List.mem_of_getElem? (i := 20) rfl))) rfl rfl rfl (by decide +kernel) hR
theorem cwL_200 {R : Room} {s : State} {args : Array Value} {rm : Room} (hts : ∀ w ∈ wsL_law, w.before args s = true) (hR : rm.frames + 1 ≤ R.frames ∧ 8 + (5 + 11) + rm.locals ≤ R.locals) : vx_CSW R s args RL 200 yL_adultAmount cL_adultAmount 5 (some .int) [(0, 10, 13, 25), (0, 10, 17, 13)] (Cond.codeWith yL_adultAmount cL_adultAmount 5 (some .int) [(0, 10, 13, 25), (0, 10, 17, 13)] :: wsL_law) rm rm.cells rm.slots 4 :=
  vx_cwSW 4 hts (gi_S (r24_in _ (List.mem_of_getElem? (i := 21) rfl)) (r24_in _ (List.mem_of_getElem? (i := 22) rfl)) (r5_in _ (List.mem_of_getElem? (i := 22) rfl)) (r24_in _ (List.mem_of_getElem? (i := 23) rfl))) rfl rfl rfl (by decide +kernel) hR
theorem cwL_202 {R : Room} {s : State} {args : Array Value} {rm : Room} (hts : ∀ w ∈ wsL_law, w.before args s = true) (hR : rm.frames + 1 ≤ R.frames ∧ 8 + (3 + 11) + rm.locals ≤ R.locals) : CWV R s args RL RX6 202 yX6_adultAmount cX6_adultAmount 3 (some .int) rm rm.cells rm.slots 2 :=
  cwV 2 hts (gi_V (r25_in _ (List.mem_of_getElem? (i := 4) rfl)) (r25_in _ (List.mem_of_getElem? (i := 5) rfl)) (r25_in _ (List.mem_of_getElem? (i := 6) rfl)) (r1_in _ (List.mem_of_getElem? (i := 5) rfl)) (r25_in _ (List.mem_of_getElem? (i := 7) rfl))) rfl rfl rfl (by decide +kernel) hR
theorem cwL_203 {R : Room} {s : State} {args : Array Value} {rm : Room} (hts : ∀ w ∈ wsL_law, w.before args s = true) (hR : rm.frames + 1 ≤ R.frames ∧ 8 + (5 + 11) + rm.locals ≤ R.locals) : vx_CSW R s args RL 203 yL_childAmount cL_childAmount 5 (some .int) [(0, 10, 13, 25), (0, 10, 17, 13)] (Cond.codeWith yL_childAmount cL_childAmount 5 (some .int) [(0, 10, 13, 25), (0, 10, 17, 13)] :: wsL_law) rm rm.cells rm.slots 4 :=
  vx_cwSW 4 hts (gi_S (r25_in _ (List.mem_of_getElem? (i := 8) rfl)) (r25_in _ (List.mem_of_getElem? (i := 9) rfl)) (r5_in _ (List.mem_of_getElem? (i := 22) rfl)) (r25_in _ (List.mem_of_getElem? (i := 10) rfl))) rfl rfl rfl (by decide +kernel) hR
theorem cwL_205 {R : Room} {s : State} {args : Array Value} {rm : Room} (hts : ∀ w ∈ wsL_law, w.before args s = true) (hR : rm.frames + 1 ≤ R.frames ∧ 8 + (3 + 11) + rm.locals ≤ R.locals) : CWV R s args RL RX6 205 yX6_childAmount cX6_childAmount 3 (some .int) rm rm.cells rm.slots 2 :=
  cwV 2 hts (gi_V (r25_in _ (List.mem_of_getElem? (i := 15) rfl)) (r25_in _ (List.mem_of_getElem? (i := 16) rfl)) (r25_in _ (List.mem_of_getElem? (i := 17) rfl)) (r1_in _ (List.mem_of_getElem? (i := 5) rfl)) (r25_in _ (List.mem_of_getElem? (i := 18) rfl))) rfl rfl rfl (by decide +kernel) hR
set_option maxHeartbeats 4000000 in
set_option maxRecDepth 100000 in
theorem lc_16 {p : Program} {l : Launch} {e : Env} {s : State} {m : MethodId} {args : Array Value} {below : List Frame} {meth : Method} {c : Code} {Q : State → Prop} {D : va_G} {ad : Nat → Nat} {cI cZ cH cP cT cJ cF : ClassId} {b L : Nat} {xs : Nat → Int32} (C : LC p l s m args c D ad cI cZ cH cP cT cJ cF b L xs) {t cells slots : Nat} (ht : 4 * t + 4 ≤ L) (hc : cells + 8 ≤ 603072) (hs : slots + 48 ≤ 7194730) (K : LK p l e s m args below meth c Q D ad cI cZ cH cP cT cJ cF b t (cells + 8) (slots + 48)) {V T : Nat → Nat → Int32} {ag : Nat → Int32} {nP nH rN : Nat} {nf pn : Int32} {sp sk : Int64} {py pd : Nat → Nat → Int32} {th : Int32} {Ec Em : Nat → va_E} {o : Nat → Int64} {od : Nat → UInt64} {H : Heap} {locs : List Loc} {ls : Array Slot} (hC : CW cI cZ cH cP cT ad V T ag nP nH rN nf pn sp sk py pd Ec) (hM : MW cI cZ (fun k => ad (110 + k)) th V T ag nP nH rN nf pn sp sk py pd Em) (hW : hH D ad 124 (lE cJ cF Ec Em o od) H) (hS : va_S (cA ad 124 s.heap.size) s.heap H locs) (hl : lv_has ls 9 [(0, .ref b), (1, .ref (ad 0)), (2, .ref (ad 110)), (3, .ref (ad 109)), (4, .ref (ad 123)), (5, .int (nI (4 * t)))]) : W p l e room_1 s m args below meth c H locs cells slots Q (F0 m 1142 ls []) := by
  obtain ⟨B, ⟨hlf, hT, hN, hX, hI⟩, hXs, hbl, hbA, hL⟩ := C
  have hx := B.1
  have hb := B.2.1
  have hI109 : aI ad 109 := hI.subw (σ := fun k => k) (fun k hk => by omega) (fun k _ => rfl) (fun i j _ _ e => e)
  have hI110 : aI ad 110 := hI.subw (σ := fun k => k) (fun k hk => by omega) (fun k _ => rfl) (fun i j _ _ e => e)
  have hI110d : aI (fun k => ad (sD k)) 110 := hI.subw (σ := sD) (fun k hk => sD_lt k hk) (fun k _ => rfl) sD_inj
  have hI13 : aI (fun k => ad (110 + k)) 13 := hI.subw (σ := fun k => 110 + k) (fun k hk => by omega) (fun k _ => rfl) (fun i j _ _ e => by have e : 110 + i = 110 + j := e; omega)
  obtain ⟨so, en, rA, rC, rI, aA, aC, aH, aT, aP, hEc, hInv⟩ := hC
  subst hEc
  obtain ⟨du, mA, mC, mH, mG, mS, mI, mT, mP, hEm⟩ := hM
  subst hEm
  refine W.widen (k := cells + 8) (n := slots + 48) (by omega) (by omega) ?_
  refine lv_aload_n hx hb dL_law_1142 rfl (lv_at hl 1 rfl) ?_
  refine y_cl (y_runV B hT hX hW hS (σ := fun k => k) (ad' := ad) (n9 := 109) (fun k hk => by omega) (fun k _ => rfl) (fun k hk => lE_c hk) (k := 0) (As := []) (rest := []) (fun sz => mt_keptBack hI109 V T ag nP nH rN nf pn sp sk py pd so en rA rC rI aA aC aH aT aP rfl rfl rfl rfl rfl hInv (ad := ad) sz) (cwL_181 B.2.2.2.2.1 ⟨Nat.le_of_ble_eq_true rfl, Nat.le_of_ble_eq_true rfl⟩) (b_recv B hW (k := 0) (by omega) ((lE_c (k := 0) (by omega)).trans cE_0) rfl) rfl hl.1 (Nat.le_of_ble_eq_true rfl) dL_law_1143 ⟨by show _ ≤ 603072; omega, by show _ ≤ 7194730; omega⟩) hI hW hS (fun k hk => by omega) (fun k _ => rfl) (fun E1 => lE cJ cF E1 (mE cI cZ (fun k => ad (110 + k)) th nP nH rN nf pn sp sk ag (RV V) (RV T) (FL pd) (FL py) du mA mC mH mG mS mI mT mP) o od) (fun E1 k hk => lE_c hk) (fun E1 j hj hno => lE_co hno) (fun r_1 Ec H locs hp hW hS => ?_)
  obtain ⟨hr1, hC⟩ := hp
  refine lv_aload_n hx hb dL_law_1146 rfl (lv_at hl 2 rfl) ?_
  refine y_cl (y_runV B hT hX hW hS (σ := fun k => 110 + k) (ad' := fun k => ad (110 + k)) (n9 := 13) (fun k hk => by omega) (fun k _ => rfl) (fun k hk => lE_m hk) (k := 0) (As := []) (rest := [.long r_1]) (fun sz => mm_keptBack hI13 th nP nH rN nf pn sp sk ag V T pd py du mA mC mH mG mS mI mT mP rfl rfl sz) (cwL_184 B.2.2.2.2.1 ⟨Nat.le_of_ble_eq_true rfl, Nat.le_of_ble_eq_true rfl⟩) (b_recv B hW (by omega) ((lE_m (k := 0) (by omega)).trans mE_0) rfl) rfl hl.1 (Nat.le_of_ble_eq_true rfl) dL_law_1147 ⟨by show _ ≤ 603072; omega, by show _ ≤ 7194730; omega⟩) hI hW hS (fun k hk => by omega) (fun k _ => rfl) (fun E1 => lE cJ cF Ec E1 o od) (fun E1 k hk => lE_m hk) (fun E1 j hj hno => lE_out hno) (fun r_2 Em H locs hq hW hS => ?_)
  obtain ⟨hr2, hM⟩ := hq
  refine b_lcmp hx hb dL_law_1150 ?_
  refine lv_if_eq (tgt := 2118) hx hb dL_law_1151 (by decide) (fun c_1151 => ?_) (fun c_1151 => ?_)
  rotate_left
  · exact absurd (lcm_0.mpr (hr1.trans hr2.symm)) c_1151
  exact K _ _ _ _ _ _ _ _ _ _ _ _ _ _ _ _ _ _ _ _ hC hM hW hS (lv_sub hl [0, 1, 2, 3, 4, 5] rfl)
set_option maxHeartbeats 4000000 in
set_option maxRecDepth 100000 in
theorem lc_17 {p : Program} {l : Launch} {e : Env} {s : State} {m : MethodId} {args : Array Value} {below : List Frame} {meth : Method} {c : Code} {Q : State → Prop} {D : va_G} {ad : Nat → Nat} {cI cZ cH cP cT cJ cF : ClassId} {b L : Nat} {xs : Nat → Int32} (C : LC p l s m args c D ad cI cZ cH cP cT cJ cF b L xs) {t cells slots : Nat} (ht : 4 * t + 4 ≤ L) (hc : cells + 8 ≤ 603072) (hs : slots + 48 ≤ 7194730) (K : LK p l e s m args below meth c Q D ad cI cZ cH cP cT cJ cF b t (cells + 8) (slots + 48)) {V T : Nat → Nat → Int32} {ag : Nat → Int32} {nP nH rN : Nat} {nf pn : Int32} {sp sk : Int64} {py pd : Nat → Nat → Int32} {th : Int32} {Ec Em : Nat → va_E} {o : Nat → Int64} {od : Nat → UInt64} {H : Heap} {locs : List Loc} {ls : Array Slot} (hC : CW cI cZ cH cP cT ad V T ag nP nH rN nf pn sp sk py pd Ec) (hM : MW cI cZ (fun k => ad (110 + k)) th V T ag nP nH rN nf pn sp sk py pd Em) (hW : hH D ad 124 (lE cJ cF Ec Em o od) H) (hS : va_S (cA ad 124 s.heap.size) s.heap H locs) (hl : lv_has ls 9 [(0, .ref b), (1, .ref (ad 0)), (2, .ref (ad 110)), (3, .ref (ad 109)), (4, .ref (ad 123)), (5, .int (nI (4 * t)))]) : W p l e room_1 s m args below meth c H locs cells slots Q (F0 m 1156 ls []) := by
  obtain ⟨B, ⟨hlf, hT, hN, hX, hI⟩, hXs, hbl, hbA, hL⟩ := C
  have hx := B.1
  have hb := B.2.1
  have hI109 : aI ad 109 := hI.subw (σ := fun k => k) (fun k hk => by omega) (fun k _ => rfl) (fun i j _ _ e => e)
  have hI110 : aI ad 110 := hI.subw (σ := fun k => k) (fun k hk => by omega) (fun k _ => rfl) (fun i j _ _ e => e)
  have hI110d : aI (fun k => ad (sD k)) 110 := hI.subw (σ := sD) (fun k hk => sD_lt k hk) (fun k _ => rfl) sD_inj
  have hI13 : aI (fun k => ad (110 + k)) 13 := hI.subw (σ := fun k => 110 + k) (fun k hk => by omega) (fun k _ => rfl) (fun i j _ _ e => by have e : 110 + i = 110 + j := e; omega)
  obtain ⟨so, en, rA, rC, rI, aA, aC, aH, aT, aP, hEc, hInv⟩ := hC
  subst hEc
  obtain ⟨du, mA, mC, mH, mG, mS, mI, mT, mP, hEm⟩ := hM
  subst hEm
  refine lv_aload_n hx hb dL_law_1156 rfl (lv_at hl 1 rfl) ?_
  refine lv_aload_n hx hb dL_law_1157 rfl (lv_at hl 0 rfl) ?_
  refine lv_iload hx hb dL_law_1158 (lv_at hl 5 rfl) ?_
  refine lv_iconst (v := nI 1) hx hb dL_law_1160 (by decide) ?_
  refine lv_iadd hx hb dL_law_1161 ?_
  refine b_top (y := nI (4 * t + 1)) (nI_add _ _) ?_
  refine va_sld hx hb hXs hbl hbA hS (vp_in_nI (by omega) (by omega)) dL_law_1162 ?_
  refine b_top (y := xs (4 * t + 1)) (by rw [nI_clamp (by omega)]) ?_
  refine lv_aload_n hx hb dL_law_1163 rfl (lv_at hl 0 rfl) ?_
  refine lv_iload hx hb dL_law_1164 (lv_at hl 5 rfl) ?_
  refine lv_iconst (v := nI 2) hx hb dL_law_1166 (by decide) ?_
  refine lv_iadd hx hb dL_law_1167 ?_
  refine b_top (y := nI (4 * t + 2)) (nI_add _ _) ?_
  refine va_sld hx hb hXs hbl hbA hS (vp_in_nI (by omega) (by omega)) dL_law_1168 ?_
  refine b_top (y := xs (4 * t + 2)) (by rw [nI_clamp (by omega)]) ?_
  refine lv_aload_n hx hb dL_law_1169 rfl (lv_at hl 3 rfl) ?_
  refine y_ci (y_runSW B hT hX hN hW hS (σ := fun k => k) (ad' := ad) (n9 := 110) (fun k hk => by omega) (fun k _ => rfl) (fun k hk => lE_h hk) (As := [.ref (ad 0), .int (xs (4 * t + 1)), .int (xs (4 * t + 2)), .ref (ad 109)]) (rest := []) (fun sz => lh_homeOf hlf hI110 o V T ag nP nH rN nf pn sp sk py pd so en rA rC rI aA aC aH aT aP ((xs (4 * t + 1))) ((xs (4 * t + 2))) rfl rfl rfl rfl rfl rfl rfl hInv (ad := ad) sz) (cwL_185 B.2.2.2.2.1 ⟨Nat.le_of_ble_eq_true rfl, Nat.le_of_ble_eq_true rfl⟩) rfl hl.1 (Nat.le_of_ble_eq_true rfl) dL_law_1170 ⟨by show _ ≤ 603072; omega, by show _ ≤ 7194730; omega⟩) hI hW hS (fun k hk => by omega) (fun k _ => rfl) (fun E1 => gH cF E1 (mE cI cZ (fun k => ad (110 + k)) th nP nH rN nf pn sp sk ag (RV V) (RV T) (FL pd) (FL py) du mA mC mH mG mS mI mT mP) od) (fun E1 k hk => gH_in hk) (fun E1 j hj hno => gH_out hno) (fun r_1 E1 H locs hp hW hS => ?_)
  obtain ⟨hr_, Ec, o, hE_, hp⟩ := hp
  have hW : hH D ad 124 (lE cJ cF Ec (mE cI cZ (fun k => ad (110 + k)) th nP nH rN nf pn sp sk ag (RV V) (RV T) (FL pd) (FL py) du mA mC mH mG mS mI mT mP) o od) H := hW.eq (by rw [hE_, gH_eq])
  rw [← hr_] at hp
  refine lv_istore (lv' := [(6, .int r_1), (0, .ref b), (1, .ref (ad 0)), (2, .ref (ad 110)), (3, .ref (ad 109)), (4, .ref (ad 123)), (5, .int (nI (4 * t)))]) hx hb dL_law_1173 hl (by decide) rfl (fun ls hl => ?_)
  refine lv_aload_n hx hb dL_law_1175 rfl (lv_at hl 3 rfl) ?_
  refine lv_aload_n hx hb dL_law_1176 rfl (lv_at hl 1 rfl) ?_
  refine lv_iload hx hb dL_law_1177 (lv_at hl 6 rfl) ?_
  refine lv_iconst (v := nI 1) hx hb dL_law_1179 (by decide) ?_
  refine lv_iadd hx hb dL_law_1180 ?_
  refine b_top (y := nI (4 * t + 1)) (nI_add _ _) ?_
  refine va_sld hx hb hXs hbl hbA hS (vp_in_nI (by omega) (by omega)) dL_law_1181 ?_
  refine b_top (y := xs (4 * t + 1)) (by rw [nI_clamp (by omega)]) ?_
  refine lv_aload_n hx hb dL_law_1182 rfl (lv_at hl 1 rfl) ?_
  refine lv_iload hx hb dL_law_1183 (lv_at hl 6 rfl) ?_
  refine lv_iconst (v := nI 2) hx hb dL_law_1185 (by decide) ?_
  refine lv_iadd hx hb dL_law_1186 ?_
  refine b_top (y := nI (4 * t + 2)) (nI_add _ _) ?_
  refine va_sld hx hb hXs hbl hbA hS (vp_in_nI (by omega) (by omega)) dL_law_1187 ?_
  refine b_top (y := xs (4 * t + 2)) (by rw [nI_clamp (by omega)]) ?_
  refine y_ci (y_runV B hT hX hW hS (σ := fun k => 110 + k) (ad' := fun k => ad (110 + k)) (n9 := 13) (fun k hk => by omega) (fun k _ => rfl) (fun k hk => lE_m hk) (k := 0) (As := [.int (xs (4 * t + 1)), .int (xs (4 * t + 2))]) (rest := []) (fun sz => mm_homeOf hI13 th nP nH rN nf pn sp sk ag V T pd py du mA mC mH mG mS mI mT mP ((xs (4 * t + 1))) ((xs (4 * t + 2))) so rfl rfl hInv sz) (cwL_187 B.2.2.2.2.1 ⟨Nat.le_of_ble_eq_true rfl, Nat.le_of_ble_eq_true rfl⟩) (b_recv B hW (by omega) ((lE_m (k := 0) (by omega)).trans mE_0) rfl) rfl hl.1 (Nat.le_of_ble_eq_true rfl) dL_law_1188 ⟨by show _ ≤ 603072; omega, by show _ ≤ 7194730; omega⟩) hI hW hS (fun k hk => by omega) (fun k _ => rfl) (fun E1 => lE cJ cF Ec E1 o od) (fun E1 k hk => lE_m hk) (fun E1 j hj hno => lE_out hno) (fun r_2 Em H locs hq hW hS => ?_)
  rw [← hr_] at hq
  by_cases hK : r_1 = 0
  · skip
    have hp := hp.resolve_right (fun q => q.1 hK)
    obtain ⟨-, ho, hC⟩ := hp
    obtain ⟨hr2, hM⟩ := hq
    have hr2 := hr2 hK
    refine lv_istore (lv' := [(7, .int r_2), (6, .int r_1), (0, .ref b), (1, .ref (ad 0)), (2, .ref (ad 110)), (3, .ref (ad 109)), (4, .ref (ad 123)), (5, .int (nI (4 * t)))]) hx hb dL_law_1191 hl (by decide) rfl (fun ls hl => ?_)
    refine lv_aload_n hx hb dL_law_1193 rfl (lv_at hl 4 rfl) ?_
    obtain ⟨du, mA, mC, mH, mG, mS, mI, mT, mP, hEm⟩ := id hM
    subst hEm
    refine y_ci (y_runV B hT hX hW hS (σ := fun k => 110 + k) (ad' := fun k => ad (110 + k)) (n9 := 13) (fun k hk => by omega) (fun k _ => rfl) (fun k hk => lE_m hk) (k := 0) (As := []) (rest := []) (fun sz => mm_thrown hI13 _ _ _ _ _ _ _ _ _ _ _ _ _ _ _ _ _ _ _ _ _ _ rfl rfl sz) (cwL_125 B.2.2.2.2.1 ⟨Nat.le_of_ble_eq_true rfl, Nat.le_of_ble_eq_true rfl⟩) (b_recv B hW (by omega) ((lE_m (k := 0) (by omega)).trans mE_0) rfl) rfl hl.1 (Nat.le_of_ble_eq_true rfl) dL_law_1194 ⟨by show _ ≤ 603072; omega, by show _ ≤ 7194730; omega⟩) hI hW hS (fun k hk => by omega) (fun k _ => rfl) (fun E1 => lE cJ cF Ec E1 o od) (fun E1 k hk => lE_m hk) (fun E1 j hj hno => lE_out hno) (fun r_3 Em H locs hq hW hS => ?_)
    obtain ⟨hr3, hE_⟩ := hq
    rw [hE_] at hW
    refine lv_iload hx hb dL_law_1197 (lv_at hl 1 rfl) ?_
    refine lv_icmp_eq (tgt := 1204) hx hb dL_law_1199 (by decide) (fun c_1199 => ?_) (fun c_1199 => ?_)
    rotate_left
    · exact absurd hr3 c_1199
    refine lv_iload hx hb dL_law_1204 (lv_at hl 1 rfl) ?_
    refine lv_if_ne (tgt := 1221) hx hb dL_law_1206 (by decide) (fun c_1206 => ?_) (fun c_1206 => ?_)
    · exact absurd hK c_1206
    refine lv_aload_n hx hb dL_law_1209 rfl (lv_at hl 5 rfl) ?_
    refine lv_iconst (v := nI 0) hx hb dL_law_1210 (by decide) ?_
    refine b_lald B hW rfl (j := 0) (by omega) lE_109 (vp_in_nI (by omega) (by omega)) rfl dL_law_1211 ?_
    refine lv_iload hx hb dL_law_1212 (lv_at hl 0 rfl) ?_
    refine lv_i2l hx hb dL_law_1214 rfl ?_
    refine b_lcmp hx hb dL_law_1215 ?_
    refine lv_if_eq (tgt := 1221) hx hb dL_law_1216 (by decide) (fun c_1216 => ?_) (fun c_1216 => ?_)
    rotate_left
    · exact absurd (lcm_0.mpr (by rw [ho, hr2])) c_1216
    refine lv_goto (tgt := 2118) hx hb dL_law_1221 (by decide) ?_
    exact K _ _ _ _ _ _ _ _ _ _ _ _ _ _ _ _ _ _ _ _ hC hM hW hS (lv_sub hl [2, 3, 4, 5, 6, 7] rfl)
  · skip
    have hp := hp.resolve_left (fun q => hK q.1)
    obtain ⟨-, hC⟩ := hp
    obtain ⟨-, hM⟩ := hq
    refine lv_istore (lv' := [(7, .int r_2), (6, .int r_1), (0, .ref b), (1, .ref (ad 0)), (2, .ref (ad 110)), (3, .ref (ad 109)), (4, .ref (ad 123)), (5, .int (nI (4 * t)))]) hx hb dL_law_1191 hl (by decide) rfl (fun ls hl => ?_)
    refine lv_aload_n hx hb dL_law_1193 rfl (lv_at hl 4 rfl) ?_
    obtain ⟨du, mA, mC, mH, mG, mS, mI, mT, mP, hEm⟩ := id hM
    subst hEm
    refine y_ci (y_runV B hT hX hW hS (σ := fun k => 110 + k) (ad' := fun k => ad (110 + k)) (n9 := 13) (fun k hk => by omega) (fun k _ => rfl) (fun k hk => lE_m hk) (k := 0) (As := []) (rest := []) (fun sz => mm_thrown hI13 _ _ _ _ _ _ _ _ _ _ _ _ _ _ _ _ _ _ _ _ _ _ rfl rfl sz) (cwL_125 B.2.2.2.2.1 ⟨Nat.le_of_ble_eq_true rfl, Nat.le_of_ble_eq_true rfl⟩) (b_recv B hW (by omega) ((lE_m (k := 0) (by omega)).trans mE_0) rfl) rfl hl.1 (Nat.le_of_ble_eq_true rfl) dL_law_1194 ⟨by show _ ≤ 603072; omega, by show _ ≤ 7194730; omega⟩) hI hW hS (fun k hk => by omega) (fun k _ => rfl) (fun E1 => lE cJ cF Ec E1 o od) (fun E1 k hk => lE_m hk) (fun E1 j hj hno => lE_out hno) (fun r_3 Em H locs hq hW hS => ?_)
    obtain ⟨hr3, hE_⟩ := hq
    rw [hE_] at hW
    refine lv_iload hx hb dL_law_1197 (lv_at hl 1 rfl) ?_
    refine lv_icmp_eq (tgt := 1204) hx hb dL_law_1199 (by decide) (fun c_1199 => ?_) (fun c_1199 => ?_)
    rotate_left
    · exact absurd hr3 c_1199
    refine lv_iload hx hb dL_law_1204 (lv_at hl 1 rfl) ?_
    refine lv_if_ne (tgt := 1221) hx hb dL_law_1206 (by decide) (fun c_1206 => ?_) (fun c_1206 => ?_)
    rotate_left
    · exact absurd c_1206 hK
    refine lv_goto (tgt := 2118) hx hb dL_law_1221 (by decide) ?_
    exact K _ _ _ _ _ _ _ _ _ _ _ _ _ _ _ _ _ _ _ _ hC hM hW hS (lv_sub hl [2, 3, 4, 5, 6, 7] rfl)
set_option maxHeartbeats 4000000 in
set_option maxRecDepth 100000 in
theorem lc_18 {p : Program} {l : Launch} {e : Env} {s : State} {m : MethodId} {args : Array Value} {below : List Frame} {meth : Method} {c : Code} {Q : State → Prop} {D : va_G} {ad : Nat → Nat} {cI cZ cH cP cT cJ cF : ClassId} {b L : Nat} {xs : Nat → Int32} (C : LC p l s m args c D ad cI cZ cH cP cT cJ cF b L xs) {t cells slots : Nat} (ht : 4 * t + 4 ≤ L) (hc : cells + 8 ≤ 603072) (hs : slots + 48 ≤ 7194730) (K : LK p l e s m args below meth c Q D ad cI cZ cH cP cT cJ cF b t (cells + 8) (slots + 48)) {V T : Nat → Nat → Int32} {ag : Nat → Int32} {nP nH rN : Nat} {nf pn : Int32} {sp sk : Int64} {py pd : Nat → Nat → Int32} {th : Int32} {Ec Em : Nat → va_E} {o : Nat → Int64} {od : Nat → UInt64} {H : Heap} {locs : List Loc} {ls : Array Slot} (hC : CW cI cZ cH cP cT ad V T ag nP nH rN nf pn sp sk py pd Ec) (hM : MW cI cZ (fun k => ad (110 + k)) th V T ag nP nH rN nf pn sp sk py pd Em) (hW : hH D ad 124 (lE cJ cF Ec Em o od) H) (hS : va_S (cA ad 124 s.heap.size) s.heap H locs) (hl : lv_has ls 9 [(0, .ref b), (1, .ref (ad 0)), (2, .ref (ad 110)), (3, .ref (ad 109)), (4, .ref (ad 123)), (5, .int (nI (4 * t)))]) : W p l e room_1 s m args below meth c H locs cells slots Q (F0 m 1224 ls []) := by
  obtain ⟨B, ⟨hlf, hT, hN, hX, hI⟩, hXs, hbl, hbA, hL⟩ := C
  have hx := B.1
  have hb := B.2.1
  have hI109 : aI ad 109 := hI.subw (σ := fun k => k) (fun k hk => by omega) (fun k _ => rfl) (fun i j _ _ e => e)
  have hI110 : aI ad 110 := hI.subw (σ := fun k => k) (fun k hk => by omega) (fun k _ => rfl) (fun i j _ _ e => e)
  have hI110d : aI (fun k => ad (sD k)) 110 := hI.subw (σ := sD) (fun k hk => sD_lt k hk) (fun k _ => rfl) sD_inj
  have hI13 : aI (fun k => ad (110 + k)) 13 := hI.subw (σ := fun k => 110 + k) (fun k hk => by omega) (fun k _ => rfl) (fun i j _ _ e => by have e : 110 + i = 110 + j := e; omega)
  obtain ⟨so, en, rA, rC, rI, aA, aC, aH, aT, aP, hEc, hInv⟩ := hC
  subst hEc
  obtain ⟨du, mA, mC, mH, mG, mS, mI, mT, mP, hEm⟩ := hM
  subst hEm
  refine lv_aload_n hx hb dL_law_1224 rfl (lv_at hl 1 rfl) ?_
  refine lv_aload_n hx hb dL_law_1225 rfl (lv_at hl 0 rfl) ?_
  refine lv_iload hx hb dL_law_1226 (lv_at hl 5 rfl) ?_
  refine lv_iconst (v := nI 1) hx hb dL_law_1228 (by decide) ?_
  refine lv_iadd hx hb dL_law_1229 ?_
  refine b_top (y := nI (4 * t + 1)) (nI_add _ _) ?_
  refine va_sld hx hb hXs hbl hbA hS (vp_in_nI (by omega) (by omega)) dL_law_1230 ?_
  refine b_top (y := xs (4 * t + 1)) (by rw [nI_clamp (by omega)]) ?_
  refine lv_i2c (v := (Int32.toUInt32 (xs (4 * t + 1)) % 65536).toInt32) hx hb dL_law_1231 rfl ?_
  refine lv_aload_n hx hb dL_law_1232 rfl (lv_at hl 0 rfl) ?_
  refine lv_iload hx hb dL_law_1233 (lv_at hl 5 rfl) ?_
  refine lv_iconst (v := nI 2) hx hb dL_law_1235 (by decide) ?_
  refine lv_iadd hx hb dL_law_1236 ?_
  refine b_top (y := nI (4 * t + 2)) (nI_add _ _) ?_
  refine va_sld hx hb hXs hbl hbA hS (vp_in_nI (by omega) (by omega)) dL_law_1237 ?_
  refine b_top (y := xs (4 * t + 2)) (by rw [nI_clamp (by omega)]) ?_
  refine lv_aload_n hx hb dL_law_1238 rfl (lv_at hl 3 rfl) ?_
  refine y_ci (y_runSW B hT hX hN hW hS (σ := fun k => k) (ad' := ad) (n9 := 110) (fun k hk => by omega) (fun k _ => rfl) (fun k hk => lE_h hk) (As := [.ref (ad 0), .int ((Int32.toUInt32 (xs (4 * t + 1)) % 65536).toInt32), .int (xs (4 * t + 2)), .ref (ad 109)]) (rest := []) (fun sz => lh_ruleAt hlf hI110 o V T ag nP nH rN nf pn sp sk py pd so en rA rC rI aA aC aH aT aP (((Int32.toUInt32 (xs (4 * t + 1)) % 65536).toInt32)) ((xs (4 * t + 2))) rfl rfl rfl rfl rfl rfl rfl hInv (ad := ad) sz) (cwL_188 B.2.2.2.2.1 ⟨Nat.le_of_ble_eq_true rfl, Nat.le_of_ble_eq_true rfl⟩) rfl hl.1 (Nat.le_of_ble_eq_true rfl) dL_law_1239 ⟨by show _ ≤ 603072; omega, by show _ ≤ 7194730; omega⟩) hI hW hS (fun k hk => by omega) (fun k _ => rfl) (fun E1 => gH cF E1 (mE cI cZ (fun k => ad (110 + k)) th nP nH rN nf pn sp sk ag (RV V) (RV T) (FL pd) (FL py) du mA mC mH mG mS mI mT mP) od) (fun E1 k hk => gH_in hk) (fun E1 j hj hno => gH_out hno) (fun r_1 E1 H locs hp hW hS => ?_)
  obtain ⟨hr_, Ec, o, hE_, hp⟩ := hp
  have hW : hH D ad 124 (lE cJ cF Ec (mE cI cZ (fun k => ad (110 + k)) th nP nH rN nf pn sp sk ag (RV V) (RV T) (FL pd) (FL py) du mA mC mH mG mS mI mT mP) o od) H := hW.eq (by rw [hE_, gH_eq])
  rw [← hr_] at hp
  refine lv_istore (lv' := [(6, .int r_1), (0, .ref b), (1, .ref (ad 0)), (2, .ref (ad 110)), (3, .ref (ad 109)), (4, .ref (ad 123)), (5, .int (nI (4 * t)))]) hx hb dL_law_1242 hl (by decide) rfl (fun ls hl => ?_)
  refine lv_aload_n hx hb dL_law_1244 rfl (lv_at hl 3 rfl) ?_
  refine lv_aload_n hx hb dL_law_1245 rfl (lv_at hl 1 rfl) ?_
  refine lv_iload hx hb dL_law_1246 (lv_at hl 6 rfl) ?_
  refine lv_iconst (v := nI 1) hx hb dL_law_1248 (by decide) ?_
  refine lv_iadd hx hb dL_law_1249 ?_
  refine b_top (y := nI (4 * t + 1)) (nI_add _ _) ?_
  refine va_sld hx hb hXs hbl hbA hS (vp_in_nI (by omega) (by omega)) dL_law_1250 ?_
  refine b_top (y := xs (4 * t + 1)) (by rw [nI_clamp (by omega)]) ?_
  refine lv_i2c (v := (Int32.toUInt32 (xs (4 * t + 1)) % 65536).toInt32) hx hb dL_law_1251 rfl ?_
  refine lv_aload_n hx hb dL_law_1252 rfl (lv_at hl 1 rfl) ?_
  refine lv_iload hx hb dL_law_1253 (lv_at hl 6 rfl) ?_
  refine lv_iconst (v := nI 2) hx hb dL_law_1255 (by decide) ?_
  refine lv_iadd hx hb dL_law_1256 ?_
  refine b_top (y := nI (4 * t + 2)) (nI_add _ _) ?_
  refine va_sld hx hb hXs hbl hbA hS (vp_in_nI (by omega) (by omega)) dL_law_1257 ?_
  refine b_top (y := xs (4 * t + 2)) (by rw [nI_clamp (by omega)]) ?_
  refine y_ci (y_runV B hT hX hW hS (σ := fun k => 110 + k) (ad' := fun k => ad (110 + k)) (n9 := 13) (fun k hk => by omega) (fun k _ => rfl) (fun k hk => lE_m hk) (k := 0) (As := [.int ((Int32.toUInt32 (xs (4 * t + 1)) % 65536).toInt32), .int (xs (4 * t + 2))]) (rest := []) (fun sz => mm_ruleAt hI13 th nP nH rN nf pn sp sk ag V T pd py du mA mC mH mG mS mI mT mP (((Int32.toUInt32 (xs (4 * t + 1)) % 65536).toInt32)) ((xs (4 * t + 2))) so rfl rfl hInv sz) (cwL_190 B.2.2.2.2.1 ⟨Nat.le_of_ble_eq_true rfl, Nat.le_of_ble_eq_true rfl⟩) (b_recv B hW (by omega) ((lE_m (k := 0) (by omega)).trans mE_0) rfl) rfl hl.1 (Nat.le_of_ble_eq_true rfl) dL_law_1258 ⟨by show _ ≤ 603072; omega, by show _ ≤ 7194730; omega⟩) hI hW hS (fun k hk => by omega) (fun k _ => rfl) (fun E1 => lE cJ cF Ec E1 o od) (fun E1 k hk => lE_m hk) (fun E1 j hj hno => lE_out hno) (fun r_2 Em H locs hq hW hS => ?_)
  rw [← hr_] at hq
  by_cases hK : r_1 = 0
  · skip
    have hp := hp.resolve_right (fun q => q.1 hK)
    obtain ⟨-, ho, hC⟩ := hp
    obtain ⟨hr2, hM⟩ := hq
    have hr2 := hr2 hK
    refine lv_istore (lv' := [(7, .int r_2), (6, .int r_1), (0, .ref b), (1, .ref (ad 0)), (2, .ref (ad 110)), (3, .ref (ad 109)), (4, .ref (ad 123)), (5, .int (nI (4 * t)))]) hx hb dL_law_1261 hl (by decide) rfl (fun ls hl => ?_)
    refine lv_aload_n hx hb dL_law_1263 rfl (lv_at hl 4 rfl) ?_
    obtain ⟨du, mA, mC, mH, mG, mS, mI, mT, mP, hEm⟩ := id hM
    subst hEm
    refine y_ci (y_runV B hT hX hW hS (σ := fun k => 110 + k) (ad' := fun k => ad (110 + k)) (n9 := 13) (fun k hk => by omega) (fun k _ => rfl) (fun k hk => lE_m hk) (k := 0) (As := []) (rest := []) (fun sz => mm_thrown hI13 _ _ _ _ _ _ _ _ _ _ _ _ _ _ _ _ _ _ _ _ _ _ rfl rfl sz) (cwL_125 B.2.2.2.2.1 ⟨Nat.le_of_ble_eq_true rfl, Nat.le_of_ble_eq_true rfl⟩) (b_recv B hW (by omega) ((lE_m (k := 0) (by omega)).trans mE_0) rfl) rfl hl.1 (Nat.le_of_ble_eq_true rfl) dL_law_1264 ⟨by show _ ≤ 603072; omega, by show _ ≤ 7194730; omega⟩) hI hW hS (fun k hk => by omega) (fun k _ => rfl) (fun E1 => lE cJ cF Ec E1 o od) (fun E1 k hk => lE_m hk) (fun E1 j hj hno => lE_out hno) (fun r_3 Em H locs hq hW hS => ?_)
    obtain ⟨hr3, hE_⟩ := hq
    rw [hE_] at hW
    refine lv_iload hx hb dL_law_1267 (lv_at hl 1 rfl) ?_
    refine lv_icmp_eq (tgt := 1274) hx hb dL_law_1269 (by decide) (fun c_1269 => ?_) (fun c_1269 => ?_)
    rotate_left
    · exact absurd hr3 c_1269
    refine lv_iload hx hb dL_law_1274 (lv_at hl 1 rfl) ?_
    refine lv_if_ne (tgt := 1291) hx hb dL_law_1276 (by decide) (fun c_1276 => ?_) (fun c_1276 => ?_)
    · exact absurd hK c_1276
    refine lv_aload_n hx hb dL_law_1279 rfl (lv_at hl 5 rfl) ?_
    refine lv_iconst (v := nI 0) hx hb dL_law_1280 (by decide) ?_
    refine b_lald B hW rfl (j := 0) (by omega) lE_109 (vp_in_nI (by omega) (by omega)) rfl dL_law_1281 ?_
    refine lv_iload hx hb dL_law_1282 (lv_at hl 0 rfl) ?_
    refine lv_i2l hx hb dL_law_1284 rfl ?_
    refine b_lcmp hx hb dL_law_1285 ?_
    refine lv_if_eq (tgt := 1291) hx hb dL_law_1286 (by decide) (fun c_1286 => ?_) (fun c_1286 => ?_)
    rotate_left
    · exact absurd (lcm_0.mpr (by rw [ho, hr2])) c_1286
    refine lv_goto (tgt := 2118) hx hb dL_law_1291 (by decide) ?_
    exact K _ _ _ _ _ _ _ _ _ _ _ _ _ _ _ _ _ _ _ _ hC hM hW hS (lv_sub hl [2, 3, 4, 5, 6, 7] rfl)
  · skip
    have hp := hp.resolve_left (fun q => hK q.1)
    obtain ⟨-, hC⟩ := hp
    obtain ⟨-, hM⟩ := hq
    refine lv_istore (lv' := [(7, .int r_2), (6, .int r_1), (0, .ref b), (1, .ref (ad 0)), (2, .ref (ad 110)), (3, .ref (ad 109)), (4, .ref (ad 123)), (5, .int (nI (4 * t)))]) hx hb dL_law_1261 hl (by decide) rfl (fun ls hl => ?_)
    refine lv_aload_n hx hb dL_law_1263 rfl (lv_at hl 4 rfl) ?_
    obtain ⟨du, mA, mC, mH, mG, mS, mI, mT, mP, hEm⟩ := id hM
    subst hEm
    refine y_ci (y_runV B hT hX hW hS (σ := fun k => 110 + k) (ad' := fun k => ad (110 + k)) (n9 := 13) (fun k hk => by omega) (fun k _ => rfl) (fun k hk => lE_m hk) (k := 0) (As := []) (rest := []) (fun sz => mm_thrown hI13 _ _ _ _ _ _ _ _ _ _ _ _ _ _ _ _ _ _ _ _ _ _ rfl rfl sz) (cwL_125 B.2.2.2.2.1 ⟨Nat.le_of_ble_eq_true rfl, Nat.le_of_ble_eq_true rfl⟩) (b_recv B hW (by omega) ((lE_m (k := 0) (by omega)).trans mE_0) rfl) rfl hl.1 (Nat.le_of_ble_eq_true rfl) dL_law_1264 ⟨by show _ ≤ 603072; omega, by show _ ≤ 7194730; omega⟩) hI hW hS (fun k hk => by omega) (fun k _ => rfl) (fun E1 => lE cJ cF Ec E1 o od) (fun E1 k hk => lE_m hk) (fun E1 j hj hno => lE_out hno) (fun r_3 Em H locs hq hW hS => ?_)
    obtain ⟨hr3, hE_⟩ := hq
    rw [hE_] at hW
    refine lv_iload hx hb dL_law_1267 (lv_at hl 1 rfl) ?_
    refine lv_icmp_eq (tgt := 1274) hx hb dL_law_1269 (by decide) (fun c_1269 => ?_) (fun c_1269 => ?_)
    rotate_left
    · exact absurd hr3 c_1269
    refine lv_iload hx hb dL_law_1274 (lv_at hl 1 rfl) ?_
    refine lv_if_ne (tgt := 1291) hx hb dL_law_1276 (by decide) (fun c_1276 => ?_) (fun c_1276 => ?_)
    rotate_left
    · exact absurd c_1276 hK
    refine lv_goto (tgt := 2118) hx hb dL_law_1291 (by decide) ?_
    exact K _ _ _ _ _ _ _ _ _ _ _ _ _ _ _ _ _ _ _ _ hC hM hW hS (lv_sub hl [2, 3, 4, 5, 6, 7] rfl)
set_option maxHeartbeats 4000000 in
set_option maxRecDepth 100000 in
theorem lc_19 {p : Program} {l : Launch} {e : Env} {s : State} {m : MethodId} {args : Array Value} {below : List Frame} {meth : Method} {c : Code} {Q : State → Prop} {D : va_G} {ad : Nat → Nat} {cI cZ cH cP cT cJ cF : ClassId} {b L : Nat} {xs : Nat → Int32} (C : LC p l s m args c D ad cI cZ cH cP cT cJ cF b L xs) {t cells slots : Nat} (ht : 4 * t + 4 ≤ L) (hc : cells + 8 ≤ 603072) (hs : slots + 48 ≤ 7194730) (K : LK p l e s m args below meth c Q D ad cI cZ cH cP cT cJ cF b t (cells + 8) (slots + 48)) {V T : Nat → Nat → Int32} {ag : Nat → Int32} {nP nH rN : Nat} {nf pn : Int32} {sp sk : Int64} {py pd : Nat → Nat → Int32} {th : Int32} {Ec Em : Nat → va_E} {o : Nat → Int64} {od : Nat → UInt64} {H : Heap} {locs : List Loc} {ls : Array Slot} (hC : CW cI cZ cH cP cT ad V T ag nP nH rN nf pn sp sk py pd Ec) (hM : MW cI cZ (fun k => ad (110 + k)) th V T ag nP nH rN nf pn sp sk py pd Em) (hW : hH D ad 124 (lE cJ cF Ec Em o od) H) (hS : va_S (cA ad 124 s.heap.size) s.heap H locs) (hl : lv_has ls 9 [(0, .ref b), (1, .ref (ad 0)), (2, .ref (ad 110)), (3, .ref (ad 109)), (4, .ref (ad 123)), (5, .int (nI (4 * t)))]) : W p l e room_1 s m args below meth c H locs cells slots Q (F0 m 1294 ls []) := by
  obtain ⟨B, ⟨hlf, hT, hN, hX, hI⟩, hXs, hbl, hbA, hL⟩ := C
  have hx := B.1
  have hb := B.2.1
  have hI109 : aI ad 109 := hI.subw (σ := fun k => k) (fun k hk => by omega) (fun k _ => rfl) (fun i j _ _ e => e)
  have hI110 : aI ad 110 := hI.subw (σ := fun k => k) (fun k hk => by omega) (fun k _ => rfl) (fun i j _ _ e => e)
  have hI110d : aI (fun k => ad (sD k)) 110 := hI.subw (σ := sD) (fun k hk => sD_lt k hk) (fun k _ => rfl) sD_inj
  have hI13 : aI (fun k => ad (110 + k)) 13 := hI.subw (σ := fun k => 110 + k) (fun k hk => by omega) (fun k _ => rfl) (fun i j _ _ e => by have e : 110 + i = 110 + j := e; omega)
  obtain ⟨so, en, rA, rC, rI, aA, aC, aH, aT, aP, hEc, hInv⟩ := hC
  subst hEc
  obtain ⟨du, mA, mC, mH, mG, mS, mI, mT, mP, hEm⟩ := hM
  subst hEm
  refine lv_aload_n hx hb dL_law_1294 rfl (lv_at hl 1 rfl) ?_
  refine lv_aload_n hx hb dL_law_1295 rfl (lv_at hl 0 rfl) ?_
  refine lv_iload hx hb dL_law_1296 (lv_at hl 5 rfl) ?_
  refine lv_iconst (v := nI 1) hx hb dL_law_1298 (by decide) ?_
  refine lv_iadd hx hb dL_law_1299 ?_
  refine b_top (y := nI (4 * t + 1)) (nI_add _ _) ?_
  refine va_sld hx hb hXs hbl hbA hS (vp_in_nI (by omega) (by omega)) dL_law_1300 ?_
  refine b_top (y := xs (4 * t + 1)) (by rw [nI_clamp (by omega)]) ?_
  refine lv_aload_n hx hb dL_law_1301 rfl (lv_at hl 0 rfl) ?_
  refine lv_iload hx hb dL_law_1302 (lv_at hl 5 rfl) ?_
  refine lv_iconst (v := nI 2) hx hb dL_law_1304 (by decide) ?_
  refine lv_iadd hx hb dL_law_1305 ?_
  refine b_top (y := nI (4 * t + 2)) (nI_add _ _) ?_
  refine va_sld hx hb hXs hbl hbA hS (vp_in_nI (by omega) (by omega)) dL_law_1306 ?_
  refine b_top (y := xs (4 * t + 2)) (by rw [nI_clamp (by omega)]) ?_
  refine lv_aload_n hx hb dL_law_1307 rfl (lv_at hl 3 rfl) ?_
  refine y_ci (y_runSW B hT hX hN hW hS (σ := fun k => k) (ad' := ad) (n9 := 110) (fun k hk => by omega) (fun k _ => rfl) (fun k hk => lE_h hk) (As := [.ref (ad 0), .int (xs (4 * t + 1)), .int (xs (4 * t + 2)), .ref (ad 109)]) (rest := []) (fun sz => lh_adults hlf hI110 o V T ag nP nH rN nf pn sp sk py pd so en rA rC rI aA aC aH aT aP ((xs (4 * t + 1))) ((xs (4 * t + 2))) rfl rfl rfl rfl rfl rfl rfl hInv (ad := ad) sz) (cwL_191 B.2.2.2.2.1 ⟨Nat.le_of_ble_eq_true rfl, Nat.le_of_ble_eq_true rfl⟩) rfl hl.1 (Nat.le_of_ble_eq_true rfl) dL_law_1308 ⟨by show _ ≤ 603072; omega, by show _ ≤ 7194730; omega⟩) hI hW hS (fun k hk => by omega) (fun k _ => rfl) (fun E1 => gH cF E1 (mE cI cZ (fun k => ad (110 + k)) th nP nH rN nf pn sp sk ag (RV V) (RV T) (FL pd) (FL py) du mA mC mH mG mS mI mT mP) od) (fun E1 k hk => gH_in hk) (fun E1 j hj hno => gH_out hno) (fun r_1 E1 H locs hp hW hS => ?_)
  obtain ⟨hr_, Ec, o, hE_, hp⟩ := hp
  have hW : hH D ad 124 (lE cJ cF Ec (mE cI cZ (fun k => ad (110 + k)) th nP nH rN nf pn sp sk ag (RV V) (RV T) (FL pd) (FL py) du mA mC mH mG mS mI mT mP) o od) H := hW.eq (by rw [hE_, gH_eq])
  rw [← hr_] at hp
  refine lv_istore (lv' := [(6, .int r_1), (0, .ref b), (1, .ref (ad 0)), (2, .ref (ad 110)), (3, .ref (ad 109)), (4, .ref (ad 123)), (5, .int (nI (4 * t)))]) hx hb dL_law_1311 hl (by decide) rfl (fun ls hl => ?_)
  refine lv_aload_n hx hb dL_law_1313 rfl (lv_at hl 3 rfl) ?_
  refine lv_aload_n hx hb dL_law_1314 rfl (lv_at hl 1 rfl) ?_
  refine lv_iload hx hb dL_law_1315 (lv_at hl 6 rfl) ?_
  refine lv_iconst (v := nI 1) hx hb dL_law_1317 (by decide) ?_
  refine lv_iadd hx hb dL_law_1318 ?_
  refine b_top (y := nI (4 * t + 1)) (nI_add _ _) ?_
  refine va_sld hx hb hXs hbl hbA hS (vp_in_nI (by omega) (by omega)) dL_law_1319 ?_
  refine b_top (y := xs (4 * t + 1)) (by rw [nI_clamp (by omega)]) ?_
  refine lv_aload_n hx hb dL_law_1320 rfl (lv_at hl 1 rfl) ?_
  refine lv_iload hx hb dL_law_1321 (lv_at hl 6 rfl) ?_
  refine lv_iconst (v := nI 2) hx hb dL_law_1323 (by decide) ?_
  refine lv_iadd hx hb dL_law_1324 ?_
  refine b_top (y := nI (4 * t + 2)) (nI_add _ _) ?_
  refine va_sld hx hb hXs hbl hbA hS (vp_in_nI (by omega) (by omega)) dL_law_1325 ?_
  refine b_top (y := xs (4 * t + 2)) (by rw [nI_clamp (by omega)]) ?_
  refine y_ci (y_runV B hT hX hW hS (σ := fun k => 110 + k) (ad' := fun k => ad (110 + k)) (n9 := 13) (fun k hk => by omega) (fun k _ => rfl) (fun k hk => lE_m hk) (k := 0) (As := [.int (xs (4 * t + 1)), .int (xs (4 * t + 2))]) (rest := []) (fun sz => mm_adults hI13 th nP nH rN nf pn sp sk ag V T pd py du mA mC mH mG mS mI mT mP ((xs (4 * t + 1))) ((xs (4 * t + 2))) so rfl rfl hInv sz) (cwL_193 B.2.2.2.2.1 ⟨Nat.le_of_ble_eq_true rfl, Nat.le_of_ble_eq_true rfl⟩) (b_recv B hW (by omega) ((lE_m (k := 0) (by omega)).trans mE_0) rfl) rfl hl.1 (Nat.le_of_ble_eq_true rfl) dL_law_1326 ⟨by show _ ≤ 603072; omega, by show _ ≤ 7194730; omega⟩) hI hW hS (fun k hk => by omega) (fun k _ => rfl) (fun E1 => lE cJ cF Ec E1 o od) (fun E1 k hk => lE_m hk) (fun E1 j hj hno => lE_out hno) (fun r_2 Em H locs hq hW hS => ?_)
  rw [← hr_] at hq
  by_cases hK : r_1 = 0
  · skip
    have hp := hp.resolve_right (fun q => q.1 hK)
    obtain ⟨-, ho, hC⟩ := hp
    obtain ⟨hr2, hM⟩ := hq
    have hr2 := hr2 hK
    refine lv_istore (lv' := [(7, .int r_2), (6, .int r_1), (0, .ref b), (1, .ref (ad 0)), (2, .ref (ad 110)), (3, .ref (ad 109)), (4, .ref (ad 123)), (5, .int (nI (4 * t)))]) hx hb dL_law_1329 hl (by decide) rfl (fun ls hl => ?_)
    refine lv_aload_n hx hb dL_law_1331 rfl (lv_at hl 4 rfl) ?_
    obtain ⟨du, mA, mC, mH, mG, mS, mI, mT, mP, hEm⟩ := id hM
    subst hEm
    refine y_ci (y_runV B hT hX hW hS (σ := fun k => 110 + k) (ad' := fun k => ad (110 + k)) (n9 := 13) (fun k hk => by omega) (fun k _ => rfl) (fun k hk => lE_m hk) (k := 0) (As := []) (rest := []) (fun sz => mm_thrown hI13 _ _ _ _ _ _ _ _ _ _ _ _ _ _ _ _ _ _ _ _ _ _ rfl rfl sz) (cwL_125 B.2.2.2.2.1 ⟨Nat.le_of_ble_eq_true rfl, Nat.le_of_ble_eq_true rfl⟩) (b_recv B hW (by omega) ((lE_m (k := 0) (by omega)).trans mE_0) rfl) rfl hl.1 (Nat.le_of_ble_eq_true rfl) dL_law_1332 ⟨by show _ ≤ 603072; omega, by show _ ≤ 7194730; omega⟩) hI hW hS (fun k hk => by omega) (fun k _ => rfl) (fun E1 => lE cJ cF Ec E1 o od) (fun E1 k hk => lE_m hk) (fun E1 j hj hno => lE_out hno) (fun r_3 Em H locs hq hW hS => ?_)
    obtain ⟨hr3, hE_⟩ := hq
    rw [hE_] at hW
    refine lv_iload hx hb dL_law_1335 (lv_at hl 1 rfl) ?_
    refine lv_icmp_eq (tgt := 1342) hx hb dL_law_1337 (by decide) (fun c_1337 => ?_) (fun c_1337 => ?_)
    rotate_left
    · exact absurd hr3 c_1337
    refine lv_iload hx hb dL_law_1342 (lv_at hl 1 rfl) ?_
    refine lv_if_ne (tgt := 1359) hx hb dL_law_1344 (by decide) (fun c_1344 => ?_) (fun c_1344 => ?_)
    · exact absurd hK c_1344
    refine lv_aload_n hx hb dL_law_1347 rfl (lv_at hl 5 rfl) ?_
    refine lv_iconst (v := nI 0) hx hb dL_law_1348 (by decide) ?_
    refine b_lald B hW rfl (j := 0) (by omega) lE_109 (vp_in_nI (by omega) (by omega)) rfl dL_law_1349 ?_
    refine lv_iload hx hb dL_law_1350 (lv_at hl 0 rfl) ?_
    refine lv_i2l hx hb dL_law_1352 rfl ?_
    refine b_lcmp hx hb dL_law_1353 ?_
    refine lv_if_eq (tgt := 1359) hx hb dL_law_1354 (by decide) (fun c_1354 => ?_) (fun c_1354 => ?_)
    rotate_left
    · exact absurd (lcm_0.mpr (by rw [ho, hr2])) c_1354
    refine lv_goto (tgt := 2118) hx hb dL_law_1359 (by decide) ?_
    exact K _ _ _ _ _ _ _ _ _ _ _ _ _ _ _ _ _ _ _ _ hC hM hW hS (lv_sub hl [2, 3, 4, 5, 6, 7] rfl)
  · skip
    have hp := hp.resolve_left (fun q => hK q.1)
    obtain ⟨-, hC⟩ := hp
    obtain ⟨-, hM⟩ := hq
    refine lv_istore (lv' := [(7, .int r_2), (6, .int r_1), (0, .ref b), (1, .ref (ad 0)), (2, .ref (ad 110)), (3, .ref (ad 109)), (4, .ref (ad 123)), (5, .int (nI (4 * t)))]) hx hb dL_law_1329 hl (by decide) rfl (fun ls hl => ?_)
    refine lv_aload_n hx hb dL_law_1331 rfl (lv_at hl 4 rfl) ?_
    obtain ⟨du, mA, mC, mH, mG, mS, mI, mT, mP, hEm⟩ := id hM
    subst hEm
    refine y_ci (y_runV B hT hX hW hS (σ := fun k => 110 + k) (ad' := fun k => ad (110 + k)) (n9 := 13) (fun k hk => by omega) (fun k _ => rfl) (fun k hk => lE_m hk) (k := 0) (As := []) (rest := []) (fun sz => mm_thrown hI13 _ _ _ _ _ _ _ _ _ _ _ _ _ _ _ _ _ _ _ _ _ _ rfl rfl sz) (cwL_125 B.2.2.2.2.1 ⟨Nat.le_of_ble_eq_true rfl, Nat.le_of_ble_eq_true rfl⟩) (b_recv B hW (by omega) ((lE_m (k := 0) (by omega)).trans mE_0) rfl) rfl hl.1 (Nat.le_of_ble_eq_true rfl) dL_law_1332 ⟨by show _ ≤ 603072; omega, by show _ ≤ 7194730; omega⟩) hI hW hS (fun k hk => by omega) (fun k _ => rfl) (fun E1 => lE cJ cF Ec E1 o od) (fun E1 k hk => lE_m hk) (fun E1 j hj hno => lE_out hno) (fun r_3 Em H locs hq hW hS => ?_)
    obtain ⟨hr3, hE_⟩ := hq
    rw [hE_] at hW
    refine lv_iload hx hb dL_law_1335 (lv_at hl 1 rfl) ?_
    refine lv_icmp_eq (tgt := 1342) hx hb dL_law_1337 (by decide) (fun c_1337 => ?_) (fun c_1337 => ?_)
    rotate_left
    · exact absurd hr3 c_1337
    refine lv_iload hx hb dL_law_1342 (lv_at hl 1 rfl) ?_
    refine lv_if_ne (tgt := 1359) hx hb dL_law_1344 (by decide) (fun c_1344 => ?_) (fun c_1344 => ?_)
    rotate_left
    · exact absurd c_1344 hK
    refine lv_goto (tgt := 2118) hx hb dL_law_1359 (by decide) ?_
    exact K _ _ _ _ _ _ _ _ _ _ _ _ _ _ _ _ _ _ _ _ hC hM hW hS (lv_sub hl [2, 3, 4, 5, 6, 7] rfl)
set_option maxHeartbeats 4000000 in
set_option maxRecDepth 100000 in
theorem lc_20 {p : Program} {l : Launch} {e : Env} {s : State} {m : MethodId} {args : Array Value} {below : List Frame} {meth : Method} {c : Code} {Q : State → Prop} {D : va_G} {ad : Nat → Nat} {cI cZ cH cP cT cJ cF : ClassId} {b L : Nat} {xs : Nat → Int32} (C : LC p l s m args c D ad cI cZ cH cP cT cJ cF b L xs) {t cells slots : Nat} (ht : 4 * t + 4 ≤ L) (hc : cells + 8 ≤ 603072) (hs : slots + 48 ≤ 7194730) (K : LK p l e s m args below meth c Q D ad cI cZ cH cP cT cJ cF b t (cells + 8) (slots + 48)) {V T : Nat → Nat → Int32} {ag : Nat → Int32} {nP nH rN : Nat} {nf pn : Int32} {sp sk : Int64} {py pd : Nat → Nat → Int32} {th : Int32} {Ec Em : Nat → va_E} {o : Nat → Int64} {od : Nat → UInt64} {H : Heap} {locs : List Loc} {ls : Array Slot} (hC : CW cI cZ cH cP cT ad V T ag nP nH rN nf pn sp sk py pd Ec) (hM : MW cI cZ (fun k => ad (110 + k)) th V T ag nP nH rN nf pn sp sk py pd Em) (hW : hH D ad 124 (lE cJ cF Ec Em o od) H) (hS : va_S (cA ad 124 s.heap.size) s.heap H locs) (hl : lv_has ls 9 [(0, .ref b), (1, .ref (ad 0)), (2, .ref (ad 110)), (3, .ref (ad 109)), (4, .ref (ad 123)), (5, .int (nI (4 * t)))]) : W p l e room_1 s m args below meth c H locs cells slots Q (F0 m 1362 ls []) := by
  obtain ⟨B, ⟨hlf, hT, hN, hX, hI⟩, hXs, hbl, hbA, hL⟩ := C
  have hx := B.1
  have hb := B.2.1
  have hI109 : aI ad 109 := hI.subw (σ := fun k => k) (fun k hk => by omega) (fun k _ => rfl) (fun i j _ _ e => e)
  have hI110 : aI ad 110 := hI.subw (σ := fun k => k) (fun k hk => by omega) (fun k _ => rfl) (fun i j _ _ e => e)
  have hI110d : aI (fun k => ad (sD k)) 110 := hI.subw (σ := sD) (fun k hk => sD_lt k hk) (fun k _ => rfl) sD_inj
  have hI13 : aI (fun k => ad (110 + k)) 13 := hI.subw (σ := fun k => 110 + k) (fun k hk => by omega) (fun k _ => rfl) (fun i j _ _ e => by have e : 110 + i = 110 + j := e; omega)
  obtain ⟨so, en, rA, rC, rI, aA, aC, aH, aT, aP, hEc, hInv⟩ := hC
  subst hEc
  obtain ⟨du, mA, mC, mH, mG, mS, mI, mT, mP, hEm⟩ := hM
  subst hEm
  refine lv_aload_n hx hb dL_law_1362 rfl (lv_at hl 1 rfl) ?_
  refine lv_aload_n hx hb dL_law_1363 rfl (lv_at hl 0 rfl) ?_
  refine lv_iload hx hb dL_law_1364 (lv_at hl 5 rfl) ?_
  refine lv_iconst (v := nI 1) hx hb dL_law_1366 (by decide) ?_
  refine lv_iadd hx hb dL_law_1367 ?_
  refine b_top (y := nI (4 * t + 1)) (nI_add _ _) ?_
  refine va_sld hx hb hXs hbl hbA hS (vp_in_nI (by omega) (by omega)) dL_law_1368 ?_
  refine b_top (y := xs (4 * t + 1)) (by rw [nI_clamp (by omega)]) ?_
  refine lv_aload_n hx hb dL_law_1369 rfl (lv_at hl 0 rfl) ?_
  refine lv_iload hx hb dL_law_1370 (lv_at hl 5 rfl) ?_
  refine lv_iconst (v := nI 2) hx hb dL_law_1372 (by decide) ?_
  refine lv_iadd hx hb dL_law_1373 ?_
  refine b_top (y := nI (4 * t + 2)) (nI_add _ _) ?_
  refine va_sld hx hb hXs hbl hbA hS (vp_in_nI (by omega) (by omega)) dL_law_1374 ?_
  refine b_top (y := xs (4 * t + 2)) (by rw [nI_clamp (by omega)]) ?_
  refine lv_aload_n hx hb dL_law_1375 rfl (lv_at hl 3 rfl) ?_
  refine y_ci (y_runSW B hT hX hN hW hS (σ := fun k => k) (ad' := ad) (n9 := 110) (fun k hk => by omega) (fun k _ => rfl) (fun k hk => lE_h hk) (As := [.ref (ad 0), .int (xs (4 * t + 1)), .int (xs (4 * t + 2)), .ref (ad 109)]) (rest := []) (fun sz => lh_children hlf hI110 o V T ag nP nH rN nf pn sp sk py pd so en rA rC rI aA aC aH aT aP ((xs (4 * t + 1))) ((xs (4 * t + 2))) rfl rfl rfl rfl rfl rfl rfl hInv (ad := ad) sz) (cwL_194 B.2.2.2.2.1 ⟨Nat.le_of_ble_eq_true rfl, Nat.le_of_ble_eq_true rfl⟩) rfl hl.1 (Nat.le_of_ble_eq_true rfl) dL_law_1376 ⟨by show _ ≤ 603072; omega, by show _ ≤ 7194730; omega⟩) hI hW hS (fun k hk => by omega) (fun k _ => rfl) (fun E1 => gH cF E1 (mE cI cZ (fun k => ad (110 + k)) th nP nH rN nf pn sp sk ag (RV V) (RV T) (FL pd) (FL py) du mA mC mH mG mS mI mT mP) od) (fun E1 k hk => gH_in hk) (fun E1 j hj hno => gH_out hno) (fun r_1 E1 H locs hp hW hS => ?_)
  obtain ⟨hr_, Ec, o, hE_, hp⟩ := hp
  have hW : hH D ad 124 (lE cJ cF Ec (mE cI cZ (fun k => ad (110 + k)) th nP nH rN nf pn sp sk ag (RV V) (RV T) (FL pd) (FL py) du mA mC mH mG mS mI mT mP) o od) H := hW.eq (by rw [hE_, gH_eq])
  rw [← hr_] at hp
  refine lv_istore (lv' := [(6, .int r_1), (0, .ref b), (1, .ref (ad 0)), (2, .ref (ad 110)), (3, .ref (ad 109)), (4, .ref (ad 123)), (5, .int (nI (4 * t)))]) hx hb dL_law_1379 hl (by decide) rfl (fun ls hl => ?_)
  refine lv_aload_n hx hb dL_law_1381 rfl (lv_at hl 3 rfl) ?_
  refine lv_aload_n hx hb dL_law_1382 rfl (lv_at hl 1 rfl) ?_
  refine lv_iload hx hb dL_law_1383 (lv_at hl 6 rfl) ?_
  refine lv_iconst (v := nI 1) hx hb dL_law_1385 (by decide) ?_
  refine lv_iadd hx hb dL_law_1386 ?_
  refine b_top (y := nI (4 * t + 1)) (nI_add _ _) ?_
  refine va_sld hx hb hXs hbl hbA hS (vp_in_nI (by omega) (by omega)) dL_law_1387 ?_
  refine b_top (y := xs (4 * t + 1)) (by rw [nI_clamp (by omega)]) ?_
  refine lv_aload_n hx hb dL_law_1388 rfl (lv_at hl 1 rfl) ?_
  refine lv_iload hx hb dL_law_1389 (lv_at hl 6 rfl) ?_
  refine lv_iconst (v := nI 2) hx hb dL_law_1391 (by decide) ?_
  refine lv_iadd hx hb dL_law_1392 ?_
  refine b_top (y := nI (4 * t + 2)) (nI_add _ _) ?_
  refine va_sld hx hb hXs hbl hbA hS (vp_in_nI (by omega) (by omega)) dL_law_1393 ?_
  refine b_top (y := xs (4 * t + 2)) (by rw [nI_clamp (by omega)]) ?_
  refine y_ci (y_runV B hT hX hW hS (σ := fun k => 110 + k) (ad' := fun k => ad (110 + k)) (n9 := 13) (fun k hk => by omega) (fun k _ => rfl) (fun k hk => lE_m hk) (k := 0) (As := [.int (xs (4 * t + 1)), .int (xs (4 * t + 2))]) (rest := []) (fun sz => mm_children hI13 th nP nH rN nf pn sp sk ag V T pd py du mA mC mH mG mS mI mT mP ((xs (4 * t + 1))) ((xs (4 * t + 2))) so rfl rfl hInv sz) (cwL_196 B.2.2.2.2.1 ⟨Nat.le_of_ble_eq_true rfl, Nat.le_of_ble_eq_true rfl⟩) (b_recv B hW (by omega) ((lE_m (k := 0) (by omega)).trans mE_0) rfl) rfl hl.1 (Nat.le_of_ble_eq_true rfl) dL_law_1394 ⟨by show _ ≤ 603072; omega, by show _ ≤ 7194730; omega⟩) hI hW hS (fun k hk => by omega) (fun k _ => rfl) (fun E1 => lE cJ cF Ec E1 o od) (fun E1 k hk => lE_m hk) (fun E1 j hj hno => lE_out hno) (fun r_2 Em H locs hq hW hS => ?_)
  rw [← hr_] at hq
  by_cases hK : r_1 = 0
  · skip
    have hp := hp.resolve_right (fun q => q.1 hK)
    obtain ⟨-, ho, hC⟩ := hp
    obtain ⟨hr2, hM⟩ := hq
    have hr2 := hr2 hK
    refine lv_istore (lv' := [(7, .int r_2), (6, .int r_1), (0, .ref b), (1, .ref (ad 0)), (2, .ref (ad 110)), (3, .ref (ad 109)), (4, .ref (ad 123)), (5, .int (nI (4 * t)))]) hx hb dL_law_1397 hl (by decide) rfl (fun ls hl => ?_)
    refine lv_aload_n hx hb dL_law_1399 rfl (lv_at hl 4 rfl) ?_
    obtain ⟨du, mA, mC, mH, mG, mS, mI, mT, mP, hEm⟩ := id hM
    subst hEm
    refine y_ci (y_runV B hT hX hW hS (σ := fun k => 110 + k) (ad' := fun k => ad (110 + k)) (n9 := 13) (fun k hk => by omega) (fun k _ => rfl) (fun k hk => lE_m hk) (k := 0) (As := []) (rest := []) (fun sz => mm_thrown hI13 _ _ _ _ _ _ _ _ _ _ _ _ _ _ _ _ _ _ _ _ _ _ rfl rfl sz) (cwL_125 B.2.2.2.2.1 ⟨Nat.le_of_ble_eq_true rfl, Nat.le_of_ble_eq_true rfl⟩) (b_recv B hW (by omega) ((lE_m (k := 0) (by omega)).trans mE_0) rfl) rfl hl.1 (Nat.le_of_ble_eq_true rfl) dL_law_1400 ⟨by show _ ≤ 603072; omega, by show _ ≤ 7194730; omega⟩) hI hW hS (fun k hk => by omega) (fun k _ => rfl) (fun E1 => lE cJ cF Ec E1 o od) (fun E1 k hk => lE_m hk) (fun E1 j hj hno => lE_out hno) (fun r_3 Em H locs hq hW hS => ?_)
    obtain ⟨hr3, hE_⟩ := hq
    rw [hE_] at hW
    refine lv_iload hx hb dL_law_1403 (lv_at hl 1 rfl) ?_
    refine lv_icmp_eq (tgt := 1410) hx hb dL_law_1405 (by decide) (fun c_1405 => ?_) (fun c_1405 => ?_)
    rotate_left
    · exact absurd hr3 c_1405
    refine lv_iload hx hb dL_law_1410 (lv_at hl 1 rfl) ?_
    refine lv_if_ne (tgt := 1427) hx hb dL_law_1412 (by decide) (fun c_1412 => ?_) (fun c_1412 => ?_)
    · exact absurd hK c_1412
    refine lv_aload_n hx hb dL_law_1415 rfl (lv_at hl 5 rfl) ?_
    refine lv_iconst (v := nI 0) hx hb dL_law_1416 (by decide) ?_
    refine b_lald B hW rfl (j := 0) (by omega) lE_109 (vp_in_nI (by omega) (by omega)) rfl dL_law_1417 ?_
    refine lv_iload hx hb dL_law_1418 (lv_at hl 0 rfl) ?_
    refine lv_i2l hx hb dL_law_1420 rfl ?_
    refine b_lcmp hx hb dL_law_1421 ?_
    refine lv_if_eq (tgt := 1427) hx hb dL_law_1422 (by decide) (fun c_1422 => ?_) (fun c_1422 => ?_)
    rotate_left
    · exact absurd (lcm_0.mpr (by rw [ho, hr2])) c_1422
    refine lv_goto (tgt := 2118) hx hb dL_law_1427 (by decide) ?_
    exact K _ _ _ _ _ _ _ _ _ _ _ _ _ _ _ _ _ _ _ _ hC hM hW hS (lv_sub hl [2, 3, 4, 5, 6, 7] rfl)
  · skip
    have hp := hp.resolve_left (fun q => hK q.1)
    obtain ⟨-, hC⟩ := hp
    obtain ⟨-, hM⟩ := hq
    refine lv_istore (lv' := [(7, .int r_2), (6, .int r_1), (0, .ref b), (1, .ref (ad 0)), (2, .ref (ad 110)), (3, .ref (ad 109)), (4, .ref (ad 123)), (5, .int (nI (4 * t)))]) hx hb dL_law_1397 hl (by decide) rfl (fun ls hl => ?_)
    refine lv_aload_n hx hb dL_law_1399 rfl (lv_at hl 4 rfl) ?_
    obtain ⟨du, mA, mC, mH, mG, mS, mI, mT, mP, hEm⟩ := id hM
    subst hEm
    refine y_ci (y_runV B hT hX hW hS (σ := fun k => 110 + k) (ad' := fun k => ad (110 + k)) (n9 := 13) (fun k hk => by omega) (fun k _ => rfl) (fun k hk => lE_m hk) (k := 0) (As := []) (rest := []) (fun sz => mm_thrown hI13 _ _ _ _ _ _ _ _ _ _ _ _ _ _ _ _ _ _ _ _ _ _ rfl rfl sz) (cwL_125 B.2.2.2.2.1 ⟨Nat.le_of_ble_eq_true rfl, Nat.le_of_ble_eq_true rfl⟩) (b_recv B hW (by omega) ((lE_m (k := 0) (by omega)).trans mE_0) rfl) rfl hl.1 (Nat.le_of_ble_eq_true rfl) dL_law_1400 ⟨by show _ ≤ 603072; omega, by show _ ≤ 7194730; omega⟩) hI hW hS (fun k hk => by omega) (fun k _ => rfl) (fun E1 => lE cJ cF Ec E1 o od) (fun E1 k hk => lE_m hk) (fun E1 j hj hno => lE_out hno) (fun r_3 Em H locs hq hW hS => ?_)
    obtain ⟨hr3, hE_⟩ := hq
    rw [hE_] at hW
    refine lv_iload hx hb dL_law_1403 (lv_at hl 1 rfl) ?_
    refine lv_icmp_eq (tgt := 1410) hx hb dL_law_1405 (by decide) (fun c_1405 => ?_) (fun c_1405 => ?_)
    rotate_left
    · exact absurd hr3 c_1405
    refine lv_iload hx hb dL_law_1410 (lv_at hl 1 rfl) ?_
    refine lv_if_ne (tgt := 1427) hx hb dL_law_1412 (by decide) (fun c_1412 => ?_) (fun c_1412 => ?_)
    rotate_left
    · exact absurd c_1412 hK
    refine lv_goto (tgt := 2118) hx hb dL_law_1427 (by decide) ?_
    exact K _ _ _ _ _ _ _ _ _ _ _ _ _ _ _ _ _ _ _ _ hC hM hW hS (lv_sub hl [2, 3, 4, 5, 6, 7] rfl)
set_option maxHeartbeats 4000000 in
set_option maxRecDepth 100000 in
theorem lc_21 {p : Program} {l : Launch} {e : Env} {s : State} {m : MethodId} {args : Array Value} {below : List Frame} {meth : Method} {c : Code} {Q : State → Prop} {D : va_G} {ad : Nat → Nat} {cI cZ cH cP cT cJ cF : ClassId} {b L : Nat} {xs : Nat → Int32} (C : LC p l s m args c D ad cI cZ cH cP cT cJ cF b L xs) {t cells slots : Nat} (ht : 4 * t + 4 ≤ L) (hc : cells + 8 ≤ 603072) (hs : slots + 48 ≤ 7194730) (K : LK p l e s m args below meth c Q D ad cI cZ cH cP cT cJ cF b t (cells + 8) (slots + 48)) {V T : Nat → Nat → Int32} {ag : Nat → Int32} {nP nH rN : Nat} {nf pn : Int32} {sp sk : Int64} {py pd : Nat → Nat → Int32} {th : Int32} {Ec Em : Nat → va_E} {o : Nat → Int64} {od : Nat → UInt64} {H : Heap} {locs : List Loc} {ls : Array Slot} (hC : CW cI cZ cH cP cT ad V T ag nP nH rN nf pn sp sk py pd Ec) (hM : MW cI cZ (fun k => ad (110 + k)) th V T ag nP nH rN nf pn sp sk py pd Em) (hW : hH D ad 124 (lE cJ cF Ec Em o od) H) (hS : va_S (cA ad 124 s.heap.size) s.heap H locs) (hl : lv_has ls 9 [(0, .ref b), (1, .ref (ad 0)), (2, .ref (ad 110)), (3, .ref (ad 109)), (4, .ref (ad 123)), (5, .int (nI (4 * t)))]) : W p l e room_1 s m args below meth c H locs cells slots Q (F0 m 1430 ls []) := by
  obtain ⟨B, ⟨hlf, hT, hN, hX, hI⟩, hXs, hbl, hbA, hL⟩ := C
  have hx := B.1
  have hb := B.2.1
  have hI109 : aI ad 109 := hI.subw (σ := fun k => k) (fun k hk => by omega) (fun k _ => rfl) (fun i j _ _ e => e)
  have hI110 : aI ad 110 := hI.subw (σ := fun k => k) (fun k hk => by omega) (fun k _ => rfl) (fun i j _ _ e => e)
  have hI110d : aI (fun k => ad (sD k)) 110 := hI.subw (σ := sD) (fun k hk => sD_lt k hk) (fun k _ => rfl) sD_inj
  have hI13 : aI (fun k => ad (110 + k)) 13 := hI.subw (σ := fun k => 110 + k) (fun k hk => by omega) (fun k _ => rfl) (fun i j _ _ e => by have e : 110 + i = 110 + j := e; omega)
  obtain ⟨so, en, rA, rC, rI, aA, aC, aH, aT, aP, hEc, hInv⟩ := hC
  subst hEc
  obtain ⟨du, mA, mC, mH, mG, mS, mI, mT, mP, hEm⟩ := hM
  subst hEm
  refine lv_aload_n hx hb dL_law_1430 rfl (lv_at hl 1 rfl) ?_
  refine lv_aload_n hx hb dL_law_1431 rfl (lv_at hl 0 rfl) ?_
  refine lv_iload hx hb dL_law_1432 (lv_at hl 5 rfl) ?_
  refine lv_iconst (v := nI 1) hx hb dL_law_1434 (by decide) ?_
  refine lv_iadd hx hb dL_law_1435 ?_
  refine b_top (y := nI (4 * t + 1)) (nI_add _ _) ?_
  refine va_sld hx hb hXs hbl hbA hS (vp_in_nI (by omega) (by omega)) dL_law_1436 ?_
  refine b_top (y := xs (4 * t + 1)) (by rw [nI_clamp (by omega)]) ?_
  refine lv_aload_n hx hb dL_law_1437 rfl (lv_at hl 0 rfl) ?_
  refine lv_iload hx hb dL_law_1438 (lv_at hl 5 rfl) ?_
  refine lv_iconst (v := nI 2) hx hb dL_law_1440 (by decide) ?_
  refine lv_iadd hx hb dL_law_1441 ?_
  refine b_top (y := nI (4 * t + 2)) (nI_add _ _) ?_
  refine va_sld hx hb hXs hbl hbA hS (vp_in_nI (by omega) (by omega)) dL_law_1442 ?_
  refine b_top (y := xs (4 * t + 2)) (by rw [nI_clamp (by omega)]) ?_
  refine lv_aload_n hx hb dL_law_1443 rfl (lv_at hl 3 rfl) ?_
  refine y_ci (y_runSW B hT hX hN hW hS (σ := fun k => k) (ad' := ad) (n9 := 110) (fun k hk => by omega) (fun k _ => rfl) (fun k hk => lE_h hk) (As := [.ref (ad 0), .int (xs (4 * t + 1)), .int (xs (4 * t + 2)), .ref (ad 109)]) (rest := []) (fun sz => lh_incomeOf hlf hI110 o V T ag nP nH rN nf pn sp sk py pd so en rA rC rI aA aC aH aT aP ((xs (4 * t + 1))) ((xs (4 * t + 2))) rfl rfl rfl rfl rfl rfl rfl hInv (ad := ad) sz) (cwL_197 B.2.2.2.2.1 ⟨Nat.le_of_ble_eq_true rfl, Nat.le_of_ble_eq_true rfl⟩) rfl hl.1 (Nat.le_of_ble_eq_true rfl) dL_law_1444 ⟨by show _ ≤ 603072; omega, by show _ ≤ 7194730; omega⟩) hI hW hS (fun k hk => by omega) (fun k _ => rfl) (fun E1 => gH cF E1 (mE cI cZ (fun k => ad (110 + k)) th nP nH rN nf pn sp sk ag (RV V) (RV T) (FL pd) (FL py) du mA mC mH mG mS mI mT mP) od) (fun E1 k hk => gH_in hk) (fun E1 j hj hno => gH_out hno) (fun r_1 E1 H locs hp hW hS => ?_)
  obtain ⟨hr_, Ec, o, hE_, hp⟩ := hp
  have hW : hH D ad 124 (lE cJ cF Ec (mE cI cZ (fun k => ad (110 + k)) th nP nH rN nf pn sp sk ag (RV V) (RV T) (FL pd) (FL py) du mA mC mH mG mS mI mT mP) o od) H := hW.eq (by rw [hE_, gH_eq])
  rw [← hr_] at hp
  refine lv_istore (lv' := [(6, .int r_1), (0, .ref b), (1, .ref (ad 0)), (2, .ref (ad 110)), (3, .ref (ad 109)), (4, .ref (ad 123)), (5, .int (nI (4 * t)))]) hx hb dL_law_1447 hl (by decide) rfl (fun ls hl => ?_)
  refine lv_aload_n hx hb dL_law_1449 rfl (lv_at hl 3 rfl) ?_
  refine lv_aload_n hx hb dL_law_1450 rfl (lv_at hl 1 rfl) ?_
  refine lv_iload hx hb dL_law_1451 (lv_at hl 6 rfl) ?_
  refine lv_iconst (v := nI 1) hx hb dL_law_1453 (by decide) ?_
  refine lv_iadd hx hb dL_law_1454 ?_
  refine b_top (y := nI (4 * t + 1)) (nI_add _ _) ?_
  refine va_sld hx hb hXs hbl hbA hS (vp_in_nI (by omega) (by omega)) dL_law_1455 ?_
  refine b_top (y := xs (4 * t + 1)) (by rw [nI_clamp (by omega)]) ?_
  refine lv_aload_n hx hb dL_law_1456 rfl (lv_at hl 1 rfl) ?_
  refine lv_iload hx hb dL_law_1457 (lv_at hl 6 rfl) ?_
  refine lv_iconst (v := nI 2) hx hb dL_law_1459 (by decide) ?_
  refine lv_iadd hx hb dL_law_1460 ?_
  refine b_top (y := nI (4 * t + 2)) (nI_add _ _) ?_
  refine va_sld hx hb hXs hbl hbA hS (vp_in_nI (by omega) (by omega)) dL_law_1461 ?_
  refine b_top (y := xs (4 * t + 2)) (by rw [nI_clamp (by omega)]) ?_
  refine y_ci (y_runV B hT hX hW hS (σ := fun k => 110 + k) (ad' := fun k => ad (110 + k)) (n9 := 13) (fun k hk => by omega) (fun k _ => rfl) (fun k hk => lE_m hk) (k := 0) (As := [.int (xs (4 * t + 1)), .int (xs (4 * t + 2))]) (rest := []) (fun sz => mm_incomeOf hI13 th nP nH rN nf pn sp sk ag V T pd py du mA mC mH mG mS mI mT mP ((xs (4 * t + 1))) ((xs (4 * t + 2))) so rfl rfl hInv sz) (cwL_199 B.2.2.2.2.1 ⟨Nat.le_of_ble_eq_true rfl, Nat.le_of_ble_eq_true rfl⟩) (b_recv B hW (by omega) ((lE_m (k := 0) (by omega)).trans mE_0) rfl) rfl hl.1 (Nat.le_of_ble_eq_true rfl) dL_law_1462 ⟨by show _ ≤ 603072; omega, by show _ ≤ 7194730; omega⟩) hI hW hS (fun k hk => by omega) (fun k _ => rfl) (fun E1 => lE cJ cF Ec E1 o od) (fun E1 k hk => lE_m hk) (fun E1 j hj hno => lE_out hno) (fun r_2 Em H locs hq hW hS => ?_)
  rw [← hr_] at hq
  by_cases hK : r_1 = 0
  · skip
    have hp := hp.resolve_right (fun q => q.1 hK)
    obtain ⟨-, ho, hC⟩ := hp
    obtain ⟨hr2, hM⟩ := hq
    have hr2 := hr2 hK
    refine lv_istore (lv' := [(7, .int r_2), (6, .int r_1), (0, .ref b), (1, .ref (ad 0)), (2, .ref (ad 110)), (3, .ref (ad 109)), (4, .ref (ad 123)), (5, .int (nI (4 * t)))]) hx hb dL_law_1465 hl (by decide) rfl (fun ls hl => ?_)
    refine lv_aload_n hx hb dL_law_1467 rfl (lv_at hl 4 rfl) ?_
    obtain ⟨du, mA, mC, mH, mG, mS, mI, mT, mP, hEm⟩ := id hM
    subst hEm
    refine y_ci (y_runV B hT hX hW hS (σ := fun k => 110 + k) (ad' := fun k => ad (110 + k)) (n9 := 13) (fun k hk => by omega) (fun k _ => rfl) (fun k hk => lE_m hk) (k := 0) (As := []) (rest := []) (fun sz => mm_thrown hI13 _ _ _ _ _ _ _ _ _ _ _ _ _ _ _ _ _ _ _ _ _ _ rfl rfl sz) (cwL_125 B.2.2.2.2.1 ⟨Nat.le_of_ble_eq_true rfl, Nat.le_of_ble_eq_true rfl⟩) (b_recv B hW (by omega) ((lE_m (k := 0) (by omega)).trans mE_0) rfl) rfl hl.1 (Nat.le_of_ble_eq_true rfl) dL_law_1468 ⟨by show _ ≤ 603072; omega, by show _ ≤ 7194730; omega⟩) hI hW hS (fun k hk => by omega) (fun k _ => rfl) (fun E1 => lE cJ cF Ec E1 o od) (fun E1 k hk => lE_m hk) (fun E1 j hj hno => lE_out hno) (fun r_3 Em H locs hq hW hS => ?_)
    obtain ⟨hr3, hE_⟩ := hq
    rw [hE_] at hW
    refine lv_iload hx hb dL_law_1471 (lv_at hl 1 rfl) ?_
    refine lv_icmp_eq (tgt := 1478) hx hb dL_law_1473 (by decide) (fun c_1473 => ?_) (fun c_1473 => ?_)
    rotate_left
    · exact absurd hr3 c_1473
    refine lv_iload hx hb dL_law_1478 (lv_at hl 1 rfl) ?_
    refine lv_if_ne (tgt := 1495) hx hb dL_law_1480 (by decide) (fun c_1480 => ?_) (fun c_1480 => ?_)
    · exact absurd hK c_1480
    refine lv_aload_n hx hb dL_law_1483 rfl (lv_at hl 5 rfl) ?_
    refine lv_iconst (v := nI 0) hx hb dL_law_1484 (by decide) ?_
    refine b_lald B hW rfl (j := 0) (by omega) lE_109 (vp_in_nI (by omega) (by omega)) rfl dL_law_1485 ?_
    refine lv_iload hx hb dL_law_1486 (lv_at hl 0 rfl) ?_
    refine lv_i2l hx hb dL_law_1488 rfl ?_
    refine b_lcmp hx hb dL_law_1489 ?_
    refine lv_if_eq (tgt := 1495) hx hb dL_law_1490 (by decide) (fun c_1490 => ?_) (fun c_1490 => ?_)
    rotate_left
    · exact absurd (lcm_0.mpr (by rw [ho, hr2])) c_1490
    refine lv_goto (tgt := 2118) hx hb dL_law_1495 (by decide) ?_
    exact K _ _ _ _ _ _ _ _ _ _ _ _ _ _ _ _ _ _ _ _ hC hM hW hS (lv_sub hl [2, 3, 4, 5, 6, 7] rfl)
  · skip
    have hp := hp.resolve_left (fun q => hK q.1)
    obtain ⟨-, hC⟩ := hp
    obtain ⟨-, hM⟩ := hq
    refine lv_istore (lv' := [(7, .int r_2), (6, .int r_1), (0, .ref b), (1, .ref (ad 0)), (2, .ref (ad 110)), (3, .ref (ad 109)), (4, .ref (ad 123)), (5, .int (nI (4 * t)))]) hx hb dL_law_1465 hl (by decide) rfl (fun ls hl => ?_)
    refine lv_aload_n hx hb dL_law_1467 rfl (lv_at hl 4 rfl) ?_
    obtain ⟨du, mA, mC, mH, mG, mS, mI, mT, mP, hEm⟩ := id hM
    subst hEm
    refine y_ci (y_runV B hT hX hW hS (σ := fun k => 110 + k) (ad' := fun k => ad (110 + k)) (n9 := 13) (fun k hk => by omega) (fun k _ => rfl) (fun k hk => lE_m hk) (k := 0) (As := []) (rest := []) (fun sz => mm_thrown hI13 _ _ _ _ _ _ _ _ _ _ _ _ _ _ _ _ _ _ _ _ _ _ rfl rfl sz) (cwL_125 B.2.2.2.2.1 ⟨Nat.le_of_ble_eq_true rfl, Nat.le_of_ble_eq_true rfl⟩) (b_recv B hW (by omega) ((lE_m (k := 0) (by omega)).trans mE_0) rfl) rfl hl.1 (Nat.le_of_ble_eq_true rfl) dL_law_1468 ⟨by show _ ≤ 603072; omega, by show _ ≤ 7194730; omega⟩) hI hW hS (fun k hk => by omega) (fun k _ => rfl) (fun E1 => lE cJ cF Ec E1 o od) (fun E1 k hk => lE_m hk) (fun E1 j hj hno => lE_out hno) (fun r_3 Em H locs hq hW hS => ?_)
    obtain ⟨hr3, hE_⟩ := hq
    rw [hE_] at hW
    refine lv_iload hx hb dL_law_1471 (lv_at hl 1 rfl) ?_
    refine lv_icmp_eq (tgt := 1478) hx hb dL_law_1473 (by decide) (fun c_1473 => ?_) (fun c_1473 => ?_)
    rotate_left
    · exact absurd hr3 c_1473
    refine lv_iload hx hb dL_law_1478 (lv_at hl 1 rfl) ?_
    refine lv_if_ne (tgt := 1495) hx hb dL_law_1480 (by decide) (fun c_1480 => ?_) (fun c_1480 => ?_)
    rotate_left
    · exact absurd c_1480 hK
    refine lv_goto (tgt := 2118) hx hb dL_law_1495 (by decide) ?_
    exact K _ _ _ _ _ _ _ _ _ _ _ _ _ _ _ _ _ _ _ _ hC hM hW hS (lv_sub hl [2, 3, 4, 5, 6, 7] rfl)
set_option maxHeartbeats 4000000 in
set_option maxRecDepth 100000 in
theorem lc_22 {p : Program} {l : Launch} {e : Env} {s : State} {m : MethodId} {args : Array Value} {below : List Frame} {meth : Method} {c : Code} {Q : State → Prop} {D : va_G} {ad : Nat → Nat} {cI cZ cH cP cT cJ cF : ClassId} {b L : Nat} {xs : Nat → Int32} (C : LC p l s m args c D ad cI cZ cH cP cT cJ cF b L xs) {t cells slots : Nat} (ht : 4 * t + 4 ≤ L) (hc : cells + 8 ≤ 603072) (hs : slots + 48 ≤ 7194730) (K : LK p l e s m args below meth c Q D ad cI cZ cH cP cT cJ cF b t (cells + 8) (slots + 48)) {V T : Nat → Nat → Int32} {ag : Nat → Int32} {nP nH rN : Nat} {nf pn : Int32} {sp sk : Int64} {py pd : Nat → Nat → Int32} {th : Int32} {Ec Em : Nat → va_E} {o : Nat → Int64} {od : Nat → UInt64} {H : Heap} {locs : List Loc} {ls : Array Slot} (hC : CW cI cZ cH cP cT ad V T ag nP nH rN nf pn sp sk py pd Ec) (hM : MW cI cZ (fun k => ad (110 + k)) th V T ag nP nH rN nf pn sp sk py pd Em) (hW : hH D ad 124 (lE cJ cF Ec Em o od) H) (hS : va_S (cA ad 124 s.heap.size) s.heap H locs) (hl : lv_has ls 9 [(0, .ref b), (1, .ref (ad 0)), (2, .ref (ad 110)), (3, .ref (ad 109)), (4, .ref (ad 123)), (5, .int (nI (4 * t)))]) : W p l e room_1 s m args below meth c H locs cells slots Q (F0 m 1498 ls []) := by
  obtain ⟨B, ⟨hlf, hT, hN, hX, hI⟩, hXs, hbl, hbA, hL⟩ := C
  have hx := B.1
  have hb := B.2.1
  have hI109 : aI ad 109 := hI.subw (σ := fun k => k) (fun k hk => by omega) (fun k _ => rfl) (fun i j _ _ e => e)
  have hI110 : aI ad 110 := hI.subw (σ := fun k => k) (fun k hk => by omega) (fun k _ => rfl) (fun i j _ _ e => e)
  have hI110d : aI (fun k => ad (sD k)) 110 := hI.subw (σ := sD) (fun k hk => sD_lt k hk) (fun k _ => rfl) sD_inj
  have hI13 : aI (fun k => ad (110 + k)) 13 := hI.subw (σ := fun k => 110 + k) (fun k hk => by omega) (fun k _ => rfl) (fun i j _ _ e => by have e : 110 + i = 110 + j := e; omega)
  obtain ⟨so, en, rA, rC, rI, aA, aC, aH, aT, aP, hEc, hInv⟩ := hC
  subst hEc
  obtain ⟨du, mA, mC, mH, mG, mS, mI, mT, mP, hEm⟩ := hM
  subst hEm
  refine lv_aload_n hx hb dL_law_1498 rfl (lv_at hl 1 rfl) ?_
  refine lv_aload_n hx hb dL_law_1499 rfl (lv_at hl 0 rfl) ?_
  refine lv_iload hx hb dL_law_1500 (lv_at hl 5 rfl) ?_
  refine lv_iconst (v := nI 1) hx hb dL_law_1502 (by decide) ?_
  refine lv_iadd hx hb dL_law_1503 ?_
  refine b_top (y := nI (4 * t + 1)) (nI_add _ _) ?_
  refine va_sld hx hb hXs hbl hbA hS (vp_in_nI (by omega) (by omega)) dL_law_1504 ?_
  refine b_top (y := xs (4 * t + 1)) (by rw [nI_clamp (by omega)]) ?_
  refine lv_aload_n hx hb dL_law_1505 rfl (lv_at hl 0 rfl) ?_
  refine lv_iload hx hb dL_law_1506 (lv_at hl 5 rfl) ?_
  refine lv_iconst (v := nI 2) hx hb dL_law_1508 (by decide) ?_
  refine lv_iadd hx hb dL_law_1509 ?_
  refine b_top (y := nI (4 * t + 2)) (nI_add _ _) ?_
  refine va_sld hx hb hXs hbl hbA hS (vp_in_nI (by omega) (by omega)) dL_law_1510 ?_
  refine b_top (y := xs (4 * t + 2)) (by rw [nI_clamp (by omega)]) ?_
  refine lv_aload_n hx hb dL_law_1511 rfl (lv_at hl 3 rfl) ?_
  refine y_ci (y_runSW B hT hX hN hW hS (σ := fun k => k) (ad' := ad) (n9 := 110) (fun k hk => by omega) (fun k _ => rfl) (fun k hk => lE_h hk) (As := [.ref (ad 0), .int (xs (4 * t + 1)), .int (xs (4 * t + 2)), .ref (ad 109)]) (rest := []) (fun sz => lh_adultAmount hlf hI110 o V T ag nP nH rN nf pn sp sk py pd so en rA rC rI aA aC aH aT aP ((xs (4 * t + 1))) ((xs (4 * t + 2))) rfl rfl rfl rfl rfl rfl rfl hInv (ad := ad) sz) (cwL_200 B.2.2.2.2.1 ⟨Nat.le_of_ble_eq_true rfl, Nat.le_of_ble_eq_true rfl⟩) rfl hl.1 (Nat.le_of_ble_eq_true rfl) dL_law_1512 ⟨by show _ ≤ 603072; omega, by show _ ≤ 7194730; omega⟩) hI hW hS (fun k hk => by omega) (fun k _ => rfl) (fun E1 => gH cF E1 (mE cI cZ (fun k => ad (110 + k)) th nP nH rN nf pn sp sk ag (RV V) (RV T) (FL pd) (FL py) du mA mC mH mG mS mI mT mP) od) (fun E1 k hk => gH_in hk) (fun E1 j hj hno => gH_out hno) (fun r_1 E1 H locs hp hW hS => ?_)
  obtain ⟨hr_, Ec, o, hE_, hp⟩ := hp
  have hW : hH D ad 124 (lE cJ cF Ec (mE cI cZ (fun k => ad (110 + k)) th nP nH rN nf pn sp sk ag (RV V) (RV T) (FL pd) (FL py) du mA mC mH mG mS mI mT mP) o od) H := hW.eq (by rw [hE_, gH_eq])
  rw [← hr_] at hp
  refine lv_istore (lv' := [(6, .int r_1), (0, .ref b), (1, .ref (ad 0)), (2, .ref (ad 110)), (3, .ref (ad 109)), (4, .ref (ad 123)), (5, .int (nI (4 * t)))]) hx hb dL_law_1515 hl (by decide) rfl (fun ls hl => ?_)
  refine lv_aload_n hx hb dL_law_1517 rfl (lv_at hl 3 rfl) ?_
  refine lv_aload_n hx hb dL_law_1518 rfl (lv_at hl 1 rfl) ?_
  refine lv_iload hx hb dL_law_1519 (lv_at hl 6 rfl) ?_
  refine lv_iconst (v := nI 1) hx hb dL_law_1521 (by decide) ?_
  refine lv_iadd hx hb dL_law_1522 ?_
  refine b_top (y := nI (4 * t + 1)) (nI_add _ _) ?_
  refine va_sld hx hb hXs hbl hbA hS (vp_in_nI (by omega) (by omega)) dL_law_1523 ?_
  refine b_top (y := xs (4 * t + 1)) (by rw [nI_clamp (by omega)]) ?_
  refine lv_aload_n hx hb dL_law_1524 rfl (lv_at hl 1 rfl) ?_
  refine lv_iload hx hb dL_law_1525 (lv_at hl 6 rfl) ?_
  refine lv_iconst (v := nI 2) hx hb dL_law_1527 (by decide) ?_
  refine lv_iadd hx hb dL_law_1528 ?_
  refine b_top (y := nI (4 * t + 2)) (nI_add _ _) ?_
  refine va_sld hx hb hXs hbl hbA hS (vp_in_nI (by omega) (by omega)) dL_law_1529 ?_
  refine b_top (y := xs (4 * t + 2)) (by rw [nI_clamp (by omega)]) ?_
  refine y_ci (y_runV B hT hX hW hS (σ := fun k => 110 + k) (ad' := fun k => ad (110 + k)) (n9 := 13) (fun k hk => by omega) (fun k _ => rfl) (fun k hk => lE_m hk) (k := 0) (As := [.int (xs (4 * t + 1)), .int (xs (4 * t + 2))]) (rest := []) (fun sz => mm_adultAmount hI13 th nP nH rN nf pn sp sk ag V T pd py du mA mC mH mG mS mI mT mP ((xs (4 * t + 1))) ((xs (4 * t + 2))) so rfl rfl hInv sz) (cwL_202 B.2.2.2.2.1 ⟨Nat.le_of_ble_eq_true rfl, Nat.le_of_ble_eq_true rfl⟩) (b_recv B hW (by omega) ((lE_m (k := 0) (by omega)).trans mE_0) rfl) rfl hl.1 (Nat.le_of_ble_eq_true rfl) dL_law_1530 ⟨by show _ ≤ 603072; omega, by show _ ≤ 7194730; omega⟩) hI hW hS (fun k hk => by omega) (fun k _ => rfl) (fun E1 => lE cJ cF Ec E1 o od) (fun E1 k hk => lE_m hk) (fun E1 j hj hno => lE_out hno) (fun r_2 Em H locs hq hW hS => ?_)
  rw [← hr_] at hq
  by_cases hK : r_1 = 0
  · skip
    have hp := hp.resolve_right (fun q => q.1 hK)
    obtain ⟨-, ho, hC⟩ := hp
    obtain ⟨hr2, hM⟩ := hq
    have hr2 := hr2 hK
    refine lv_istore (lv' := [(7, .int r_2), (6, .int r_1), (0, .ref b), (1, .ref (ad 0)), (2, .ref (ad 110)), (3, .ref (ad 109)), (4, .ref (ad 123)), (5, .int (nI (4 * t)))]) hx hb dL_law_1533 hl (by decide) rfl (fun ls hl => ?_)
    refine lv_aload_n hx hb dL_law_1535 rfl (lv_at hl 4 rfl) ?_
    obtain ⟨du, mA, mC, mH, mG, mS, mI, mT, mP, hEm⟩ := id hM
    subst hEm
    refine y_ci (y_runV B hT hX hW hS (σ := fun k => 110 + k) (ad' := fun k => ad (110 + k)) (n9 := 13) (fun k hk => by omega) (fun k _ => rfl) (fun k hk => lE_m hk) (k := 0) (As := []) (rest := []) (fun sz => mm_thrown hI13 _ _ _ _ _ _ _ _ _ _ _ _ _ _ _ _ _ _ _ _ _ _ rfl rfl sz) (cwL_125 B.2.2.2.2.1 ⟨Nat.le_of_ble_eq_true rfl, Nat.le_of_ble_eq_true rfl⟩) (b_recv B hW (by omega) ((lE_m (k := 0) (by omega)).trans mE_0) rfl) rfl hl.1 (Nat.le_of_ble_eq_true rfl) dL_law_1536 ⟨by show _ ≤ 603072; omega, by show _ ≤ 7194730; omega⟩) hI hW hS (fun k hk => by omega) (fun k _ => rfl) (fun E1 => lE cJ cF Ec E1 o od) (fun E1 k hk => lE_m hk) (fun E1 j hj hno => lE_out hno) (fun r_3 Em H locs hq hW hS => ?_)
    obtain ⟨hr3, hE_⟩ := hq
    rw [hE_] at hW
    refine lv_iload hx hb dL_law_1539 (lv_at hl 1 rfl) ?_
    refine lv_icmp_eq (tgt := 1546) hx hb dL_law_1541 (by decide) (fun c_1541 => ?_) (fun c_1541 => ?_)
    rotate_left
    · exact absurd hr3 c_1541
    refine lv_iload hx hb dL_law_1546 (lv_at hl 1 rfl) ?_
    refine lv_if_ne (tgt := 1563) hx hb dL_law_1548 (by decide) (fun c_1548 => ?_) (fun c_1548 => ?_)
    · exact absurd hK c_1548
    refine lv_aload_n hx hb dL_law_1551 rfl (lv_at hl 5 rfl) ?_
    refine lv_iconst (v := nI 0) hx hb dL_law_1552 (by decide) ?_
    refine b_lald B hW rfl (j := 0) (by omega) lE_109 (vp_in_nI (by omega) (by omega)) rfl dL_law_1553 ?_
    refine lv_iload hx hb dL_law_1554 (lv_at hl 0 rfl) ?_
    refine lv_i2l hx hb dL_law_1556 rfl ?_
    refine b_lcmp hx hb dL_law_1557 ?_
    refine lv_if_eq (tgt := 1563) hx hb dL_law_1558 (by decide) (fun c_1558 => ?_) (fun c_1558 => ?_)
    rotate_left
    · exact absurd (lcm_0.mpr (by rw [ho, hr2])) c_1558
    refine lv_goto (tgt := 2118) hx hb dL_law_1563 (by decide) ?_
    exact K _ _ _ _ _ _ _ _ _ _ _ _ _ _ _ _ _ _ _ _ hC hM hW hS (lv_sub hl [2, 3, 4, 5, 6, 7] rfl)
  · skip
    have hp := hp.resolve_left (fun q => hK q.1)
    obtain ⟨-, hC⟩ := hp
    obtain ⟨-, hM⟩ := hq
    refine lv_istore (lv' := [(7, .int r_2), (6, .int r_1), (0, .ref b), (1, .ref (ad 0)), (2, .ref (ad 110)), (3, .ref (ad 109)), (4, .ref (ad 123)), (5, .int (nI (4 * t)))]) hx hb dL_law_1533 hl (by decide) rfl (fun ls hl => ?_)
    refine lv_aload_n hx hb dL_law_1535 rfl (lv_at hl 4 rfl) ?_
    obtain ⟨du, mA, mC, mH, mG, mS, mI, mT, mP, hEm⟩ := id hM
    subst hEm
    refine y_ci (y_runV B hT hX hW hS (σ := fun k => 110 + k) (ad' := fun k => ad (110 + k)) (n9 := 13) (fun k hk => by omega) (fun k _ => rfl) (fun k hk => lE_m hk) (k := 0) (As := []) (rest := []) (fun sz => mm_thrown hI13 _ _ _ _ _ _ _ _ _ _ _ _ _ _ _ _ _ _ _ _ _ _ rfl rfl sz) (cwL_125 B.2.2.2.2.1 ⟨Nat.le_of_ble_eq_true rfl, Nat.le_of_ble_eq_true rfl⟩) (b_recv B hW (by omega) ((lE_m (k := 0) (by omega)).trans mE_0) rfl) rfl hl.1 (Nat.le_of_ble_eq_true rfl) dL_law_1536 ⟨by show _ ≤ 603072; omega, by show _ ≤ 7194730; omega⟩) hI hW hS (fun k hk => by omega) (fun k _ => rfl) (fun E1 => lE cJ cF Ec E1 o od) (fun E1 k hk => lE_m hk) (fun E1 j hj hno => lE_out hno) (fun r_3 Em H locs hq hW hS => ?_)
    obtain ⟨hr3, hE_⟩ := hq
    rw [hE_] at hW
    refine lv_iload hx hb dL_law_1539 (lv_at hl 1 rfl) ?_
    refine lv_icmp_eq (tgt := 1546) hx hb dL_law_1541 (by decide) (fun c_1541 => ?_) (fun c_1541 => ?_)
    rotate_left
    · exact absurd hr3 c_1541
    refine lv_iload hx hb dL_law_1546 (lv_at hl 1 rfl) ?_
    refine lv_if_ne (tgt := 1563) hx hb dL_law_1548 (by decide) (fun c_1548 => ?_) (fun c_1548 => ?_)
    rotate_left
    · exact absurd c_1548 hK
    refine lv_goto (tgt := 2118) hx hb dL_law_1563 (by decide) ?_
    exact K _ _ _ _ _ _ _ _ _ _ _ _ _ _ _ _ _ _ _ _ hC hM hW hS (lv_sub hl [2, 3, 4, 5, 6, 7] rfl)
set_option maxHeartbeats 4000000 in
set_option maxRecDepth 100000 in
theorem lc_23 {p : Program} {l : Launch} {e : Env} {s : State} {m : MethodId} {args : Array Value} {below : List Frame} {meth : Method} {c : Code} {Q : State → Prop} {D : va_G} {ad : Nat → Nat} {cI cZ cH cP cT cJ cF : ClassId} {b L : Nat} {xs : Nat → Int32} (C : LC p l s m args c D ad cI cZ cH cP cT cJ cF b L xs) {t cells slots : Nat} (ht : 4 * t + 4 ≤ L) (hc : cells + 8 ≤ 603072) (hs : slots + 48 ≤ 7194730) (K : LK p l e s m args below meth c Q D ad cI cZ cH cP cT cJ cF b t (cells + 8) (slots + 48)) {V T : Nat → Nat → Int32} {ag : Nat → Int32} {nP nH rN : Nat} {nf pn : Int32} {sp sk : Int64} {py pd : Nat → Nat → Int32} {th : Int32} {Ec Em : Nat → va_E} {o : Nat → Int64} {od : Nat → UInt64} {H : Heap} {locs : List Loc} {ls : Array Slot} (hC : CW cI cZ cH cP cT ad V T ag nP nH rN nf pn sp sk py pd Ec) (hM : MW cI cZ (fun k => ad (110 + k)) th V T ag nP nH rN nf pn sp sk py pd Em) (hW : hH D ad 124 (lE cJ cF Ec Em o od) H) (hS : va_S (cA ad 124 s.heap.size) s.heap H locs) (hl : lv_has ls 9 [(0, .ref b), (1, .ref (ad 0)), (2, .ref (ad 110)), (3, .ref (ad 109)), (4, .ref (ad 123)), (5, .int (nI (4 * t)))]) : W p l e room_1 s m args below meth c H locs cells slots Q (F0 m 1566 ls []) := by
  obtain ⟨B, ⟨hlf, hT, hN, hX, hI⟩, hXs, hbl, hbA, hL⟩ := C
  have hx := B.1
  have hb := B.2.1
  have hI109 : aI ad 109 := hI.subw (σ := fun k => k) (fun k hk => by omega) (fun k _ => rfl) (fun i j _ _ e => e)
  have hI110 : aI ad 110 := hI.subw (σ := fun k => k) (fun k hk => by omega) (fun k _ => rfl) (fun i j _ _ e => e)
  have hI110d : aI (fun k => ad (sD k)) 110 := hI.subw (σ := sD) (fun k hk => sD_lt k hk) (fun k _ => rfl) sD_inj
  have hI13 : aI (fun k => ad (110 + k)) 13 := hI.subw (σ := fun k => 110 + k) (fun k hk => by omega) (fun k _ => rfl) (fun i j _ _ e => by have e : 110 + i = 110 + j := e; omega)
  obtain ⟨so, en, rA, rC, rI, aA, aC, aH, aT, aP, hEc, hInv⟩ := hC
  subst hEc
  obtain ⟨du, mA, mC, mH, mG, mS, mI, mT, mP, hEm⟩ := hM
  subst hEm
  refine lv_aload_n hx hb dL_law_1566 rfl (lv_at hl 1 rfl) ?_
  refine lv_aload_n hx hb dL_law_1567 rfl (lv_at hl 0 rfl) ?_
  refine lv_iload hx hb dL_law_1568 (lv_at hl 5 rfl) ?_
  refine lv_iconst (v := nI 1) hx hb dL_law_1570 (by decide) ?_
  refine lv_iadd hx hb dL_law_1571 ?_
  refine b_top (y := nI (4 * t + 1)) (nI_add _ _) ?_
  refine va_sld hx hb hXs hbl hbA hS (vp_in_nI (by omega) (by omega)) dL_law_1572 ?_
  refine b_top (y := xs (4 * t + 1)) (by rw [nI_clamp (by omega)]) ?_
  refine lv_aload_n hx hb dL_law_1573 rfl (lv_at hl 0 rfl) ?_
  refine lv_iload hx hb dL_law_1574 (lv_at hl 5 rfl) ?_
  refine lv_iconst (v := nI 2) hx hb dL_law_1576 (by decide) ?_
  refine lv_iadd hx hb dL_law_1577 ?_
  refine b_top (y := nI (4 * t + 2)) (nI_add _ _) ?_
  refine va_sld hx hb hXs hbl hbA hS (vp_in_nI (by omega) (by omega)) dL_law_1578 ?_
  refine b_top (y := xs (4 * t + 2)) (by rw [nI_clamp (by omega)]) ?_
  refine lv_aload_n hx hb dL_law_1579 rfl (lv_at hl 3 rfl) ?_
  refine y_ci (y_runSW B hT hX hN hW hS (σ := fun k => k) (ad' := ad) (n9 := 110) (fun k hk => by omega) (fun k _ => rfl) (fun k hk => lE_h hk) (As := [.ref (ad 0), .int (xs (4 * t + 1)), .int (xs (4 * t + 2)), .ref (ad 109)]) (rest := []) (fun sz => lh_childAmount hlf hI110 o V T ag nP nH rN nf pn sp sk py pd so en rA rC rI aA aC aH aT aP ((xs (4 * t + 1))) ((xs (4 * t + 2))) rfl rfl rfl rfl rfl rfl rfl hInv (ad := ad) sz) (cwL_203 B.2.2.2.2.1 ⟨Nat.le_of_ble_eq_true rfl, Nat.le_of_ble_eq_true rfl⟩) rfl hl.1 (Nat.le_of_ble_eq_true rfl) dL_law_1580 ⟨by show _ ≤ 603072; omega, by show _ ≤ 7194730; omega⟩) hI hW hS (fun k hk => by omega) (fun k _ => rfl) (fun E1 => gH cF E1 (mE cI cZ (fun k => ad (110 + k)) th nP nH rN nf pn sp sk ag (RV V) (RV T) (FL pd) (FL py) du mA mC mH mG mS mI mT mP) od) (fun E1 k hk => gH_in hk) (fun E1 j hj hno => gH_out hno) (fun r_1 E1 H locs hp hW hS => ?_)
  obtain ⟨hr_, Ec, o, hE_, hp⟩ := hp
  have hW : hH D ad 124 (lE cJ cF Ec (mE cI cZ (fun k => ad (110 + k)) th nP nH rN nf pn sp sk ag (RV V) (RV T) (FL pd) (FL py) du mA mC mH mG mS mI mT mP) o od) H := hW.eq (by rw [hE_, gH_eq])
  rw [← hr_] at hp
  refine lv_istore (lv' := [(6, .int r_1), (0, .ref b), (1, .ref (ad 0)), (2, .ref (ad 110)), (3, .ref (ad 109)), (4, .ref (ad 123)), (5, .int (nI (4 * t)))]) hx hb dL_law_1583 hl (by decide) rfl (fun ls hl => ?_)
  refine lv_aload_n hx hb dL_law_1585 rfl (lv_at hl 3 rfl) ?_
  refine lv_aload_n hx hb dL_law_1586 rfl (lv_at hl 1 rfl) ?_
  refine lv_iload hx hb dL_law_1587 (lv_at hl 6 rfl) ?_
  refine lv_iconst (v := nI 1) hx hb dL_law_1589 (by decide) ?_
  refine lv_iadd hx hb dL_law_1590 ?_
  refine b_top (y := nI (4 * t + 1)) (nI_add _ _) ?_
  refine va_sld hx hb hXs hbl hbA hS (vp_in_nI (by omega) (by omega)) dL_law_1591 ?_
  refine b_top (y := xs (4 * t + 1)) (by rw [nI_clamp (by omega)]) ?_
  refine lv_aload_n hx hb dL_law_1592 rfl (lv_at hl 1 rfl) ?_
  refine lv_iload hx hb dL_law_1593 (lv_at hl 6 rfl) ?_
  refine lv_iconst (v := nI 2) hx hb dL_law_1595 (by decide) ?_
  refine lv_iadd hx hb dL_law_1596 ?_
  refine b_top (y := nI (4 * t + 2)) (nI_add _ _) ?_
  refine va_sld hx hb hXs hbl hbA hS (vp_in_nI (by omega) (by omega)) dL_law_1597 ?_
  refine b_top (y := xs (4 * t + 2)) (by rw [nI_clamp (by omega)]) ?_
  refine y_ci (y_runV B hT hX hW hS (σ := fun k => 110 + k) (ad' := fun k => ad (110 + k)) (n9 := 13) (fun k hk => by omega) (fun k _ => rfl) (fun k hk => lE_m hk) (k := 0) (As := [.int (xs (4 * t + 1)), .int (xs (4 * t + 2))]) (rest := []) (fun sz => mm_childAmount hI13 th nP nH rN nf pn sp sk ag V T pd py du mA mC mH mG mS mI mT mP ((xs (4 * t + 1))) ((xs (4 * t + 2))) so rfl rfl hInv sz) (cwL_205 B.2.2.2.2.1 ⟨Nat.le_of_ble_eq_true rfl, Nat.le_of_ble_eq_true rfl⟩) (b_recv B hW (by omega) ((lE_m (k := 0) (by omega)).trans mE_0) rfl) rfl hl.1 (Nat.le_of_ble_eq_true rfl) dL_law_1598 ⟨by show _ ≤ 603072; omega, by show _ ≤ 7194730; omega⟩) hI hW hS (fun k hk => by omega) (fun k _ => rfl) (fun E1 => lE cJ cF Ec E1 o od) (fun E1 k hk => lE_m hk) (fun E1 j hj hno => lE_out hno) (fun r_2 Em H locs hq hW hS => ?_)
  rw [← hr_] at hq
  by_cases hK : r_1 = 0
  · skip
    have hp := hp.resolve_right (fun q => q.1 hK)
    obtain ⟨-, ho, hC⟩ := hp
    obtain ⟨hr2, hM⟩ := hq
    have hr2 := hr2 hK
    refine lv_istore (lv' := [(7, .int r_2), (6, .int r_1), (0, .ref b), (1, .ref (ad 0)), (2, .ref (ad 110)), (3, .ref (ad 109)), (4, .ref (ad 123)), (5, .int (nI (4 * t)))]) hx hb dL_law_1601 hl (by decide) rfl (fun ls hl => ?_)
    refine lv_aload_n hx hb dL_law_1603 rfl (lv_at hl 4 rfl) ?_
    obtain ⟨du, mA, mC, mH, mG, mS, mI, mT, mP, hEm⟩ := id hM
    subst hEm
    refine y_ci (y_runV B hT hX hW hS (σ := fun k => 110 + k) (ad' := fun k => ad (110 + k)) (n9 := 13) (fun k hk => by omega) (fun k _ => rfl) (fun k hk => lE_m hk) (k := 0) (As := []) (rest := []) (fun sz => mm_thrown hI13 _ _ _ _ _ _ _ _ _ _ _ _ _ _ _ _ _ _ _ _ _ _ rfl rfl sz) (cwL_125 B.2.2.2.2.1 ⟨Nat.le_of_ble_eq_true rfl, Nat.le_of_ble_eq_true rfl⟩) (b_recv B hW (by omega) ((lE_m (k := 0) (by omega)).trans mE_0) rfl) rfl hl.1 (Nat.le_of_ble_eq_true rfl) dL_law_1604 ⟨by show _ ≤ 603072; omega, by show _ ≤ 7194730; omega⟩) hI hW hS (fun k hk => by omega) (fun k _ => rfl) (fun E1 => lE cJ cF Ec E1 o od) (fun E1 k hk => lE_m hk) (fun E1 j hj hno => lE_out hno) (fun r_3 Em H locs hq hW hS => ?_)
    obtain ⟨hr3, hE_⟩ := hq
    rw [hE_] at hW
    refine lv_iload hx hb dL_law_1607 (lv_at hl 1 rfl) ?_
    refine lv_icmp_eq (tgt := 1614) hx hb dL_law_1609 (by decide) (fun c_1609 => ?_) (fun c_1609 => ?_)
    rotate_left
    · exact absurd hr3 c_1609
    refine lv_iload hx hb dL_law_1614 (lv_at hl 1 rfl) ?_
    refine lv_if_ne (tgt := 1631) hx hb dL_law_1616 (by decide) (fun c_1616 => ?_) (fun c_1616 => ?_)
    · exact absurd hK c_1616
    refine lv_aload_n hx hb dL_law_1619 rfl (lv_at hl 5 rfl) ?_
    refine lv_iconst (v := nI 0) hx hb dL_law_1620 (by decide) ?_
    refine b_lald B hW rfl (j := 0) (by omega) lE_109 (vp_in_nI (by omega) (by omega)) rfl dL_law_1621 ?_
    refine lv_iload hx hb dL_law_1622 (lv_at hl 0 rfl) ?_
    refine lv_i2l hx hb dL_law_1624 rfl ?_
    refine b_lcmp hx hb dL_law_1625 ?_
    refine lv_if_eq (tgt := 1631) hx hb dL_law_1626 (by decide) (fun c_1626 => ?_) (fun c_1626 => ?_)
    rotate_left
    · exact absurd (lcm_0.mpr (by rw [ho, hr2])) c_1626
    refine lv_goto (tgt := 2118) hx hb dL_law_1631 (by decide) ?_
    exact K _ _ _ _ _ _ _ _ _ _ _ _ _ _ _ _ _ _ _ _ hC hM hW hS (lv_sub hl [2, 3, 4, 5, 6, 7] rfl)
  · skip
    have hp := hp.resolve_left (fun q => hK q.1)
    obtain ⟨-, hC⟩ := hp
    obtain ⟨-, hM⟩ := hq
    refine lv_istore (lv' := [(7, .int r_2), (6, .int r_1), (0, .ref b), (1, .ref (ad 0)), (2, .ref (ad 110)), (3, .ref (ad 109)), (4, .ref (ad 123)), (5, .int (nI (4 * t)))]) hx hb dL_law_1601 hl (by decide) rfl (fun ls hl => ?_)
    refine lv_aload_n hx hb dL_law_1603 rfl (lv_at hl 4 rfl) ?_
    obtain ⟨du, mA, mC, mH, mG, mS, mI, mT, mP, hEm⟩ := id hM
    subst hEm
    refine y_ci (y_runV B hT hX hW hS (σ := fun k => 110 + k) (ad' := fun k => ad (110 + k)) (n9 := 13) (fun k hk => by omega) (fun k _ => rfl) (fun k hk => lE_m hk) (k := 0) (As := []) (rest := []) (fun sz => mm_thrown hI13 _ _ _ _ _ _ _ _ _ _ _ _ _ _ _ _ _ _ _ _ _ _ rfl rfl sz) (cwL_125 B.2.2.2.2.1 ⟨Nat.le_of_ble_eq_true rfl, Nat.le_of_ble_eq_true rfl⟩) (b_recv B hW (by omega) ((lE_m (k := 0) (by omega)).trans mE_0) rfl) rfl hl.1 (Nat.le_of_ble_eq_true rfl) dL_law_1604 ⟨by show _ ≤ 603072; omega, by show _ ≤ 7194730; omega⟩) hI hW hS (fun k hk => by omega) (fun k _ => rfl) (fun E1 => lE cJ cF Ec E1 o od) (fun E1 k hk => lE_m hk) (fun E1 j hj hno => lE_out hno) (fun r_3 Em H locs hq hW hS => ?_)
    obtain ⟨hr3, hE_⟩ := hq
    rw [hE_] at hW
    refine lv_iload hx hb dL_law_1607 (lv_at hl 1 rfl) ?_
    refine lv_icmp_eq (tgt := 1614) hx hb dL_law_1609 (by decide) (fun c_1609 => ?_) (fun c_1609 => ?_)
    rotate_left
    · exact absurd hr3 c_1609
    refine lv_iload hx hb dL_law_1614 (lv_at hl 1 rfl) ?_
    refine lv_if_ne (tgt := 1631) hx hb dL_law_1616 (by decide) (fun c_1616 => ?_) (fun c_1616 => ?_)
    rotate_left
    · exact absurd c_1616 hK
    refine lv_goto (tgt := 2118) hx hb dL_law_1631 (by decide) ?_
    exact K _ _ _ _ _ _ _ _ _ _ _ _ _ _ _ _ _ _ _ _ hC hM hW hS (lv_sub hl [2, 3, 4, 5, 6, 7] rfl)
