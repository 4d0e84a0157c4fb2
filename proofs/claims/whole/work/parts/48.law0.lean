theorem cwL_119 {R : Room} {s : State} {args : Array Value} {rm : Room} (hts : ∀ w ∈ wsL_law, w.before args s = true) (hR : rm.frames + 1 ≤ R.frames ∧ 8 + (4 + 11) + rm.locals ≤ R.locals) : vx_CSW R s args RL 119 yL_addPerson cL_addPerson 4 (some .int) [(0, 9, 12, 13), (0, 9, 15, 15)] (Cond.codeWith yL_addPerson cL_addPerson 4 (some .int) [(0, 9, 12, 13), (0, 9, 15, 15)] :: wsL_law) rm rm.cells rm.slots 3 :=
  vx_cwSW 3 hts (gi_S (r5_in _ (List.mem_of_getElem? (i := 20) rfl)) (r5_in _ (List.mem_of_getElem? (i := 21) rfl)) (r5_in _ (List.mem_of_getElem? (i := 22) rfl)) (r5_in _ (List.mem_of_getElem? (i := 23) rfl))) rfl rfl rfl (by decide +kernel) hR
theorem cwL_124 {R : Room} {s : State} {args : Array Value} {rm : Room} (hts : ∀ w ∈ wsL_law, w.before args s = true) (hR : rm.frames + 1 ≤ R.frames ∧ 8 + (2 + 11) + rm.locals ≤ R.locals) : CWV R s args RL RX6 124 yX6_addPerson cX6_addPerson 2 (some .int) rm rm.cells rm.slots 1 :=
  cwV 1 hts (gi_V (r6_in _ (List.mem_of_getElem? (i := 14) rfl)) (r6_in _ (List.mem_of_getElem? (i := 15) rfl)) (r6_in _ (List.mem_of_getElem? (i := 16) rfl)) (r1_in _ (List.mem_of_getElem? (i := 5) rfl)) (r6_in _ (List.mem_of_getElem? (i := 17) rfl))) rfl rfl rfl (by decide +kernel) hR
theorem cwL_125 {R : Room} {s : State} {args : Array Value} {rm : Room} (hts : ∀ w ∈ wsL_law, w.before args s = true) (hR : rm.frames + 1 ≤ R.frames ∧ 8 + (1 + 11) + rm.locals ≤ R.locals) : CWV R s args RL RX6 125 yX6_thrown cX6_thrown 1 (some .int) rm rm.cells rm.slots 0 :=
  cwV 0 hts (gi_V (r7_in _ (List.mem_of_getElem? (i := 3) rfl)) (r7_in _ (List.mem_of_getElem? (i := 4) rfl)) (r7_in _ (List.mem_of_getElem? (i := 5) rfl)) (r1_in _ (List.mem_of_getElem? (i := 5) rfl)) (r7_in _ (List.mem_of_getElem? (i := 6) rfl))) rfl rfl rfl (by decide +kernel) hR
theorem cwL_128 {R : Room} {s : State} {args : Array Value} {rm : Room} (hts : ∀ w ∈ wsL_law, w.before args s = true) (hR : rm.frames + 1 ≤ R.frames ∧ 8 + (3 + 11) + rm.locals ≤ R.locals) : vx_CSW R s args RL 128 yL_addHousehold cL_addHousehold 3 (some .int) [(0, 8, 11, 15)] (Cond.codeWith yL_addHousehold cL_addHousehold 3 (some .int) [(0, 8, 11, 15)] :: wsL_law) rm rm.cells rm.slots 2 :=
  vx_cwSW 2 hts (gi_S (r7_in _ (List.mem_of_getElem? (i := 7) rfl)) (r7_in _ (List.mem_of_getElem? (i := 8) rfl)) (r5_in _ (List.mem_of_getElem? (i := 22) rfl)) (r7_in _ (List.mem_of_getElem? (i := 9) rfl))) rfl rfl rfl (by decide +kernel) hR
theorem cwL_131 {R : Room} {s : State} {args : Array Value} {rm : Room} (hts : ∀ w ∈ wsL_law, w.before args s = true) (hR : rm.frames + 1 ≤ R.frames ∧ 8 + (1 + 11) + rm.locals ≤ R.locals) : CWV R s args RL RX6 131 yX6_addHousehold cX6_addHousehold 1 (some .int) rm rm.cells rm.slots 0 :=
  cwV 0 hts (gi_V (r7_in _ (List.mem_of_getElem? (i := 15) rfl)) (r7_in _ (List.mem_of_getElem? (i := 16) rfl)) (r7_in _ (List.mem_of_getElem? (i := 17) rfl)) (r1_in _ (List.mem_of_getElem? (i := 5) rfl)) (r7_in _ (List.mem_of_getElem? (i := 18) rfl))) rfl rfl rfl (by decide +kernel) hR
theorem cwL_132 {R : Room} {s : State} {args : Array Value} {rm : Room} (hts : ∀ w ∈ wsL_law, w.before args s = true) (hR : rm.frames + 1 ≤ R.frames ∧ 8 + (6 + 11) + rm.locals ≤ R.locals) : vx_CSW R s args RL 132 yL_move cL_move 6 (some .int) [(0, 12, 15, 25), (0, 12, 19, 13)] (Cond.codeWith yL_move cL_move 6 (some .int) [(0, 12, 15, 25), (0, 12, 19, 13)] :: wsL_law) rm rm.cells rm.slots 5 :=
  vx_cwSW 5 hts (gi_S (r7_in _ (List.mem_of_getElem? (i := 20) rfl)) (r7_in _ (List.mem_of_getElem? (i := 21) rfl)) (r5_in _ (List.mem_of_getElem? (i := 22) rfl)) (r7_in _ (List.mem_of_getElem? (i := 22) rfl))) rfl rfl rfl (by decide +kernel) hR
theorem cwL_135 {R : Room} {s : State} {args : Array Value} {rm : Room} (hts : ∀ w ∈ wsL_law, w.before args s = true) (hR : rm.frames + 1 ≤ R.frames ∧ 8 + (4 + 11) + rm.locals ≤ R.locals) : CWV R s args RL RX6 135 yX6_move cX6_move 4 (some .int) rm rm.cells rm.slots 3 :=
  cwV 3 hts (gi_V (r8_in _ (List.mem_of_getElem? (i := 17) rfl)) (r8_in _ (List.mem_of_getElem? (i := 18) rfl)) (r8_in _ (List.mem_of_getElem? (i := 19) rfl)) (r1_in _ (List.mem_of_getElem? (i := 5) rfl)) (r8_in _ (List.mem_of_getElem? (i := 20) rfl))) rfl rfl rfl (by decide +kernel) hR
theorem cwL_136 {R : Room} {s : State} {args : Array Value} {rm : Room} (hts : ∀ w ∈ wsL_law, w.before args s = true) (hR : rm.frames + 1 ≤ R.frames ∧ 8 + (6 + 11) + rm.locals ≤ R.locals) : vx_CSW R s args RL 136 yL_setIncome cL_setIncome 6 (some .int) [(0, 12, 15, 25), (0, 12, 19, 13)] (Cond.codeWith yL_setIncome cL_setIncome 6 (some .int) [(0, 12, 15, 25), (0, 12, 19, 13)] :: wsL_law) rm rm.cells rm.slots 5 :=
  vx_cwSW 5 hts (gi_S (r9_in _ (List.mem_of_getElem? (i := 15) rfl)) (r9_in _ (List.mem_of_getElem? (i := 16) rfl)) (r5_in _ (List.mem_of_getElem? (i := 22) rfl)) (r9_in _ (List.mem_of_getElem? (i := 17) rfl))) rfl rfl rfl (by decide +kernel) hR
theorem cwL_138 {R : Room} {s : State} {args : Array Value} {rm : Room} (hts : ∀ w ∈ wsL_law, w.before args s = true) (hR : rm.frames + 1 ≤ R.frames ∧ 8 + (4 + 11) + rm.locals ≤ R.locals) : CWV R s args RL RX6 138 yX6_setIncome cX6_setIncome 4 (some .int) rm rm.cells rm.slots 3 :=
  cwV 3 hts (gi_V (r9_in _ (List.mem_of_getElem? (i := 22) rfl)) (r9_in _ (List.mem_of_getElem? (i := 23) rfl)) (r10_in _ (List.mem_of_getElem? (i := 0) rfl)) (r1_in _ (List.mem_of_getElem? (i := 5) rfl)) (r10_in _ (List.mem_of_getElem? (i := 1) rfl))) rfl rfl rfl (by decide +kernel) hR
theorem cwL_139 {R : Room} {s : State} {args : Array Value} {rm : Room} (hts : ∀ w ∈ wsL_law, w.before args s = true) (hR : rm.frames + 1 ≤ R.frames ∧ 8 + (6 + 11) + rm.locals ≤ R.locals) : vx_CSW R s args RL 139 yL_setRent cL_setRent 6 (some .int) [(0, 12, 15, 25), (0, 12, 19, 13)] (Cond.codeWith yL_setRent cL_setRent 6 (some .int) [(0, 12, 15, 25), (0, 12, 19, 13)] :: wsL_law) rm rm.cells rm.slots 5 :=
  vx_cwSW 5 hts (gi_S (r10_in _ (List.mem_of_getElem? (i := 2) rfl)) (r10_in _ (List.mem_of_getElem? (i := 3) rfl)) (r5_in _ (List.mem_of_getElem? (i := 22) rfl)) (r10_in _ (List.mem_of_getElem? (i := 4) rfl))) rfl rfl rfl (by decide +kernel) hR
theorem cwL_141 {R : Room} {s : State} {args : Array Value} {rm : Room} (hts : ∀ w ∈ wsL_law, w.before args s = true) (hR : rm.frames + 1 ≤ R.frames ∧ 8 + (4 + 11) + rm.locals ≤ R.locals) : CWV R s args RL RX6 141 yX6_setRent cX6_setRent 4 (some .int) rm rm.cells rm.slots 3 :=
  cwV 3 hts (gi_V (r10_in _ (List.mem_of_getElem? (i := 13) rfl)) (r10_in _ (List.mem_of_getElem? (i := 14) rfl)) (r10_in _ (List.mem_of_getElem? (i := 15) rfl)) (r1_in _ (List.mem_of_getElem? (i := 5) rfl)) (r10_in _ (List.mem_of_getElem? (i := 16) rfl))) rfl rfl rfl (by decide +kernel) hR
theorem cwL_142 {R : Room} {s : State} {args : Array Value} {rm : Room} (hts : ∀ w ∈ wsL_law, w.before args s = true) (hR : rm.frames + 1 ≤ R.frames ∧ 8 + (6 + 11) + rm.locals ≤ R.locals) : vx_CSW R s args RL 142 yL_setRule cL_setRule 6 (some .int) [(0, 12, 15, 37), (0, 12, 19, 13)] (Cond.codeWith yL_setRule cL_setRule 6 (some .int) [(0, 12, 15, 37), (0, 12, 19, 13)] :: wsL_law) rm rm.cells rm.slots 5 :=
  vx_cwSW 5 hts (gi_S (r10_in _ (List.mem_of_getElem? (i := 17) rfl)) (r10_in _ (List.mem_of_getElem? (i := 18) rfl)) (r5_in _ (List.mem_of_getElem? (i := 22) rfl)) (r10_in _ (List.mem_of_getElem? (i := 19) rfl))) rfl rfl rfl (by decide +kernel) hR
theorem cwL_145 {R : Room} {s : State} {args : Array Value} {rm : Room} (hts : ∀ w ∈ wsL_law, w.before args s = true) (hR : rm.frames + 1 ≤ R.frames ∧ 8 + (5 + 11) + rm.locals ≤ R.locals) : CWV R s args RL RX6 145 yX6_setRule cX6_setRule 5 (some .int) rm rm.cells rm.slots 3 :=
  cwV 3 hts (gi_V (r11_in _ (List.mem_of_getElem? (i := 8) rfl)) (r11_in _ (List.mem_of_getElem? (i := 9) rfl)) (r11_in _ (List.mem_of_getElem? (i := 10) rfl)) (r1_in _ (List.mem_of_getElem? (i := 5) rfl)) (r11_in _ (List.mem_of_getElem? (i := 11) rfl))) rfl rfl rfl (by decide +kernel) hR
theorem cwL_146 {R : Room} {s : State} {args : Array Value} {rm : Room} (hts : ∀ w ∈ wsL_law, w.before args s = true) (hR : rm.frames + 1 ≤ R.frames ∧ 8 + (5 + 11) + rm.locals ≤ R.locals) : vx_CSW R s args RL 146 yL_takeBackMove cL_takeBackMove 5 (some .int) [(0, 10, 13, 25), (0, 10, 17, 37)] (Cond.codeWith yL_takeBackMove cL_takeBackMove 5 (some .int) [(0, 10, 13, 25), (0, 10, 17, 37)] :: wsL_law) rm rm.cells rm.slots 4 :=
  vx_cwSW 4 hts (gi_S (r11_in _ (List.mem_of_getElem? (i := 18) rfl)) (r11_in _ (List.mem_of_getElem? (i := 19) rfl)) (r5_in _ (List.mem_of_getElem? (i := 22) rfl)) (r11_in _ (List.mem_of_getElem? (i := 20) rfl))) rfl rfl rfl (by decide +kernel) hR
theorem cwL_149 {R : Room} {s : State} {args : Array Value} {rm : Room} (hts : ∀ w ∈ wsL_law, w.before args s = true) (hR : rm.frames + 1 ≤ R.frames ∧ 8 + (3 + 11) + rm.locals ≤ R.locals) : CWV R s args RL RX6 149 yX6_takeBackMove cX6_takeBackMove 3 (some .int) rm rm.cells rm.slots 2 :=
  cwV 2 hts (gi_V (r12_in _ (List.mem_of_getElem? (i := 12) rfl)) (r12_in _ (List.mem_of_getElem? (i := 13) rfl)) (r12_in _ (List.mem_of_getElem? (i := 14) rfl)) (r1_in _ (List.mem_of_getElem? (i := 5) rfl)) (r12_in _ (List.mem_of_getElem? (i := 15) rfl))) rfl rfl rfl (by decide +kernel) hR
theorem cwL_150 {R : Room} {s : State} {args : Array Value} {rm : Room} (hts : ∀ w ∈ wsL_law, w.before args s = true) (hR : rm.frames + 1 ≤ R.frames ∧ 8 + (5 + 11) + rm.locals ≤ R.locals) : vx_CSW R s args RL 150 yL_takeBackIncome cL_takeBackIncome 5 (some .int) [(0, 10, 13, 25), (0, 10, 17, 37)] (Cond.codeWith yL_takeBackIncome cL_takeBackIncome 5 (some .int) [(0, 10, 13, 25), (0, 10, 17, 37)] :: wsL_law) rm rm.cells rm.slots 4 :=
  vx_cwSW 4 hts (gi_S (r12_in _ (List.mem_of_getElem? (i := 20) rfl)) (r12_in _ (List.mem_of_getElem? (i := 21) rfl)) (r5_in _ (List.mem_of_getElem? (i := 22) rfl)) (r12_in _ (List.mem_of_getElem? (i := 22) rfl))) rfl rfl rfl (by decide +kernel) hR
theorem cwL_152 {R : Room} {s : State} {args : Array Value} {rm : Room} (hts : ∀ w ∈ wsL_law, w.before args s = true) (hR : rm.frames + 1 ≤ R.frames ∧ 8 + (3 + 11) + rm.locals ≤ R.locals) : CWV R s args RL RX6 152 yX6_takeBackIncome cX6_takeBackIncome 3 (some .int) rm rm.cells rm.slots 2 :=
  cwV 2 hts (gi_V (r13_in _ (List.mem_of_getElem? (i := 3) rfl)) (r13_in _ (List.mem_of_getElem? (i := 4) rfl)) (r13_in _ (List.mem_of_getElem? (i := 5) rfl)) (r1_in _ (List.mem_of_getElem? (i := 5) rfl)) (r13_in _ (List.mem_of_getElem? (i := 6) rfl))) rfl rfl rfl (by decide +kernel) hR
set_option maxHeartbeats 4000000 in
set_option maxRecDepth 100000 in
theorem lc_0 {p : Program} {l : Launch} {e : Env} {s : State} {m : MethodId} {args : Array Value} {below : List Frame} {meth : Method} {c : Code} {Q : State → Prop} {D : va_G} {ad : Nat → Nat} {cI cZ cH cP cT cJ cF : ClassId} {b L : Nat} {xs : Nat → Int32} (C : LC p l s m args c D ad cI cZ cH cP cT cJ cF b L xs) {t cells slots : Nat} (ht : 4 * t + 4 ≤ L) (hc : cells + 8 ≤ 603072) (hs : slots + 48 ≤ 7194730) (K : LK p l e s m args below meth c Q D ad cI cZ cH cP cT cJ cF b t (cells + 8) (slots + 48)) {V T : Nat → Nat → Int32} {ag : Nat → Int32} {nP nH rN : Nat} {nf pn : Int32} {sp sk : Int64} {py pd : Nat → Nat → Int32} {th : Int32} {Ec Em : Nat → va_E} {o : Nat → Int64} {od : Nat → UInt64} {H : Heap} {locs : List Loc} {ls : Array Slot} (hC : CW cI cZ cH cP cT ad V T ag nP nH rN nf pn sp sk py pd Ec) (hM : MW cI cZ (fun k => ad (110 + k)) th V T ag nP nH rN nf pn sp sk py pd Em) (hW : hH D ad 124 (lE cJ cF Ec Em o od) H) (hS : va_S (cA ad 124 s.heap.size) s.heap H locs) (hl : lv_has ls 9 [(0, .ref b), (1, .ref (ad 0)), (2, .ref (ad 110)), (3, .ref (ad 109)), (4, .ref (ad 123)), (5, .int (nI (4 * t)))]) : W p l e room_1 s m args below meth c H locs cells slots Q (F0 m 188 ls []) := by
  obtain ⟨B, ⟨hlf, hT, hN, hX, hI⟩, hXs, hbl, hbA, hL⟩ := C
  have hx := B.1
  have hb := B.2.1
  have hI109 : aI ad 109 := hI.subw (σ := fun k => k) (fun k hk => by omega) (fun k _ => rfl) (fun i j _ _ e => e)
  have hI110 : aI ad 110 := hI.subw (σ := fun k => k) (fun k hk => by omega) (fun k _ => rfl) (fun i j _ _ e => e)
  have hI110d : aI (fun k => ad (sD k)) 110 := hI.subw (σ := sD) (fun k hk => sD_lt k hk) (fun k _ => rfl) sD_inj
  have hI13 : aI (fun k => ad (110 + k)) 13 := hI.subw (σ := fun k => 110 + k) (fun k hk => by omega) (fun k _ => rfl) (fun i j _ _ e => by have e : 110 + i = 110 + j := e; omega)
  obtain ⟨so, en, rA, rC, rI, aA, aC, aH, aT, aP, hEc, hInv⟩ := hC
  subst hEc
  obtain ⟨du, mA, mC, mH, mG, mS, mI, mT, mP, hEm⟩ := hM
  subst hEm
  refine lv_aload_n hx hb dL_law_188 rfl (lv_at hl 1 rfl) ?_
  refine lv_aload_n hx hb dL_law_189 rfl (lv_at hl 0 rfl) ?_
  refine lv_iload hx hb dL_law_190 (lv_at hl 5 rfl) ?_
  refine lv_iconst (v := nI 1) hx hb dL_law_192 (by decide) ?_
  refine lv_iadd hx hb dL_law_193 ?_
  refine b_top (y := nI (4 * t + 1)) (nI_add _ _) ?_
  refine va_sld hx hb hXs hbl hbA hS (vp_in_nI (by omega) (by omega)) dL_law_194 ?_
  refine b_top (y := xs (4 * t + 1)) (by rw [nI_clamp (by omega)]) ?_
  refine lv_aload_n hx hb dL_law_195 rfl (lv_at hl 3 rfl) ?_
  refine y_ci (y_runSW B hT hX hN hW hS (σ := fun k => k) (ad' := ad) (n9 := 110) (fun k hk => by omega) (fun k _ => rfl) (fun k hk => lE_h hk) (As := [.ref (ad 0), .int (xs (4 * t + 1)), .ref (ad 109)]) (rest := []) (fun sz => lh_addPerson hlf hI110 o V T ag nP nH rN nf pn sp sk py pd so en rA rC rI aA aC aH aT aP ((xs (4 * t + 1))) rfl rfl rfl rfl rfl rfl rfl hInv (ad := ad) sz) (cwL_119 B.2.2.2.2.1 ⟨Nat.le_of_ble_eq_true rfl, Nat.le_of_ble_eq_true rfl⟩) rfl hl.1 (Nat.le_of_ble_eq_true rfl) dL_law_196 ⟨by show _ ≤ 603072; omega, by show _ ≤ 7194730; omega⟩) hI hW hS (fun k hk => by omega) (fun k _ => rfl) (fun E1 => gH cF E1 (mE cI cZ (fun k => ad (110 + k)) th nP nH rN nf pn sp sk ag (RV V) (RV T) (FL pd) (FL py) du mA mC mH mG mS mI mT mP) od) (fun E1 k hk => gH_in hk) (fun E1 j hj hno => gH_out hno) (fun r_1 E1 H locs hp hW hS => ?_)
  obtain ⟨hr_, Ec, o, hE_, hp⟩ := hp
  have hW : hH D ad 124 (lE cJ cF Ec (mE cI cZ (fun k => ad (110 + k)) th nP nH rN nf pn sp sk ag (RV V) (RV T) (FL pd) (FL py) du mA mC mH mG mS mI mT mP) o od) H := hW.eq (by rw [hE_, gH_eq])
  rw [← hr_] at hp
  refine lv_istore (lv' := [(6, .int r_1), (0, .ref b), (1, .ref (ad 0)), (2, .ref (ad 110)), (3, .ref (ad 109)), (4, .ref (ad 123)), (5, .int (nI (4 * t)))]) hx hb dL_law_199 hl (by decide) rfl (fun ls hl => ?_)
  refine lv_aload_n hx hb dL_law_201 rfl (lv_at hl 3 rfl) ?_
  refine lv_aload_n hx hb dL_law_202 rfl (lv_at hl 1 rfl) ?_
  refine lv_iload hx hb dL_law_203 (lv_at hl 6 rfl) ?_
  refine lv_iconst (v := nI 1) hx hb dL_law_205 (by decide) ?_
  refine lv_iadd hx hb dL_law_206 ?_
  refine b_top (y := nI (4 * t + 1)) (nI_add _ _) ?_
  refine va_sld hx hb hXs hbl hbA hS (vp_in_nI (by omega) (by omega)) dL_law_207 ?_
  refine b_top (y := xs (4 * t + 1)) (by rw [nI_clamp (by omega)]) ?_
  refine y_ci (y_runV B hT hX hW hS (σ := fun k => 110 + k) (ad' := fun k => ad (110 + k)) (n9 := 13) (fun k hk => by omega) (fun k _ => rfl) (fun k hk => lE_m hk) (k := 0) (As := [.int (xs (4 * t + 1))]) (rest := []) (fun sz => mm_addPerson hI13 th nP nH rN nf pn sp sk ag V T pd py du mA mC mH mG mS mI mT mP ((xs (4 * t + 1))) so rfl rfl hInv sz) (cwL_124 B.2.2.2.2.1 ⟨Nat.le_of_ble_eq_true rfl, Nat.le_of_ble_eq_true rfl⟩) (b_recv B hW (by omega) ((lE_m (k := 0) (by omega)).trans mE_0) rfl) rfl hl.1 (Nat.le_of_ble_eq_true rfl) dL_law_208 ⟨by show _ ≤ 603072; omega, by show _ ≤ 7194730; omega⟩) hI hW hS (fun k hk => by omega) (fun k _ => rfl) (fun E1 => lE cJ cF Ec E1 o od) (fun E1 k hk => lE_m hk) (fun E1 j hj hno => lE_out hno) (fun r_2 Em H locs hq hW hS => ?_)
  rw [← hr_] at hq
  by_cases hK : r_1 = 0
  · skip
    have hp := hp.resolve_right (fun q => q.1 hK)
    obtain ⟨-, ho, hC⟩ := hp
    have hq := hq.resolve_right (fun q => q.1 hK)
    obtain ⟨-, hr2, hM⟩ := hq
    refine lv_istore (lv' := [(7, .int r_2), (6, .int r_1), (0, .ref b), (1, .ref (ad 0)), (2, .ref (ad 110)), (3, .ref (ad 109)), (4, .ref (ad 123)), (5, .int (nI (4 * t)))]) hx hb dL_law_211 hl (by decide) rfl (fun ls hl => ?_)
    refine lv_aload_n hx hb dL_law_213 rfl (lv_at hl 4 rfl) ?_
    obtain ⟨du, mA, mC, mH, mG, mS, mI, mT, mP, hEm⟩ := id hM
    subst hEm
    refine y_ci (y_runV B hT hX hW hS (σ := fun k => 110 + k) (ad' := fun k => ad (110 + k)) (n9 := 13) (fun k hk => by omega) (fun k _ => rfl) (fun k hk => lE_m hk) (k := 0) (As := []) (rest := []) (fun sz => mm_thrown hI13 _ _ _ _ _ _ _ _ _ _ _ _ _ _ _ _ _ _ _ _ _ _ rfl rfl sz) (cwL_125 B.2.2.2.2.1 ⟨Nat.le_of_ble_eq_true rfl, Nat.le_of_ble_eq_true rfl⟩) (b_recv B hW (by omega) ((lE_m (k := 0) (by omega)).trans mE_0) rfl) rfl hl.1 (Nat.le_of_ble_eq_true rfl) dL_law_214 ⟨by show _ ≤ 603072; omega, by show _ ≤ 7194730; omega⟩) hI hW hS (fun k hk => by omega) (fun k _ => rfl) (fun E1 => lE cJ cF Ec E1 o od) (fun E1 k hk => lE_m hk) (fun E1 j hj hno => lE_out hno) (fun r_3 Em H locs hq hW hS => ?_)
    obtain ⟨hr3, hE_⟩ := hq
    rw [hE_] at hW
    refine lv_iload hx hb dL_law_217 (lv_at hl 1 rfl) ?_
    refine lv_icmp_eq (tgt := 224) hx hb dL_law_219 (by decide) (fun c_219 => ?_) (fun c_219 => ?_)
    rotate_left
    · exact absurd (hr3.trans hK.symm) c_219
    refine lv_iload hx hb dL_law_224 (lv_at hl 1 rfl) ?_
    refine lv_if_ne (tgt := 241) hx hb dL_law_226 (by decide) (fun c_226 => ?_) (fun c_226 => ?_)
    · exact absurd hK c_226
    refine lv_aload_n hx hb dL_law_229 rfl (lv_at hl 5 rfl) ?_
    refine lv_iconst (v := nI 0) hx hb dL_law_230 (by decide) ?_
    refine b_lald B hW rfl (j := 0) (by omega) lE_109 (vp_in_nI (by omega) (by omega)) rfl dL_law_231 ?_
    refine lv_iload hx hb dL_law_232 (lv_at hl 0 rfl) ?_
    refine lv_i2l hx hb dL_law_234 rfl ?_
    refine b_lcmp hx hb dL_law_235 ?_
    refine lv_if_eq (tgt := 241) hx hb dL_law_236 (by decide) (fun c_236 => ?_) (fun c_236 => ?_)
    rotate_left
    · exact absurd (lcm_0.mpr (by rw [ho, hr2])) c_236
    refine lv_goto (tgt := 2118) hx hb dL_law_241 (by decide) ?_
    exact K _ _ _ _ _ _ _ _ _ _ _ _ _ _ _ _ _ _ _ _ hC hM hW hS (lv_sub hl [2, 3, 4, 5, 6, 7] rfl)
  · skip
    have hp := hp.resolve_left (fun q => hK q.1)
    obtain ⟨-, hC⟩ := hp
    have hq := hq.resolve_left (fun q => hK q.1)
    obtain ⟨-, hM⟩ := hq
    refine lv_istore (lv' := [(7, .int r_2), (6, .int r_1), (0, .ref b), (1, .ref (ad 0)), (2, .ref (ad 110)), (3, .ref (ad 109)), (4, .ref (ad 123)), (5, .int (nI (4 * t)))]) hx hb dL_law_211 hl (by decide) rfl (fun ls hl => ?_)
    refine lv_aload_n hx hb dL_law_213 rfl (lv_at hl 4 rfl) ?_
    obtain ⟨du, mA, mC, mH, mG, mS, mI, mT, mP, hEm⟩ := id hM
    subst hEm
    refine y_ci (y_runV B hT hX hW hS (σ := fun k => 110 + k) (ad' := fun k => ad (110 + k)) (n9 := 13) (fun k hk => by omega) (fun k _ => rfl) (fun k hk => lE_m hk) (k := 0) (As := []) (rest := []) (fun sz => mm_thrown hI13 _ _ _ _ _ _ _ _ _ _ _ _ _ _ _ _ _ _ _ _ _ _ rfl rfl sz) (cwL_125 B.2.2.2.2.1 ⟨Nat.le_of_ble_eq_true rfl, Nat.le_of_ble_eq_true rfl⟩) (b_recv B hW (by omega) ((lE_m (k := 0) (by omega)).trans mE_0) rfl) rfl hl.1 (Nat.le_of_ble_eq_true rfl) dL_law_214 ⟨by show _ ≤ 603072; omega, by show _ ≤ 7194730; omega⟩) hI hW hS (fun k hk => by omega) (fun k _ => rfl) (fun E1 => lE cJ cF Ec E1 o od) (fun E1 k hk => lE_m hk) (fun E1 j hj hno => lE_out hno) (fun r_3 Em H locs hq hW hS => ?_)
    obtain ⟨hr3, hE_⟩ := hq
    rw [hE_] at hW
    refine lv_iload hx hb dL_law_217 (lv_at hl 1 rfl) ?_
    refine lv_icmp_eq (tgt := 224) hx hb dL_law_219 (by decide) (fun c_219 => ?_) (fun c_219 => ?_)
    rotate_left
    · exact absurd hr3 c_219
    refine lv_iload hx hb dL_law_224 (lv_at hl 1 rfl) ?_
    refine lv_if_ne (tgt := 241) hx hb dL_law_226 (by decide) (fun c_226 => ?_) (fun c_226 => ?_)
    rotate_left
    · exact absurd c_226 hK
    refine lv_goto (tgt := 2118) hx hb dL_law_241 (by decide) ?_
    exact K _ _ _ _ _ _ _ _ _ _ _ _ _ _ _ _ _ _ _ _ hC hM hW hS (lv_sub hl [2, 3, 4, 5, 6, 7] rfl)
set_option maxHeartbeats 4000000 in
set_option maxRecDepth 100000 in
theorem lc_1 {p : Program} {l : Launch} {e : Env} {s : State} {m : MethodId} {args : Array Value} {below : List Frame} {meth : Method} {c : Code} {Q : State → Prop} {D : va_G} {ad : Nat → Nat} {cI cZ cH cP cT cJ cF : ClassId} {b L : Nat} {xs : Nat → Int32} (C : LC p l s m args c D ad cI cZ cH cP cT cJ cF b L xs) {t cells slots : Nat} (ht : 4 * t + 4 ≤ L) (hc : cells + 8 ≤ 603072) (hs : slots + 48 ≤ 7194730) (K : LK p l e s m args below meth c Q D ad cI cZ cH cP cT cJ cF b t (cells + 8) (slots + 48)) {V T : Nat → Nat → Int32} {ag : Nat → Int32} {nP nH rN : Nat} {nf pn : Int32} {sp sk : Int64} {py pd : Nat → Nat → Int32} {th : Int32} {Ec Em : Nat → va_E} {o : Nat → Int64} {od : Nat → UInt64} {H : Heap} {locs : List Loc} {ls : Array Slot} (hC : CW cI cZ cH cP cT ad V T ag nP nH rN nf pn sp sk py pd Ec) (hM : MW cI cZ (fun k => ad (110 + k)) th V T ag nP nH rN nf pn sp sk py pd Em) (hW : hH D ad 124 (lE cJ cF Ec Em o od) H) (hS : va_S (cA ad 124 s.heap.size) s.heap H locs) (hl : lv_has ls 9 [(0, .ref b), (1, .ref (ad 0)), (2, .ref (ad 110)), (3, .ref (ad 109)), (4, .ref (ad 123)), (5, .int (nI (4 * t)))]) : W p l e room_1 s m args below meth c H locs cells slots Q (F0 m 244 ls []) := by
  obtain ⟨B, ⟨hlf, hT, hN, hX, hI⟩, hXs, hbl, hbA, hL⟩ := C
  have hx := B.1
  have hb := B.2.1
  have hI109 : aI ad 109 := hI.subw (σ := fun k => k) (fun k hk => by omega) (fun k _ => rfl) (fun i j _ _ e => e)
  have hI110 : aI ad 110 := hI.subw (σ := fun k => k) (fun k hk => by omega) (fun k _ => rfl) (fun i j _ _ e => e)
  have hI110d : aI (fun k => ad (sD k)) 110 := hI.subw (σ := sD) (fun k hk => sD_lt k hk) (fun k _ => rfl) sD_inj
  have hI13 : aI (fun k => ad (110 + k)) 13 := hI.subw (σ := fun k => 110 + k) (fun k hk => by omega) (fun k _ => rfl) (fun i j _ _ e => by have e : 110 + i = 110 + j := e; omega)
  obtain ⟨so, en, rA, rC, rI, aA, aC, aH, aT, aP, hEc, hInv⟩ := hC
  subst hEc
  obtain ⟨du, mA, mC, mH, mG, mS, mI, mT, mP, hEm⟩ := hM
  subst hEm
  refine lv_aload_n hx hb dL_law_244 rfl (lv_at hl 1 rfl) ?_
  refine lv_aload_n hx hb dL_law_245 rfl (lv_at hl 3 rfl) ?_
  refine y_ci (y_runSW B hT hX hN hW hS (σ := fun k => k) (ad' := ad) (n9 := 110) (fun k hk => by omega) (fun k _ => rfl) (fun k hk => lE_h hk) (As := [.ref (ad 0), .ref (ad 109)]) (rest := []) (fun sz => lh_addHousehold hlf hI110 o V T ag nP nH rN nf pn sp sk py pd so en rA rC rI aA aC aH aT aP rfl rfl rfl rfl rfl rfl rfl hInv (ad := ad) sz) (cwL_128 B.2.2.2.2.1 ⟨Nat.le_of_ble_eq_true rfl, Nat.le_of_ble_eq_true rfl⟩) rfl hl.1 (Nat.le_of_ble_eq_true rfl) dL_law_246 ⟨by show _ ≤ 603072; omega, by show _ ≤ 7194730; omega⟩) hI hW hS (fun k hk => by omega) (fun k _ => rfl) (fun E1 => gH cF E1 (mE cI cZ (fun k => ad (110 + k)) th nP nH rN nf pn sp sk ag (RV V) (RV T) (FL pd) (FL py) du mA mC mH mG mS mI mT mP) od) (fun E1 k hk => gH_in hk) (fun E1 j hj hno => gH_out hno) (fun r_1 E1 H locs hp hW hS => ?_)
  obtain ⟨hr_, Ec, o, hE_, hp⟩ := hp
  have hW : hH D ad 124 (lE cJ cF Ec (mE cI cZ (fun k => ad (110 + k)) th nP nH rN nf pn sp sk ag (RV V) (RV T) (FL pd) (FL py) du mA mC mH mG mS mI mT mP) o od) H := hW.eq (by rw [hE_, gH_eq])
  rw [← hr_] at hp
  refine lv_istore (lv' := [(6, .int r_1), (0, .ref b), (1, .ref (ad 0)), (2, .ref (ad 110)), (3, .ref (ad 109)), (4, .ref (ad 123)), (5, .int (nI (4 * t)))]) hx hb dL_law_249 hl (by decide) rfl (fun ls hl => ?_)
  refine lv_aload_n hx hb dL_law_251 rfl (lv_at hl 3 rfl) ?_
  refine y_ci (y_runV B hT hX hW hS (σ := fun k => 110 + k) (ad' := fun k => ad (110 + k)) (n9 := 13) (fun k hk => by omega) (fun k _ => rfl) (fun k hk => lE_m hk) (k := 0) (As := []) (rest := []) (fun sz => mm_addHousehold hI13 th nP nH rN nf pn sp sk ag V T pd py du mA mC mH mG mS mI mT mP so rfl rfl hInv sz) (cwL_131 B.2.2.2.2.1 ⟨Nat.le_of_ble_eq_true rfl, Nat.le_of_ble_eq_true rfl⟩) (b_recv B hW (by omega) ((lE_m (k := 0) (by omega)).trans mE_0) rfl) rfl hl.1 (Nat.le_of_ble_eq_true rfl) dL_law_252 ⟨by show _ ≤ 603072; omega, by show _ ≤ 7194730; omega⟩) hI hW hS (fun k hk => by omega) (fun k _ => rfl) (fun E1 => lE cJ cF Ec E1 o od) (fun E1 k hk => lE_m hk) (fun E1 j hj hno => lE_out hno) (fun r_2 Em H locs hq hW hS => ?_)
  rw [← hr_] at hq
  by_cases hK : r_1 = 0
  · skip
    have hp := hp.resolve_right (fun q => q.1 hK)
    obtain ⟨-, ho, hC⟩ := hp
    have hq := hq.resolve_right (fun q => q.1 hK)
    obtain ⟨-, hr2, hM⟩ := hq
    refine lv_istore (lv' := [(7, .int r_2), (6, .int r_1), (0, .ref b), (1, .ref (ad 0)), (2, .ref (ad 110)), (3, .ref (ad 109)), (4, .ref (ad 123)), (5, .int (nI (4 * t)))]) hx hb dL_law_255 hl (by decide) rfl (fun ls hl => ?_)
    refine lv_aload_n hx hb dL_law_257 rfl (lv_at hl 4 rfl) ?_
    obtain ⟨du, mA, mC, mH, mG, mS, mI, mT, mP, hEm⟩ := id hM
    subst hEm
    refine y_ci (y_runV B hT hX hW hS (σ := fun k => 110 + k) (ad' := fun k => ad (110 + k)) (n9 := 13) (fun k hk => by omega) (fun k _ => rfl) (fun k hk => lE_m hk) (k := 0) (As := []) (rest := []) (fun sz => mm_thrown hI13 _ _ _ _ _ _ _ _ _ _ _ _ _ _ _ _ _ _ _ _ _ _ rfl rfl sz) (cwL_125 B.2.2.2.2.1 ⟨Nat.le_of_ble_eq_true rfl, Nat.le_of_ble_eq_true rfl⟩) (b_recv B hW (by omega) ((lE_m (k := 0) (by omega)).trans mE_0) rfl) rfl hl.1 (Nat.le_of_ble_eq_true rfl) dL_law_258 ⟨by show _ ≤ 603072; omega, by show _ ≤ 7194730; omega⟩) hI hW hS (fun k hk => by omega) (fun k _ => rfl) (fun E1 => lE cJ cF Ec E1 o od) (fun E1 k hk => lE_m hk) (fun E1 j hj hno => lE_out hno) (fun r_3 Em H locs hq hW hS => ?_)
    obtain ⟨hr3, hE_⟩ := hq
    rw [hE_] at hW
    refine lv_iload hx hb dL_law_261 (lv_at hl 1 rfl) ?_
    refine lv_icmp_eq (tgt := 268) hx hb dL_law_263 (by decide) (fun c_263 => ?_) (fun c_263 => ?_)
    rotate_left
    · exact absurd (hr3.trans hK.symm) c_263
    refine lv_iload hx hb dL_law_268 (lv_at hl 1 rfl) ?_
    refine lv_if_ne (tgt := 285) hx hb dL_law_270 (by decide) (fun c_270 => ?_) (fun c_270 => ?_)
    · exact absurd hK c_270
    refine lv_aload_n hx hb dL_law_273 rfl (lv_at hl 5 rfl) ?_
    refine lv_iconst (v := nI 0) hx hb dL_law_274 (by decide) ?_
    refine b_lald B hW rfl (j := 0) (by omega) lE_109 (vp_in_nI (by omega) (by omega)) rfl dL_law_275 ?_
    refine lv_iload hx hb dL_law_276 (lv_at hl 0 rfl) ?_
    refine lv_i2l hx hb dL_law_278 rfl ?_
    refine b_lcmp hx hb dL_law_279 ?_
    refine lv_if_eq (tgt := 285) hx hb dL_law_280 (by decide) (fun c_280 => ?_) (fun c_280 => ?_)
    rotate_left
    · exact absurd (lcm_0.mpr (by rw [ho, hr2])) c_280
    refine lv_goto (tgt := 2118) hx hb dL_law_285 (by decide) ?_
    exact K _ _ _ _ _ _ _ _ _ _ _ _ _ _ _ _ _ _ _ _ hC hM hW hS (lv_sub hl [2, 3, 4, 5, 6, 7] rfl)
  · skip
    have hp := hp.resolve_left (fun q => hK q.1)
    obtain ⟨-, hC⟩ := hp
    have hq := hq.resolve_left (fun q => hK q.1)
    obtain ⟨-, hM⟩ := hq
    refine lv_istore (lv' := [(7, .int r_2), (6, .int r_1), (0, .ref b), (1, .ref (ad 0)), (2, .ref (ad 110)), (3, .ref (ad 109)), (4, .ref (ad 123)), (5, .int (nI (4 * t)))]) hx hb dL_law_255 hl (by decide) rfl (fun ls hl => ?_)
    refine lv_aload_n hx hb dL_law_257 rfl (lv_at hl 4 rfl) ?_
    obtain ⟨du, mA, mC, mH, mG, mS, mI, mT, mP, hEm⟩ := id hM
    subst hEm
    refine y_ci (y_runV B hT hX hW hS (σ := fun k => 110 + k) (ad' := fun k => ad (110 + k)) (n9 := 13) (fun k hk => by omega) (fun k _ => rfl) (fun k hk => lE_m hk) (k := 0) (As := []) (rest := []) (fun sz => mm_thrown hI13 _ _ _ _ _ _ _ _ _ _ _ _ _ _ _ _ _ _ _ _ _ _ rfl rfl sz) (cwL_125 B.2.2.2.2.1 ⟨Nat.le_of_ble_eq_true rfl, Nat.le_of_ble_eq_true rfl⟩) (b_recv B hW (by omega) ((lE_m (k := 0) (by omega)).trans mE_0) rfl) rfl hl.1 (Nat.le_of_ble_eq_true rfl) dL_law_258 ⟨by show _ ≤ 603072; omega, by show _ ≤ 7194730; omega⟩) hI hW hS (fun k hk => by omega) (fun k _ => rfl) (fun E1 => lE cJ cF Ec E1 o od) (fun E1 k hk => lE_m hk) (fun E1 j hj hno => lE_out hno) (fun r_3 Em H locs hq hW hS => ?_)
    obtain ⟨hr3, hE_⟩ := hq
    rw [hE_] at hW
    refine lv_iload hx hb dL_law_261 (lv_at hl 1 rfl) ?_
    refine lv_icmp_eq (tgt := 268) hx hb dL_law_263 (by decide) (fun c_263 => ?_) (fun c_263 => ?_)
    rotate_left
    · exact absurd hr3 c_263
    refine lv_iload hx hb dL_law_268 (lv_at hl 1 rfl) ?_
    refine lv_if_ne (tgt := 285) hx hb dL_law_270 (by decide) (fun c_270 => ?_) (fun c_270 => ?_)
    rotate_left
    · exact absurd c_270 hK
    refine lv_goto (tgt := 2118) hx hb dL_law_285 (by decide) ?_
    exact K _ _ _ _ _ _ _ _ _ _ _ _ _ _ _ _ _ _ _ _ hC hM hW hS (lv_sub hl [2, 3, 4, 5, 6, 7] rfl)
set_option maxHeartbeats 4000000 in
set_option maxRecDepth 100000 in
theorem lc_2 {p : Program} {l : Launch} {e : Env} {s : State} {m : MethodId} {args : Array Value} {below : List Frame} {meth : Method} {c : Code} {Q : State → Prop} {D : va_G} {ad : Nat → Nat} {cI cZ cH cP cT cJ cF : ClassId} {b L : Nat} {xs : Nat → Int32} (C : LC p l s m args c D ad cI cZ cH cP cT cJ cF b L xs) {t cells slots : Nat} (ht : 4 * t + 4 ≤ L) (hc : cells + 8 ≤ 603072) (hs : slots + 48 ≤ 7194730) (K : LK p l e s m args below meth c Q D ad cI cZ cH cP cT cJ cF b t (cells + 8) (slots + 48)) {V T : Nat → Nat → Int32} {ag : Nat → Int32} {nP nH rN : Nat} {nf pn : Int32} {sp sk : Int64} {py pd : Nat → Nat → Int32} {th : Int32} {Ec Em : Nat → va_E} {o : Nat → Int64} {od : Nat → UInt64} {H : Heap} {locs : List Loc} {ls : Array Slot} (hC : CW cI cZ cH cP cT ad V T ag nP nH rN nf pn sp sk py pd Ec) (hM : MW cI cZ (fun k => ad (110 + k)) th V T ag nP nH rN nf pn sp sk py pd Em) (hW : hH D ad 124 (lE cJ cF Ec Em o od) H) (hS : va_S (cA ad 124 s.heap.size) s.heap H locs) (hl : lv_has ls 9 [(0, .ref b), (1, .ref (ad 0)), (2, .ref (ad 110)), (3, .ref (ad 109)), (4, .ref (ad 123)), (5, .int (nI (4 * t)))]) : W p l e room_1 s m args below meth c H locs cells slots Q (F0 m 288 ls []) := by
  obtain ⟨B, ⟨hlf, hT, hN, hX, hI⟩, hXs, hbl, hbA, hL⟩ := C
  have hx := B.1
  have hb := B.2.1
  have hI109 : aI ad 109 := hI.subw (σ := fun k => k) (fun k hk => by omega) (fun k _ => rfl) (fun i j _ _ e => e)
  have hI110 : aI ad 110 := hI.subw (σ := fun k => k) (fun k hk => by omega) (fun k _ => rfl) (fun i j _ _ e => e)
  have hI110d : aI (fun k => ad (sD k)) 110 := hI.subw (σ := sD) (fun k hk => sD_lt k hk) (fun k _ => rfl) sD_inj
  have hI13 : aI (fun k => ad (110 + k)) 13 := hI.subw (σ := fun k => 110 + k) (fun k hk => by omega) (fun k _ => rfl) (fun i j _ _ e => by have e : 110 + i = 110 + j := e; omega)
  obtain ⟨so, en, rA, rC, rI, aA, aC, aH, aT, aP, hEc, hInv⟩ := hC
  subst hEc
  obtain ⟨du, mA, mC, mH, mG, mS, mI, mT, mP, hEm⟩ := hM
  subst hEm
  refine lv_aload_n hx hb dL_law_288 rfl (lv_at hl 1 rfl) ?_
  refine lv_aload_n hx hb dL_law_289 rfl (lv_at hl 0 rfl) ?_
  refine lv_iload hx hb dL_law_290 (lv_at hl 5 rfl) ?_
  refine lv_iconst (v := nI 1) hx hb dL_law_292 (by decide) ?_
  refine lv_iadd hx hb dL_law_293 ?_
  refine b_top (y := nI (4 * t + 1)) (nI_add _ _) ?_
  refine va_sld hx hb hXs hbl hbA hS (vp_in_nI (by omega) (by omega)) dL_law_294 ?_
  refine b_top (y := xs (4 * t + 1)) (by rw [nI_clamp (by omega)]) ?_
  refine lv_aload_n hx hb dL_law_295 rfl (lv_at hl 0 rfl) ?_
  refine lv_iload hx hb dL_law_296 (lv_at hl 5 rfl) ?_
  refine lv_iconst (v := nI 2) hx hb dL_law_298 (by decide) ?_
  refine lv_iadd hx hb dL_law_299 ?_
  refine b_top (y := nI (4 * t + 2)) (nI_add _ _) ?_
  refine va_sld hx hb hXs hbl hbA hS (vp_in_nI (by omega) (by omega)) dL_law_300 ?_
  refine b_top (y := xs (4 * t + 2)) (by rw [nI_clamp (by omega)]) ?_
  refine lv_aload_n hx hb dL_law_301 rfl (lv_at hl 0 rfl) ?_
  refine lv_iload hx hb dL_law_302 (lv_at hl 5 rfl) ?_
  refine lv_iconst (v := nI 3) hx hb dL_law_304 (by decide) ?_
  refine lv_iadd hx hb dL_law_305 ?_
  refine b_top (y := nI (4 * t + 3)) (nI_add _ _) ?_
  refine va_sld hx hb hXs hbl hbA hS (vp_in_nI (by omega) (by omega)) dL_law_306 ?_
  refine b_top (y := xs (4 * t + 3)) (by rw [nI_clamp (by omega)]) ?_
  refine lv_aload_n hx hb dL_law_307 rfl (lv_at hl 3 rfl) ?_
  refine y_ci (y_runSW B hT hX hN hW hS (σ := fun k => k) (ad' := ad) (n9 := 110) (fun k hk => by omega) (fun k _ => rfl) (fun k hk => lE_h hk) (As := [.ref (ad 0), .int (xs (4 * t + 1)), .int (xs (4 * t + 2)), .int (xs (4 * t + 3)), .ref (ad 109)]) (rest := []) (fun sz => lh_move hlf hI110 o V T ag nP nH rN nf pn sp sk py pd so en rA rC rI aA aC aH aT aP ((xs (4 * t + 1))) ((xs (4 * t + 2))) ((xs (4 * t + 3))) rfl rfl rfl rfl rfl rfl rfl hInv (ad := ad) sz) (cwL_132 B.2.2.2.2.1 ⟨Nat.le_of_ble_eq_true rfl, Nat.le_of_ble_eq_true rfl⟩) rfl hl.1 (Nat.le_of_ble_eq_true rfl) dL_law_308 ⟨by show _ ≤ 603072; omega, by show _ ≤ 7194730; omega⟩) hI hW hS (fun k hk => by omega) (fun k _ => rfl) (fun E1 => gH cF E1 (mE cI cZ (fun k => ad (110 + k)) th nP nH rN nf pn sp sk ag (RV V) (RV T) (FL pd) (FL py) du mA mC mH mG mS mI mT mP) od) (fun E1 k hk => gH_in hk) (fun E1 j hj hno => gH_out hno) (fun r_1 E1 H locs hp hW hS => ?_)
  obtain ⟨hr_, Ec, o, hE_, hp⟩ := hp
  have hW : hH D ad 124 (lE cJ cF Ec (mE cI cZ (fun k => ad (110 + k)) th nP nH rN nf pn sp sk ag (RV V) (RV T) (FL pd) (FL py) du mA mC mH mG mS mI mT mP) o od) H := hW.eq (by rw [hE_, gH_eq])
  rw [← hr_] at hp
  refine lv_istore (lv' := [(6, .int r_1), (0, .ref b), (1, .ref (ad 0)), (2, .ref (ad 110)), (3, .ref (ad 109)), (4, .ref (ad 123)), (5, .int (nI (4 * t)))]) hx hb dL_law_311 hl (by decide) rfl (fun ls hl => ?_)
  refine lv_aload_n hx hb dL_law_313 rfl (lv_at hl 3 rfl) ?_
  refine lv_aload_n hx hb dL_law_314 rfl (lv_at hl 1 rfl) ?_
  refine lv_iload hx hb dL_law_315 (lv_at hl 6 rfl) ?_
  refine lv_iconst (v := nI 1) hx hb dL_law_317 (by decide) ?_
  refine lv_iadd hx hb dL_law_318 ?_
  refine b_top (y := nI (4 * t + 1)) (nI_add _ _) ?_
  refine va_sld hx hb hXs hbl hbA hS (vp_in_nI (by omega) (by omega)) dL_law_319 ?_
  refine b_top (y := xs (4 * t + 1)) (by rw [nI_clamp (by omega)]) ?_
  refine lv_aload_n hx hb dL_law_320 rfl (lv_at hl 1 rfl) ?_
  refine lv_iload hx hb dL_law_321 (lv_at hl 6 rfl) ?_
  refine lv_iconst (v := nI 2) hx hb dL_law_323 (by decide) ?_
  refine lv_iadd hx hb dL_law_324 ?_
  refine b_top (y := nI (4 * t + 2)) (nI_add _ _) ?_
  refine va_sld hx hb hXs hbl hbA hS (vp_in_nI (by omega) (by omega)) dL_law_325 ?_
  refine b_top (y := xs (4 * t + 2)) (by rw [nI_clamp (by omega)]) ?_
  refine lv_aload_n hx hb dL_law_326 rfl (lv_at hl 1 rfl) ?_
  refine lv_iload hx hb dL_law_327 (lv_at hl 6 rfl) ?_
  refine lv_iconst (v := nI 3) hx hb dL_law_329 (by decide) ?_
  refine lv_iadd hx hb dL_law_330 ?_
  refine b_top (y := nI (4 * t + 3)) (nI_add _ _) ?_
  refine va_sld hx hb hXs hbl hbA hS (vp_in_nI (by omega) (by omega)) dL_law_331 ?_
  refine b_top (y := xs (4 * t + 3)) (by rw [nI_clamp (by omega)]) ?_
  refine y_ci (y_runV B hT hX hW hS (σ := fun k => 110 + k) (ad' := fun k => ad (110 + k)) (n9 := 13) (fun k hk => by omega) (fun k _ => rfl) (fun k hk => lE_m hk) (k := 0) (As := [.int (xs (4 * t + 1)), .int (xs (4 * t + 2)), .int (xs (4 * t + 3))]) (rest := []) (fun sz => mm_move hI13 th nP nH rN nf pn sp sk ag V T pd py du mA mC mH mG mS mI mT mP ((xs (4 * t + 1))) ((xs (4 * t + 2))) ((xs (4 * t + 3))) so rfl rfl hInv sz) (cwL_135 B.2.2.2.2.1 ⟨Nat.le_of_ble_eq_true rfl, Nat.le_of_ble_eq_true rfl⟩) (b_recv B hW (by omega) ((lE_m (k := 0) (by omega)).trans mE_0) rfl) rfl hl.1 (Nat.le_of_ble_eq_true rfl) dL_law_332 ⟨by show _ ≤ 603072; omega, by show _ ≤ 7194730; omega⟩) hI hW hS (fun k hk => by omega) (fun k _ => rfl) (fun E1 => lE cJ cF Ec E1 o od) (fun E1 k hk => lE_m hk) (fun E1 j hj hno => lE_out hno) (fun r_2 Em H locs hq hW hS => ?_)
  rw [← hr_] at hq
  by_cases hK : r_1 = 0
  · skip
    have hp := hp.resolve_right (fun q => q.1 hK)
    obtain ⟨-, ho, hC⟩ := hp
    have hq := hq.resolve_right (fun q => q.1 hK)
    obtain ⟨-, hr2, hM⟩ := hq
    refine lv_istore (lv' := [(7, .int r_2), (6, .int r_1), (0, .ref b), (1, .ref (ad 0)), (2, .ref (ad 110)), (3, .ref (ad 109)), (4, .ref (ad 123)), (5, .int (nI (4 * t)))]) hx hb dL_law_335 hl (by decide) rfl (fun ls hl => ?_)
    refine lv_aload_n hx hb dL_law_337 rfl (lv_at hl 4 rfl) ?_
    obtain ⟨du, mA, mC, mH, mG, mS, mI, mT, mP, hEm⟩ := id hM
    subst hEm
    refine y_ci (y_runV B hT hX hW hS (σ := fun k => 110 + k) (ad' := fun k => ad (110 + k)) (n9 := 13) (fun k hk => by omega) (fun k _ => rfl) (fun k hk => lE_m hk) (k := 0) (As := []) (rest := []) (fun sz => mm_thrown hI13 _ _ _ _ _ _ _ _ _ _ _ _ _ _ _ _ _ _ _ _ _ _ rfl rfl sz) (cwL_125 B.2.2.2.2.1 ⟨Nat.le_of_ble_eq_true rfl, Nat.le_of_ble_eq_true rfl⟩) (b_recv B hW (by omega) ((lE_m (k := 0) (by omega)).trans mE_0) rfl) rfl hl.1 (Nat.le_of_ble_eq_true rfl) dL_law_338 ⟨by show _ ≤ 603072; omega, by show _ ≤ 7194730; omega⟩) hI hW hS (fun k hk => by omega) (fun k _ => rfl) (fun E1 => lE cJ cF Ec E1 o od) (fun E1 k hk => lE_m hk) (fun E1 j hj hno => lE_out hno) (fun r_3 Em H locs hq hW hS => ?_)
    obtain ⟨hr3, hE_⟩ := hq
    rw [hE_] at hW
    refine lv_iload hx hb dL_law_341 (lv_at hl 1 rfl) ?_
    refine lv_icmp_eq (tgt := 348) hx hb dL_law_343 (by decide) (fun c_343 => ?_) (fun c_343 => ?_)
    rotate_left
    · exact absurd (hr3.trans hK.symm) c_343
    refine lv_iload hx hb dL_law_348 (lv_at hl 1 rfl) ?_
    refine lv_if_ne (tgt := 365) hx hb dL_law_350 (by decide) (fun c_350 => ?_) (fun c_350 => ?_)
    · exact absurd hK c_350
    refine lv_aload_n hx hb dL_law_353 rfl (lv_at hl 5 rfl) ?_
    refine lv_iconst (v := nI 0) hx hb dL_law_354 (by decide) ?_
    refine b_lald B hW rfl (j := 0) (by omega) lE_109 (vp_in_nI (by omega) (by omega)) rfl dL_law_355 ?_
    refine lv_iload hx hb dL_law_356 (lv_at hl 0 rfl) ?_
    refine lv_i2l hx hb dL_law_358 rfl ?_
    refine b_lcmp hx hb dL_law_359 ?_
    refine lv_if_eq (tgt := 365) hx hb dL_law_360 (by decide) (fun c_360 => ?_) (fun c_360 => ?_)
    rotate_left
    · exact absurd (lcm_0.mpr (by rw [ho, hr2])) c_360
    refine lv_goto (tgt := 2118) hx hb dL_law_365 (by decide) ?_
    exact K _ _ _ _ _ _ _ _ _ _ _ _ _ _ _ _ _ _ _ _ hC hM hW hS (lv_sub hl [2, 3, 4, 5, 6, 7] rfl)
  · skip
    have hp := hp.resolve_left (fun q => hK q.1)
    obtain ⟨-, hC⟩ := hp
    have hq := hq.resolve_left (fun q => hK q.1)
    obtain ⟨-, hM⟩ := hq
    refine lv_istore (lv' := [(7, .int r_2), (6, .int r_1), (0, .ref b), (1, .ref (ad 0)), (2, .ref (ad 110)), (3, .ref (ad 109)), (4, .ref (ad 123)), (5, .int (nI (4 * t)))]) hx hb dL_law_335 hl (by decide) rfl (fun ls hl => ?_)
    refine lv_aload_n hx hb dL_law_337 rfl (lv_at hl 4 rfl) ?_
    obtain ⟨du, mA, mC, mH, mG, mS, mI, mT, mP, hEm⟩ := id hM
    subst hEm
    refine y_ci (y_runV B hT hX hW hS (σ := fun k => 110 + k) (ad' := fun k => ad (110 + k)) (n9 := 13) (fun k hk => by omega) (fun k _ => rfl) (fun k hk => lE_m hk) (k := 0) (As := []) (rest := []) (fun sz => mm_thrown hI13 _ _ _ _ _ _ _ _ _ _ _ _ _ _ _ _ _ _ _ _ _ _ rfl rfl sz) (cwL_125 B.2.2.2.2.1 ⟨Nat.le_of_ble_eq_true rfl, Nat.le_of_ble_eq_true rfl⟩) (b_recv B hW (by omega) ((lE_m (k := 0) (by omega)).trans mE_0) rfl) rfl hl.1 (Nat.le_of_ble_eq_true rfl) dL_law_338 ⟨by show _ ≤ 603072; omega, by show _ ≤ 7194730; omega⟩) hI hW hS (fun k hk => by omega) (fun k _ => rfl) (fun E1 => lE cJ cF Ec E1 o od) (fun E1 k hk => lE_m hk) (fun E1 j hj hno => lE_out hno) (fun r_3 Em H locs hq hW hS => ?_)
    obtain ⟨hr3, hE_⟩ := hq
    rw [hE_] at hW
    refine lv_iload hx hb dL_law_341 (lv_at hl 1 rfl) ?_
    refine lv_icmp_eq (tgt := 348) hx hb dL_law_343 (by decide) (fun c_343 => ?_) (fun c_343 => ?_)
    rotate_left
    · exact absurd hr3 c_343
    refine lv_iload hx hb dL_law_348 (lv_at hl 1 rfl) ?_
    refine lv_if_ne (tgt := 365) hx hb dL_law_350 (by decide) (fun c_350 => ?_) (fun c_350 => ?_)
    rotate_left
    · exact absurd c_350 hK
    refine lv_goto (tgt := 2118) hx hb dL_law_365 (by decide) ?_
    exact K _ _ _ _ _ _ _ _ _ _ _ _ _ _ _ _ _ _ _ _ hC hM hW hS (lv_sub hl [2, 3, 4, 5, 6, 7] rfl)
set_option maxHeartbeats 4000000 in
set_option maxRecDepth 100000 in
theorem lc_3 {p : Program} {l : Launch} {e : Env} {s : State} {m : MethodId} {args : Array Value} {below : List Frame} {meth : Method} {c : Code} {Q : State → Prop} {D : va_G} {ad : Nat → Nat} {cI cZ cH cP cT cJ cF : ClassId} {b L : Nat} {xs : Nat → Int32} (C : LC p l s m args c D ad cI cZ cH cP cT cJ cF b L xs) {t cells slots : Nat} (ht : 4 * t + 4 ≤ L) (hc : cells + 8 ≤ 603072) (hs : slots + 48 ≤ 7194730) (K : LK p l e s m args below meth c Q D ad cI cZ cH cP cT cJ cF b t (cells + 8) (slots + 48)) {V T : Nat → Nat → Int32} {ag : Nat → Int32} {nP nH rN : Nat} {nf pn : Int32} {sp sk : Int64} {py pd : Nat → Nat → Int32} {th : Int32} {Ec Em : Nat → va_E} {o : Nat → Int64} {od : Nat → UInt64} {H : Heap} {locs : List Loc} {ls : Array Slot} (hC : CW cI cZ cH cP cT ad V T ag nP nH rN nf pn sp sk py pd Ec) (hM : MW cI cZ (fun k => ad (110 + k)) th V T ag nP nH rN nf pn sp sk py pd Em) (hW : hH D ad 124 (lE cJ cF Ec Em o od) H) (hS : va_S (cA ad 124 s.heap.size) s.heap H locs) (hl : lv_has ls 9 [(0, .ref b), (1, .ref (ad 0)), (2, .ref (ad 110)), (3, .ref (ad 109)), (4, .ref (ad 123)), (5, .int (nI (4 * t)))]) : W p l e room_1 s m args below meth c H locs cells slots Q (F0 m 368 ls []) := by
  obtain ⟨B, ⟨hlf, hT, hN, hX, hI⟩, hXs, hbl, hbA, hL⟩ := C
  have hx := B.1
  have hb := B.2.1
  have hI109 : aI ad 109 := hI.subw (σ := fun k => k) (fun k hk => by omega) (fun k _ => rfl) (fun i j _ _ e => e)
  have hI110 : aI ad 110 := hI.subw (σ := fun k => k) (fun k hk => by omega) (fun k _ => rfl) (fun i j _ _ e => e)
  have hI110d : aI (fun k => ad (sD k)) 110 := hI.subw (σ := sD) (fun k hk => sD_lt k hk) (fun k _ => rfl) sD_inj
  have hI13 : aI (fun k => ad (110 + k)) 13 := hI.subw (σ := fun k => 110 + k) (fun k hk => by omega) (fun k _ => rfl) (fun i j _ _ e => by have e : 110 + i = 110 + j := e; omega)
  obtain ⟨so, en, rA, rC, rI, aA, aC, aH, aT, aP, hEc, hInv⟩ := hC
  subst hEc
  obtain ⟨du, mA, mC, mH, mG, mS, mI, mT, mP, hEm⟩ := hM
  subst hEm
  refine lv_aload_n hx hb dL_law_368 rfl (lv_at hl 1 rfl) ?_
  refine lv_aload_n hx hb dL_law_369 rfl (lv_at hl 0 rfl) ?_
  refine lv_iload hx hb dL_law_370 (lv_at hl 5 rfl) ?_
  refine lv_iconst (v := nI 1) hx hb dL_law_372 (by decide) ?_
  refine lv_iadd hx hb dL_law_373 ?_
  refine b_top (y := nI (4 * t + 1)) (nI_add _ _) ?_
  refine va_sld hx hb hXs hbl hbA hS (vp_in_nI (by omega) (by omega)) dL_law_374 ?_
  refine b_top (y := xs (4 * t + 1)) (by rw [nI_clamp (by omega)]) ?_
  refine lv_aload_n hx hb dL_law_375 rfl (lv_at hl 0 rfl) ?_
  refine lv_iload hx hb dL_law_376 (lv_at hl 5 rfl) ?_
  refine lv_iconst (v := nI 2) hx hb dL_law_378 (by decide) ?_
  refine lv_iadd hx hb dL_law_379 ?_
  refine b_top (y := nI (4 * t + 2)) (nI_add _ _) ?_
  refine va_sld hx hb hXs hbl hbA hS (vp_in_nI (by omega) (by omega)) dL_law_380 ?_
  refine b_top (y := xs (4 * t + 2)) (by rw [nI_clamp (by omega)]) ?_
  refine lv_aload_n hx hb dL_law_381 rfl (lv_at hl 0 rfl) ?_
  refine lv_iload hx hb dL_law_382 (lv_at hl 5 rfl) ?_
  refine lv_iconst (v := nI 3) hx hb dL_law_384 (by decide) ?_
  refine lv_iadd hx hb dL_law_385 ?_
  refine b_top (y := nI (4 * t + 3)) (nI_add _ _) ?_
  refine va_sld hx hb hXs hbl hbA hS (vp_in_nI (by omega) (by omega)) dL_law_386 ?_
  refine b_top (y := xs (4 * t + 3)) (by rw [nI_clamp (by omega)]) ?_
  refine lv_aload_n hx hb dL_law_387 rfl (lv_at hl 3 rfl) ?_
  refine y_ci (y_runSW B hT hX hN hW hS (σ := fun k => k) (ad' := ad) (n9 := 110) (fun k hk => by omega) (fun k _ => rfl) (fun k hk => lE_h hk) (As := [.ref (ad 0), .int (xs (4 * t + 1)), .int (xs (4 * t + 2)), .int (xs (4 * t + 3)), .ref (ad 109)]) (rest := []) (fun sz => lh_setIncome hlf hI110 o V T ag nP nH rN nf pn sp sk py pd so en rA rC rI aA aC aH aT aP ((xs (4 * t + 1))) ((xs (4 * t + 2))) ((xs (4 * t + 3))) rfl rfl rfl rfl rfl rfl rfl hInv (ad := ad) sz) (cwL_136 B.2.2.2.2.1 ⟨Nat.le_of_ble_eq_true rfl, Nat.le_of_ble_eq_true rfl⟩) rfl hl.1 (Nat.le_of_ble_eq_true rfl) dL_law_388 ⟨by show _ ≤ 603072; omega, by show _ ≤ 7194730; omega⟩) hI hW hS (fun k hk => by omega) (fun k _ => rfl) (fun E1 => gH cF E1 (mE cI cZ (fun k => ad (110 + k)) th nP nH rN nf pn sp sk ag (RV V) (RV T) (FL pd) (FL py) du mA mC mH mG mS mI mT mP) od) (fun E1 k hk => gH_in hk) (fun E1 j hj hno => gH_out hno) (fun r_1 E1 H locs hp hW hS => ?_)
  obtain ⟨hr_, Ec, o, hE_, hp⟩ := hp
  have hW : hH D ad 124 (lE cJ cF Ec (mE cI cZ (fun k => ad (110 + k)) th nP nH rN nf pn sp sk ag (RV V) (RV T) (FL pd) (FL py) du mA mC mH mG mS mI mT mP) o od) H := hW.eq (by rw [hE_, gH_eq])
  rw [← hr_] at hp
  refine lv_istore (lv' := [(6, .int r_1), (0, .ref b), (1, .ref (ad 0)), (2, .ref (ad 110)), (3, .ref (ad 109)), (4, .ref (ad 123)), (5, .int (nI (4 * t)))]) hx hb dL_law_391 hl (by decide) rfl (fun ls hl => ?_)
  refine lv_aload_n hx hb dL_law_393 rfl (lv_at hl 3 rfl) ?_
  refine lv_aload_n hx hb dL_law_394 rfl (lv_at hl 1 rfl) ?_
  refine lv_iload hx hb dL_law_395 (lv_at hl 6 rfl) ?_
  refine lv_iconst (v := nI 1) hx hb dL_law_397 (by decide) ?_
  refine lv_iadd hx hb dL_law_398 ?_
  refine b_top (y := nI (4 * t + 1)) (nI_add _ _) ?_
  refine va_sld hx hb hXs hbl hbA hS (vp_in_nI (by omega) (by omega)) dL_law_399 ?_
  refine b_top (y := xs (4 * t + 1)) (by rw [nI_clamp (by omega)]) ?_
  refine lv_aload_n hx hb dL_law_400 rfl (lv_at hl 1 rfl) ?_
  refine lv_iload hx hb dL_law_401 (lv_at hl 6 rfl) ?_
  refine lv_iconst (v := nI 2) hx hb dL_law_403 (by decide) ?_
  refine lv_iadd hx hb dL_law_404 ?_
  refine b_top (y := nI (4 * t + 2)) (nI_add _ _) ?_
  refine va_sld hx hb hXs hbl hbA hS (vp_in_nI (by omega) (by omega)) dL_law_405 ?_
  refine b_top (y := xs (4 * t + 2)) (by rw [nI_clamp (by omega)]) ?_
  refine lv_aload_n hx hb dL_law_406 rfl (lv_at hl 1 rfl) ?_
  refine lv_iload hx hb dL_law_407 (lv_at hl 6 rfl) ?_
  refine lv_iconst (v := nI 3) hx hb dL_law_409 (by decide) ?_
  refine lv_iadd hx hb dL_law_410 ?_
  refine b_top (y := nI (4 * t + 3)) (nI_add _ _) ?_
  refine va_sld hx hb hXs hbl hbA hS (vp_in_nI (by omega) (by omega)) dL_law_411 ?_
  refine b_top (y := xs (4 * t + 3)) (by rw [nI_clamp (by omega)]) ?_
  refine y_ci (y_runV B hT hX hW hS (σ := fun k => 110 + k) (ad' := fun k => ad (110 + k)) (n9 := 13) (fun k hk => by omega) (fun k _ => rfl) (fun k hk => lE_m hk) (k := 0) (As := [.int (xs (4 * t + 1)), .int (xs (4 * t + 2)), .int (xs (4 * t + 3))]) (rest := []) (fun sz => mm_setIncome hI13 th nP nH rN nf pn sp sk ag V T pd py du mA mC mH mG mS mI mT mP ((xs (4 * t + 1))) ((xs (4 * t + 2))) ((xs (4 * t + 3))) so rfl rfl hInv sz) (cwL_138 B.2.2.2.2.1 ⟨Nat.le_of_ble_eq_true rfl, Nat.le_of_ble_eq_true rfl⟩) (b_recv B hW (by omega) ((lE_m (k := 0) (by omega)).trans mE_0) rfl) rfl hl.1 (Nat.le_of_ble_eq_true rfl) dL_law_412 ⟨by show _ ≤ 603072; omega, by show _ ≤ 7194730; omega⟩) hI hW hS (fun k hk => by omega) (fun k _ => rfl) (fun E1 => lE cJ cF Ec E1 o od) (fun E1 k hk => lE_m hk) (fun E1 j hj hno => lE_out hno) (fun r_2 Em H locs hq hW hS => ?_)
  rw [← hr_] at hq
  by_cases hK : r_1 = 0
  · skip
    have hp := hp.resolve_right (fun q => q.1 hK)
    obtain ⟨-, ho, hC⟩ := hp
    have hq := hq.resolve_right (fun q => q.1 hK)
    obtain ⟨-, hr2, hM⟩ := hq
    refine lv_istore (lv' := [(7, .int r_2), (6, .int r_1), (0, .ref b), (1, .ref (ad 0)), (2, .ref (ad 110)), (3, .ref (ad 109)), (4, .ref (ad 123)), (5, .int (nI (4 * t)))]) hx hb dL_law_415 hl (by decide) rfl (fun ls hl => ?_)
    refine lv_aload_n hx hb dL_law_417 rfl (lv_at hl 4 rfl) ?_
    obtain ⟨du, mA, mC, mH, mG, mS, mI, mT, mP, hEm⟩ := id hM
    subst hEm
    refine y_ci (y_runV B hT hX hW hS (σ := fun k => 110 + k) (ad' := fun k => ad (110 + k)) (n9 := 13) (fun k hk => by omega) (fun k _ => rfl) (fun k hk => lE_m hk) (k := 0) (As := []) (rest := []) (fun sz => mm_thrown hI13 _ _ _ _ _ _ _ _ _ _ _ _ _ _ _ _ _ _ _ _ _ _ rfl rfl sz) (cwL_125 B.2.2.2.2.1 ⟨Nat.le_of_ble_eq_true rfl, Nat.le_of_ble_eq_true rfl⟩) (b_recv B hW (by omega) ((lE_m (k := 0) (by omega)).trans mE_0) rfl) rfl hl.1 (Nat.le_of_ble_eq_true rfl) dL_law_418 ⟨by show _ ≤ 603072; omega, by show _ ≤ 7194730; omega⟩) hI hW hS (fun k hk => by omega) (fun k _ => rfl) (fun E1 => lE cJ cF Ec E1 o od) (fun E1 k hk => lE_m hk) (fun E1 j hj hno => lE_out hno) (fun r_3 Em H locs hq hW hS => ?_)
    obtain ⟨hr3, hE_⟩ := hq
    rw [hE_] at hW
    refine lv_iload hx hb dL_law_421 (lv_at hl 1 rfl) ?_
    refine lv_icmp_eq (tgt := 428) hx hb dL_law_423 (by decide) (fun c_423 => ?_) (fun c_423 => ?_)
    rotate_left
    · exact absurd (hr3.trans hK.symm) c_423
    refine lv_iload hx hb dL_law_428 (lv_at hl 1 rfl) ?_
    refine lv_if_ne (tgt := 445) hx hb dL_law_430 (by decide) (fun c_430 => ?_) (fun c_430 => ?_)
    · exact absurd hK c_430
    refine lv_aload_n hx hb dL_law_433 rfl (lv_at hl 5 rfl) ?_
    refine lv_iconst (v := nI 0) hx hb dL_law_434 (by decide) ?_
    refine b_lald B hW rfl (j := 0) (by omega) lE_109 (vp_in_nI (by omega) (by omega)) rfl dL_law_435 ?_
    refine lv_iload hx hb dL_law_436 (lv_at hl 0 rfl) ?_
    refine lv_i2l hx hb dL_law_438 rfl ?_
    refine b_lcmp hx hb dL_law_439 ?_
    refine lv_if_eq (tgt := 445) hx hb dL_law_440 (by decide) (fun c_440 => ?_) (fun c_440 => ?_)
    rotate_left
    · exact absurd (lcm_0.mpr (by rw [ho, hr2])) c_440
    refine lv_goto (tgt := 2118) hx hb dL_law_445 (by decide) ?_
    exact K _ _ _ _ _ _ _ _ _ _ _ _ _ _ _ _ _ _ _ _ hC hM hW hS (lv_sub hl [2, 3, 4, 5, 6, 7] rfl)
  · skip
    have hp := hp.resolve_left (fun q => hK q.1)
    obtain ⟨-, hC⟩ := hp
    have hq := hq.resolve_left (fun q => hK q.1)
    obtain ⟨-, hM⟩ := hq
    refine lv_istore (lv' := [(7, .int r_2), (6, .int r_1), (0, .ref b), (1, .ref (ad 0)), (2, .ref (ad 110)), (3, .ref (ad 109)), (4, .ref (ad 123)), (5, .int (nI (4 * t)))]) hx hb dL_law_415 hl (by decide) rfl (fun ls hl => ?_)
    refine lv_aload_n hx hb dL_law_417 rfl (lv_at hl 4 rfl) ?_
    obtain ⟨du, mA, mC, mH, mG, mS, mI, mT, mP, hEm⟩ := id hM
    subst hEm
    refine y_ci (y_runV B hT hX hW hS (σ := fun k => 110 + k) (ad' := fun k => ad (110 + k)) (n9 := 13) (fun k hk => by omega) (fun k _ => rfl) (fun k hk => lE_m hk) (k := 0) (As := []) (rest := []) (fun sz => mm_thrown hI13 _ _ _ _ _ _ _ _ _ _ _ _ _ _ _ _ _ _ _ _ _ _ rfl rfl sz) (cwL_125 B.2.2.2.2.1 ⟨Nat.le_of_ble_eq_true rfl, Nat.le_of_ble_eq_true rfl⟩) (b_recv B hW (by omega) ((lE_m (k := 0) (by omega)).trans mE_0) rfl) rfl hl.1 (Nat.le_of_ble_eq_true rfl) dL_law_418 ⟨by show _ ≤ 603072; omega, by show _ ≤ 7194730; omega⟩) hI hW hS (fun k hk => by omega) (fun k _ => rfl) (fun E1 => lE cJ cF Ec E1 o od) (fun E1 k hk => lE_m hk) (fun E1 j hj hno => lE_out hno) (fun r_3 Em H locs hq hW hS => ?_)
    obtain ⟨hr3, hE_⟩ := hq
    rw [hE_] at hW
    refine lv_iload hx hb dL_law_421 (lv_at hl 1 rfl) ?_
    refine lv_icmp_eq (tgt := 428) hx hb dL_law_423 (by decide) (fun c_423 => ?_) (fun c_423 => ?_)
    rotate_left
    · exact absurd hr3 c_423
    refine lv_iload hx hb dL_law_428 (lv_at hl 1 rfl) ?_
    refine lv_if_ne (tgt := 445) hx hb dL_law_430 (by decide) (fun c_430 => ?_) (fun c_430 => ?_)
    rotate_left
    · exact absurd c_430 hK
    refine lv_goto (tgt := 2118) hx hb dL_law_445 (by decide) ?_
    exact K _ _ _ _ _ _ _ _ _ _ _ _ _ _ _ _ _ _ _ _ hC hM hW hS (lv_sub hl [2, 3, 4, 5, 6, 7] rfl)
set_option maxHeartbeats 4000000 in
set_option maxRecDepth 100000 in
theorem lc_4 {p : Program} {l : Launch} {e : Env} {s : State} {m : MethodId} {args : Array Value} {below : List Frame} {meth : Method} {c : Code} {Q : State → Prop} {D : va_G} {ad : Nat → Nat} {cI cZ cH cP cT cJ cF : ClassId} {b L : Nat} {xs : Nat → Int32} (C : LC p l s m args c D ad cI cZ cH cP cT cJ cF b L xs) {t cells slots : Nat} (ht : 4 * t + 4 ≤ L) (hc : cells + 8 ≤ 603072) (hs : slots + 48 ≤ 7194730) (K : LK p l e s m args below meth c Q D ad cI cZ cH cP cT cJ cF b t (cells + 8) (slots + 48)) {V T : Nat → Nat → Int32} {ag : Nat → Int32} {nP nH rN : Nat} {nf pn : Int32} {sp sk : Int64} {py pd : Nat → Nat → Int32} {th : Int32} {Ec Em : Nat → va_E} {o : Nat → Int64} {od : Nat → UInt64} {H : Heap} {locs : List Loc} {ls : Array Slot} (hC : CW cI cZ cH cP cT ad V T ag nP nH rN nf pn sp sk py pd Ec) (hM : MW cI cZ (fun k => ad (110 + k)) th V T ag nP nH rN nf pn sp sk py pd Em) (hW : hH D ad 124 (lE cJ cF Ec Em o od) H) (hS : va_S (cA ad 124 s.heap.size) s.heap H locs) (hl : lv_has ls 9 [(0, .ref b), (1, .ref (ad 0)), (2, .ref (ad 110)), (3, .ref (ad 109)), (4, .ref (ad 123)), (5, .int (nI (4 * t)))]) : W p l e room_1 s m args below meth c H locs cells slots Q (F0 m 448 ls []) := by
  obtain ⟨B, ⟨hlf, hT, hN, hX, hI⟩, hXs, hbl, hbA, hL⟩ := C
  have hx := B.1
  have hb := B.2.1
  have hI109 : aI ad 109 := hI.subw (σ := fun k => k) (fun k hk => by omega) (fun k _ => rfl) (fun i j _ _ e => e)
  have hI110 : aI ad 110 := hI.subw (σ := fun k => k) (fun k hk => by omega) (fun k _ => rfl) (fun i j _ _ e => e)
  have hI110d : aI (fun k => ad (sD k)) 110 := hI.subw (σ := sD) (fun k hk => sD_lt k hk) (fun k _ => rfl) sD_inj
  have hI13 : aI (fun k => ad (110 + k)) 13 := hI.subw (σ := fun k => 110 + k) (fun k hk => by omega) (fun k _ => rfl) (fun i j _ _ e => by have e : 110 + i = 110 + j := e; omega)
  obtain ⟨so, en, rA, rC, rI, aA, aC, aH, aT, aP, hEc, hInv⟩ := hC
  subst hEc
  obtain ⟨du, mA, mC, mH, mG, mS, mI, mT, mP, hEm⟩ := hM
  subst hEm
  refine lv_aload_n hx hb dL_law_448 rfl (lv_at hl 1 rfl) ?_
  refine lv_aload_n hx hb dL_law_449 rfl (lv_at hl 0 rfl) ?_
  refine lv_iload hx hb dL_law_450 (lv_at hl 5 rfl) ?_
  refine lv_iconst (v := nI 1) hx hb dL_law_452 (by decide) ?_
  refine lv_iadd hx hb dL_law_453 ?_
  refine b_top (y := nI (4 * t + 1)) (nI_add _ _) ?_
  refine va_sld hx hb hXs hbl hbA hS (vp_in_nI (by omega) (by omega)) dL_law_454 ?_
  refine b_top (y := xs (4 * t + 1)) (by rw [nI_clamp (by omega)]) ?_
  refine lv_aload_n hx hb dL_law_455 rfl (lv_at hl 0 rfl) ?_
  refine lv_iload hx hb dL_law_456 (lv_at hl 5 rfl) ?_
  refine lv_iconst (v := nI 2) hx hb dL_law_458 (by decide) ?_
  refine lv_iadd hx hb dL_law_459 ?_
  refine b_top (y := nI (4 * t + 2)) (nI_add _ _) ?_
  refine va_sld hx hb hXs hbl hbA hS (vp_in_nI (by omega) (by omega)) dL_law_460 ?_
  refine b_top (y := xs (4 * t + 2)) (by rw [nI_clamp (by omega)]) ?_
  refine lv_aload_n hx hb dL_law_461 rfl (lv_at hl 0 rfl) ?_
  refine lv_iload hx hb dL_law_462 (lv_at hl 5 rfl) ?_
  refine lv_iconst (v := nI 3) hx hb dL_law_464 (by decide) ?_
  refine lv_iadd hx hb dL_law_465 ?_
  refine b_top (y := nI (4 * t + 3)) (nI_add _ _) ?_
  refine va_sld hx hb hXs hbl hbA hS (vp_in_nI (by omega) (by omega)) dL_law_466 ?_
  refine b_top (y := xs (4 * t + 3)) (by rw [nI_clamp (by omega)]) ?_
  refine lv_aload_n hx hb dL_law_467 rfl (lv_at hl 3 rfl) ?_
  refine y_ci (y_runSW B hT hX hN hW hS (σ := fun k => k) (ad' := ad) (n9 := 110) (fun k hk => by omega) (fun k _ => rfl) (fun k hk => lE_h hk) (As := [.ref (ad 0), .int (xs (4 * t + 1)), .int (xs (4 * t + 2)), .int (xs (4 * t + 3)), .ref (ad 109)]) (rest := []) (fun sz => lh_setRent hlf hI110 o V T ag nP nH rN nf pn sp sk py pd so en rA rC rI aA aC aH aT aP ((xs (4 * t + 1))) ((xs (4 * t + 2))) ((xs (4 * t + 3))) rfl rfl rfl rfl rfl rfl rfl hInv (ad := ad) sz) (cwL_139 B.2.2.2.2.1 ⟨Nat.le_of_ble_eq_true rfl, Nat.le_of_ble_eq_true rfl⟩) rfl hl.1 (Nat.le_of_ble_eq_true rfl) dL_law_468 ⟨by show _ ≤ 603072; omega, by show _ ≤ 7194730; omega⟩) hI hW hS (fun k hk => by omega) (fun k _ => rfl) (fun E1 => gH cF E1 (mE cI cZ (fun k => ad (110 + k)) th nP nH rN nf pn sp sk ag (RV V) (RV T) (FL pd) (FL py) du mA mC mH mG mS mI mT mP) od) (fun E1 k hk => gH_in hk) (fun E1 j hj hno => gH_out hno) (fun r_1 E1 H locs hp hW hS => ?_)
  obtain ⟨hr_, Ec, o, hE_, hp⟩ := hp
  have hW : hH D ad 124 (lE cJ cF Ec (mE cI cZ (fun k => ad (110 + k)) th nP nH rN nf pn sp sk ag (RV V) (RV T) (FL pd) (FL py) du mA mC mH mG mS mI mT mP) o od) H := hW.eq (by rw [hE_, gH_eq])
  rw [← hr_] at hp
  refine lv_istore (lv' := [(6, .int r_1), (0, .ref b), (1, .ref (ad 0)), (2, .ref (ad 110)), (3, .ref (ad 109)), (4, .ref (ad 123)), (5, .int (nI (4 * t)))]) hx hb dL_law_471 hl (by decide) rfl (fun ls hl => ?_)
  refine lv_aload_n hx hb dL_law_473 rfl (lv_at hl 3 rfl) ?_
  refine lv_aload_n hx hb dL_law_474 rfl (lv_at hl 1 rfl) ?_
  refine lv_iload hx hb dL_law_475 (lv_at hl 6 rfl) ?_
  refine lv_iconst (v := nI 1) hx hb dL_law_477 (by decide) ?_
  refine lv_iadd hx hb dL_law_478 ?_
  refine b_top (y := nI (4 * t + 1)) (nI_add _ _) ?_
  refine va_sld hx hb hXs hbl hbA hS (vp_in_nI (by omega) (by omega)) dL_law_479 ?_
  refine b_top (y := xs (4 * t + 1)) (by rw [nI_clamp (by omega)]) ?_
  refine lv_aload_n hx hb dL_law_480 rfl (lv_at hl 1 rfl) ?_
  refine lv_iload hx hb dL_law_481 (lv_at hl 6 rfl) ?_
  refine lv_iconst (v := nI 2) hx hb dL_law_483 (by decide) ?_
  refine lv_iadd hx hb dL_law_484 ?_
  refine b_top (y := nI (4 * t + 2)) (nI_add _ _) ?_
  refine va_sld hx hb hXs hbl hbA hS (vp_in_nI (by omega) (by omega)) dL_law_485 ?_
  refine b_top (y := xs (4 * t + 2)) (by rw [nI_clamp (by omega)]) ?_
  refine lv_aload_n hx hb dL_law_486 rfl (lv_at hl 1 rfl) ?_
  refine lv_iload hx hb dL_law_487 (lv_at hl 6 rfl) ?_
  refine lv_iconst (v := nI 3) hx hb dL_law_489 (by decide) ?_
  refine lv_iadd hx hb dL_law_490 ?_
  refine b_top (y := nI (4 * t + 3)) (nI_add _ _) ?_
  refine va_sld hx hb hXs hbl hbA hS (vp_in_nI (by omega) (by omega)) dL_law_491 ?_
  refine b_top (y := xs (4 * t + 3)) (by rw [nI_clamp (by omega)]) ?_
  refine y_ci (y_runV B hT hX hW hS (σ := fun k => 110 + k) (ad' := fun k => ad (110 + k)) (n9 := 13) (fun k hk => by omega) (fun k _ => rfl) (fun k hk => lE_m hk) (k := 0) (As := [.int (xs (4 * t + 1)), .int (xs (4 * t + 2)), .int (xs (4 * t + 3))]) (rest := []) (fun sz => mm_setRent hI13 th nP nH rN nf pn sp sk ag V T pd py du mA mC mH mG mS mI mT mP ((xs (4 * t + 1))) ((xs (4 * t + 2))) ((xs (4 * t + 3))) so rfl rfl hInv sz) (cwL_141 B.2.2.2.2.1 ⟨Nat.le_of_ble_eq_true rfl, Nat.le_of_ble_eq_true rfl⟩) (b_recv B hW (by omega) ((lE_m (k := 0) (by omega)).trans mE_0) rfl) rfl hl.1 (Nat.le_of_ble_eq_true rfl) dL_law_492 ⟨by show _ ≤ 603072; omega, by show _ ≤ 7194730; omega⟩) hI hW hS (fun k hk => by omega) (fun k _ => rfl) (fun E1 => lE cJ cF Ec E1 o od) (fun E1 k hk => lE_m hk) (fun E1 j hj hno => lE_out hno) (fun r_2 Em H locs hq hW hS => ?_)
  rw [← hr_] at hq
  by_cases hK : r_1 = 0
  · skip
    have hp := hp.resolve_right (fun q => q.1 hK)
    obtain ⟨-, ho, hC⟩ := hp
    have hq := hq.resolve_right (fun q => q.1 hK)
    obtain ⟨-, hr2, hM⟩ := hq
    refine lv_istore (lv' := [(7, .int r_2), (6, .int r_1), (0, .ref b), (1, .ref (ad 0)), (2, .ref (ad 110)), (3, .ref (ad 109)), (4, .ref (ad 123)), (5, .int (nI (4 * t)))]) hx hb dL_law_495 hl (by decide) rfl (fun ls hl => ?_)
    refine lv_aload_n hx hb dL_law_497 rfl (lv_at hl 4 rfl) ?_
    obtain ⟨du, mA, mC, mH, mG, mS, mI, mT, mP, hEm⟩ := id hM
    subst hEm
    refine y_ci (y_runV B hT hX hW hS (σ := fun k => 110 + k) (ad' := fun k => ad (110 + k)) (n9 := 13) (fun k hk => by omega) (fun k _ => rfl) (fun k hk => lE_m hk) (k := 0) (As := []) (rest := []) (fun sz => mm_thrown hI13 _ _ _ _ _ _ _ _ _ _ _ _ _ _ _ _ _ _ _ _ _ _ rfl rfl sz) (cwL_125 B.2.2.2.2.1 ⟨Nat.le_of_ble_eq_true rfl, Nat.le_of_ble_eq_true rfl⟩) (b_recv B hW (by omega) ((lE_m (k := 0) (by omega)).trans mE_0) rfl) rfl hl.1 (Nat.le_of_ble_eq_true rfl) dL_law_498 ⟨by show _ ≤ 603072; omega, by show _ ≤ 7194730; omega⟩) hI hW hS (fun k hk => by omega) (fun k _ => rfl) (fun E1 => lE cJ cF Ec E1 o od) (fun E1 k hk => lE_m hk) (fun E1 j hj hno => lE_out hno) (fun r_3 Em H locs hq hW hS => ?_)
    obtain ⟨hr3, hE_⟩ := hq
    rw [hE_] at hW
    refine lv_iload hx hb dL_law_501 (lv_at hl 1 rfl) ?_
    refine lv_icmp_eq (tgt := 508) hx hb dL_law_503 (by decide) (fun c_503 => ?_) (fun c_503 => ?_)
    rotate_left
    · exact absurd (hr3.trans hK.symm) c_503
    refine lv_iload hx hb dL_law_508 (lv_at hl 1 rfl) ?_
    refine lv_if_ne (tgt := 525) hx hb dL_law_510 (by decide) (fun c_510 => ?_) (fun c_510 => ?_)
    · exact absurd hK c_510
    refine lv_aload_n hx hb dL_law_513 rfl (lv_at hl 5 rfl) ?_
    refine lv_iconst (v := nI 0) hx hb dL_law_514 (by decide) ?_
    refine b_lald B hW rfl (j := 0) (by omega) lE_109 (vp_in_nI (by omega) (by omega)) rfl dL_law_515 ?_
    refine lv_iload hx hb dL_law_516 (lv_at hl 0 rfl) ?_
    refine lv_i2l hx hb dL_law_518 rfl ?_
    refine b_lcmp hx hb dL_law_519 ?_
    refine lv_if_eq (tgt := 525) hx hb dL_law_520 (by decide) (fun c_520 => ?_) (fun c_520 => ?_)
    rotate_left
    · exact absurd (lcm_0.mpr (by rw [ho, hr2])) c_520
    refine lv_goto (tgt := 2118) hx hb dL_law_525 (by decide) ?_
    exact K _ _ _ _ _ _ _ _ _ _ _ _ _ _ _ _ _ _ _ _ hC hM hW hS (lv_sub hl [2, 3, 4, 5, 6, 7] rfl)
  · skip
    have hp := hp.resolve_left (fun q => hK q.1)
    obtain ⟨-, hC⟩ := hp
    have hq := hq.resolve_left (fun q => hK q.1)
    obtain ⟨-, hM⟩ := hq
    refine lv_istore (lv' := [(7, .int r_2), (6, .int r_1), (0, .ref b), (1, .ref (ad 0)), (2, .ref (ad 110)), (3, .ref (ad 109)), (4, .ref (ad 123)), (5, .int (nI (4 * t)))]) hx hb dL_law_495 hl (by decide) rfl (fun ls hl => ?_)
    refine lv_aload_n hx hb dL_law_497 rfl (lv_at hl 4 rfl) ?_
    obtain ⟨du, mA, mC, mH, mG, mS, mI, mT, mP, hEm⟩ := id hM
    subst hEm
    refine y_ci (y_runV B hT hX hW hS (σ := fun k => 110 + k) (ad' := fun k => ad (110 + k)) (n9 := 13) (fun k hk => by omega) (fun k _ => rfl) (fun k hk => lE_m hk) (k := 0) (As := []) (rest := []) (fun sz => mm_thrown hI13 _ _ _ _ _ _ _ _ _ _ _ _ _ _ _ _ _ _ _ _ _ _ rfl rfl sz) (cwL_125 B.2.2.2.2.1 ⟨Nat.le_of_ble_eq_true rfl, Nat.le_of_ble_eq_true rfl⟩) (b_recv B hW (by omega) ((lE_m (k := 0) (by omega)).trans mE_0) rfl) rfl hl.1 (Nat.le_of_ble_eq_true rfl) dL_law_498 ⟨by show _ ≤ 603072; omega, by show _ ≤ 7194730; omega⟩) hI hW hS (fun k hk => by omega) (fun k _ => rfl) (fun E1 => lE cJ cF Ec E1 o od) (fun E1 k hk => lE_m hk) (fun E1 j hj hno => lE_out hno) (fun r_3 Em H locs hq hW hS => ?_)
    obtain ⟨hr3, hE_⟩ := hq
    rw [hE_] at hW
    refine lv_iload hx hb dL_law_501 (lv_at hl 1 rfl) ?_
    refine lv_icmp_eq (tgt := 508) hx hb dL_law_503 (by decide) (fun c_503 => ?_) (fun c_503 => ?_)
    rotate_left
    · exact absurd hr3 c_503
    refine lv_iload hx hb dL_law_508 (lv_at hl 1 rfl) ?_
    refine lv_if_ne (tgt := 525) hx hb dL_law_510 (by decide) (fun c_510 => ?_) (fun c_510 => ?_)
    rotate_left
    · exact absurd c_510 hK
    refine lv_goto (tgt := 2118) hx hb dL_law_525 (by decide) ?_
    exact K _ _ _ _ _ _ _ _ _ _ _ _ _ _ _ _ _ _ _ _ hC hM hW hS (lv_sub hl [2, 3, 4, 5, 6, 7] rfl)
set_option maxHeartbeats 4000000 in
set_option maxRecDepth 100000 in
theorem lc_5 {p : Program} {l : Launch} {e : Env} {s : State} {m : MethodId} {args : Array Value} {below : List Frame} {meth : Method} {c : Code} {Q : State → Prop} {D : va_G} {ad : Nat → Nat} {cI cZ cH cP cT cJ cF : ClassId} {b L : Nat} {xs : Nat → Int32} (C : LC p l s m args c D ad cI cZ cH cP cT cJ cF b L xs) {t cells slots : Nat} (ht : 4 * t + 4 ≤ L) (hc : cells + 8 ≤ 603072) (hs : slots + 48 ≤ 7194730) (K : LK p l e s m args below meth c Q D ad cI cZ cH cP cT cJ cF b t (cells + 8) (slots + 48)) {V T : Nat → Nat → Int32} {ag : Nat → Int32} {nP nH rN : Nat} {nf pn : Int32} {sp sk : Int64} {py pd : Nat → Nat → Int32} {th : Int32} {Ec Em : Nat → va_E} {o : Nat → Int64} {od : Nat → UInt64} {H : Heap} {locs : List Loc} {ls : Array Slot} (hC : CW cI cZ cH cP cT ad V T ag nP nH rN nf pn sp sk py pd Ec) (hM : MW cI cZ (fun k => ad (110 + k)) th V T ag nP nH rN nf pn sp sk py pd Em) (hW : hH D ad 124 (lE cJ cF Ec Em o od) H) (hS : va_S (cA ad 124 s.heap.size) s.heap H locs) (hl : lv_has ls 9 [(0, .ref b), (1, .ref (ad 0)), (2, .ref (ad 110)), (3, .ref (ad 109)), (4, .ref (ad 123)), (5, .int (nI (4 * t)))]) : W p l e room_1 s m args below meth c H locs cells slots Q (F0 m 528 ls []) := by
  obtain ⟨B, ⟨hlf, hT, hN, hX, hI⟩, hXs, hbl, hbA, hL⟩ := C
  have hx := B.1
  have hb := B.2.1
  have hI109 : aI ad 109 := hI.subw (σ := fun k => k) (fun k hk => by omega) (fun k _ => rfl) (fun i j _ _ e => e)
  have hI110 : aI ad 110 := hI.subw (σ := fun k => k) (fun k hk => by omega) (fun k _ => rfl) (fun i j _ _ e => e)
  have hI110d : aI (fun k => ad (sD k)) 110 := hI.subw (σ := sD) (fun k hk => sD_lt k hk) (fun k _ => rfl) sD_inj
  have hI13 : aI (fun k => ad (110 + k)) 13 := hI.subw (σ := fun k => 110 + k) (fun k hk => by omega) (fun k _ => rfl) (fun i j _ _ e => by have e : 110 + i = 110 + j := e; omega)
  obtain ⟨so, en, rA, rC, rI, aA, aC, aH, aT, aP, hEc, hInv⟩ := hC
  subst hEc
  obtain ⟨du, mA, mC, mH, mG, mS, mI, mT, mP, hEm⟩ := hM
  subst hEm
  refine lv_aload_n hx hb dL_law_528 rfl (lv_at hl 1 rfl) ?_
  refine lv_aload_n hx hb dL_law_529 rfl (lv_at hl 0 rfl) ?_
  refine lv_iload hx hb dL_law_530 (lv_at hl 5 rfl) ?_
  refine lv_iconst (v := nI 1) hx hb dL_law_532 (by decide) ?_
  refine lv_iadd hx hb dL_law_533 ?_
  refine b_top (y := nI (4 * t + 1)) (nI_add _ _) ?_
  refine va_sld hx hb hXs hbl hbA hS (vp_in_nI (by omega) (by omega)) dL_law_534 ?_
  refine b_top (y := xs (4 * t + 1)) (by rw [nI_clamp (by omega)]) ?_
  refine lv_i2c (v := (Int32.toUInt32 (xs (4 * t + 1)) % 65536).toInt32) hx hb dL_law_535 rfl ?_
  refine lv_aload_n hx hb dL_law_536 rfl (lv_at hl 0 rfl) ?_
  refine lv_iload hx hb dL_law_537 (lv_at hl 5 rfl) ?_
  refine lv_iconst (v := nI 2) hx hb dL_law_539 (by decide) ?_
  refine lv_iadd hx hb dL_law_540 ?_
  refine b_top (y := nI (4 * t + 2)) (nI_add _ _) ?_
  refine va_sld hx hb hXs hbl hbA hS (vp_in_nI (by omega) (by omega)) dL_law_541 ?_
  refine b_top (y := xs (4 * t + 2)) (by rw [nI_clamp (by omega)]) ?_
  refine lv_aload_n hx hb dL_law_542 rfl (lv_at hl 0 rfl) ?_
  refine lv_iload hx hb dL_law_543 (lv_at hl 5 rfl) ?_
  refine lv_iconst (v := nI 3) hx hb dL_law_545 (by decide) ?_
  refine lv_iadd hx hb dL_law_546 ?_
  refine b_top (y := nI (4 * t + 3)) (nI_add _ _) ?_
  refine va_sld hx hb hXs hbl hbA hS (vp_in_nI (by omega) (by omega)) dL_law_547 ?_
  refine b_top (y := xs (4 * t + 3)) (by rw [nI_clamp (by omega)]) ?_
  refine lv_aload_n hx hb dL_law_548 rfl (lv_at hl 3 rfl) ?_
  refine y_ci (y_runSW B hT hX hN hW hS (σ := fun k => k) (ad' := ad) (n9 := 110) (fun k hk => by omega) (fun k _ => rfl) (fun k hk => lE_h hk) (As := [.ref (ad 0), .int ((Int32.toUInt32 (xs (4 * t + 1)) % 65536).toInt32), .int (xs (4 * t + 2)), .int (xs (4 * t + 3)), .ref (ad 109)]) (rest := []) (fun sz => lh_setRule hlf hI110 o V T ag nP nH rN nf pn sp sk py pd so en rA rC rI aA aC aH aT aP (((Int32.toUInt32 (xs (4 * t + 1)) % 65536).toInt32)) ((xs (4 * t + 2))) ((xs (4 * t + 3))) rfl rfl rfl rfl rfl rfl rfl hInv (ad := ad) sz) (cwL_142 B.2.2.2.2.1 ⟨Nat.le_of_ble_eq_true rfl, Nat.le_of_ble_eq_true rfl⟩) rfl hl.1 (Nat.le_of_ble_eq_true rfl) dL_law_549 ⟨by show _ ≤ 603072; omega, by show _ ≤ 7194730; omega⟩) hI hW hS (fun k hk => by omega) (fun k _ => rfl) (fun E1 => gH cF E1 (mE cI cZ (fun k => ad (110 + k)) th nP nH rN nf pn sp sk ag (RV V) (RV T) (FL pd) (FL py) du mA mC mH mG mS mI mT mP) od) (fun E1 k hk => gH_in hk) (fun E1 j hj hno => gH_out hno) (fun r_1 E1 H locs hp hW hS => ?_)
  obtain ⟨hr_, Ec, o, hE_, hp⟩ := hp
  have hW : hH D ad 124 (lE cJ cF Ec (mE cI cZ (fun k => ad (110 + k)) th nP nH rN nf pn sp sk ag (RV V) (RV T) (FL pd) (FL py) du mA mC mH mG mS mI mT mP) o od) H := hW.eq (by rw [hE_, gH_eq])
  rw [← hr_] at hp
  refine lv_istore (lv' := [(6, .int r_1), (0, .ref b), (1, .ref (ad 0)), (2, .ref (ad 110)), (3, .ref (ad 109)), (4, .ref (ad 123)), (5, .int (nI (4 * t)))]) hx hb dL_law_552 hl (by decide) rfl (fun ls hl => ?_)
  refine lv_aload_n hx hb dL_law_554 rfl (lv_at hl 3 rfl) ?_
  refine lv_aload_n hx hb dL_law_555 rfl (lv_at hl 1 rfl) ?_
  refine lv_iload hx hb dL_law_556 (lv_at hl 6 rfl) ?_
  refine lv_iconst (v := nI 1) hx hb dL_law_558 (by decide) ?_
  refine lv_iadd hx hb dL_law_559 ?_
  refine b_top (y := nI (4 * t + 1)) (nI_add _ _) ?_
  refine va_sld hx hb hXs hbl hbA hS (vp_in_nI (by omega) (by omega)) dL_law_560 ?_
  refine b_top (y := xs (4 * t + 1)) (by rw [nI_clamp (by omega)]) ?_
  refine lv_i2c (v := (Int32.toUInt32 (xs (4 * t + 1)) % 65536).toInt32) hx hb dL_law_561 rfl ?_
  refine lv_aload_n hx hb dL_law_562 rfl (lv_at hl 1 rfl) ?_
  refine lv_iload hx hb dL_law_563 (lv_at hl 6 rfl) ?_
  refine lv_iconst (v := nI 2) hx hb dL_law_565 (by decide) ?_
  refine lv_iadd hx hb dL_law_566 ?_
  refine b_top (y := nI (4 * t + 2)) (nI_add _ _) ?_
  refine va_sld hx hb hXs hbl hbA hS (vp_in_nI (by omega) (by omega)) dL_law_567 ?_
  refine b_top (y := xs (4 * t + 2)) (by rw [nI_clamp (by omega)]) ?_
  refine lv_aload_n hx hb dL_law_568 rfl (lv_at hl 1 rfl) ?_
  refine lv_iload hx hb dL_law_569 (lv_at hl 6 rfl) ?_
  refine lv_iconst (v := nI 3) hx hb dL_law_571 (by decide) ?_
  refine lv_iadd hx hb dL_law_572 ?_
  refine b_top (y := nI (4 * t + 3)) (nI_add _ _) ?_
  refine va_sld hx hb hXs hbl hbA hS (vp_in_nI (by omega) (by omega)) dL_law_573 ?_
  refine b_top (y := xs (4 * t + 3)) (by rw [nI_clamp (by omega)]) ?_
  refine y_ci (y_runV B hT hX hW hS (σ := fun k => 110 + k) (ad' := fun k => ad (110 + k)) (n9 := 13) (fun k hk => by omega) (fun k _ => rfl) (fun k hk => lE_m hk) (k := 0) (As := [.int ((Int32.toUInt32 (xs (4 * t + 1)) % 65536).toInt32), .int (xs (4 * t + 2)), .int (xs (4 * t + 3))]) (rest := []) (fun sz => mm_setRule hI13 th nP nH rN nf pn sp sk ag V T pd py du mA mC mH mG mS mI mT mP (((Int32.toUInt32 (xs (4 * t + 1)) % 65536).toInt32)) ((xs (4 * t + 2))) ((xs (4 * t + 3))) so rfl rfl hInv sz) (cwL_145 B.2.2.2.2.1 ⟨Nat.le_of_ble_eq_true rfl, Nat.le_of_ble_eq_true rfl⟩) (b_recv B hW (by omega) ((lE_m (k := 0) (by omega)).trans mE_0) rfl) rfl hl.1 (Nat.le_of_ble_eq_true rfl) dL_law_574 ⟨by show _ ≤ 603072; omega, by show _ ≤ 7194730; omega⟩) hI hW hS (fun k hk => by omega) (fun k _ => rfl) (fun E1 => lE cJ cF Ec E1 o od) (fun E1 k hk => lE_m hk) (fun E1 j hj hno => lE_out hno) (fun r_2 Em H locs hq hW hS => ?_)
  rw [← hr_] at hq
  by_cases hK : r_1 = 0
  · skip
    have hp := hp.resolve_right (fun q => q.1 hK)
    obtain ⟨-, ho, hC⟩ := hp
    have hq := hq.resolve_right (fun q => q.1 hK)
    obtain ⟨-, hr2, hM⟩ := hq
    refine lv_istore (lv' := [(7, .int r_2), (6, .int r_1), (0, .ref b), (1, .ref (ad 0)), (2, .ref (ad 110)), (3, .ref (ad 109)), (4, .ref (ad 123)), (5, .int (nI (4 * t)))]) hx hb dL_law_577 hl (by decide) rfl (fun ls hl => ?_)
    refine lv_aload_n hx hb dL_law_579 rfl (lv_at hl 4 rfl) ?_
    obtain ⟨du, mA, mC, mH, mG, mS, mI, mT, mP, hEm⟩ := id hM
    subst hEm
    refine y_ci (y_runV B hT hX hW hS (σ := fun k => 110 + k) (ad' := fun k => ad (110 + k)) (n9 := 13) (fun k hk => by omega) (fun k _ => rfl) (fun k hk => lE_m hk) (k := 0) (As := []) (rest := []) (fun sz => mm_thrown hI13 _ _ _ _ _ _ _ _ _ _ _ _ _ _ _ _ _ _ _ _ _ _ rfl rfl sz) (cwL_125 B.2.2.2.2.1 ⟨Nat.le_of_ble_eq_true rfl, Nat.le_of_ble_eq_true rfl⟩) (b_recv B hW (by omega) ((lE_m (k := 0) (by omega)).trans mE_0) rfl) rfl hl.1 (Nat.le_of_ble_eq_true rfl) dL_law_580 ⟨by show _ ≤ 603072; omega, by show _ ≤ 7194730; omega⟩) hI hW hS (fun k hk => by omega) (fun k _ => rfl) (fun E1 => lE cJ cF Ec E1 o od) (fun E1 k hk => lE_m hk) (fun E1 j hj hno => lE_out hno) (fun r_3 Em H locs hq hW hS => ?_)
    obtain ⟨hr3, hE_⟩ := hq
    rw [hE_] at hW
    refine lv_iload hx hb dL_law_583 (lv_at hl 1 rfl) ?_
    refine lv_icmp_eq (tgt := 590) hx hb dL_law_585 (by decide) (fun c_585 => ?_) (fun c_585 => ?_)
    rotate_left
    · exact absurd (hr3.trans hK.symm) c_585
    refine lv_iload hx hb dL_law_590 (lv_at hl 1 rfl) ?_
    refine lv_if_ne (tgt := 607) hx hb dL_law_592 (by decide) (fun c_592 => ?_) (fun c_592 => ?_)
    · exact absurd hK c_592
    refine lv_aload_n hx hb dL_law_595 rfl (lv_at hl 5 rfl) ?_
    refine lv_iconst (v := nI 0) hx hb dL_law_596 (by decide) ?_
    refine b_lald B hW rfl (j := 0) (by omega) lE_109 (vp_in_nI (by omega) (by omega)) rfl dL_law_597 ?_
    refine lv_iload hx hb dL_law_598 (lv_at hl 0 rfl) ?_
    refine lv_i2l hx hb dL_law_600 rfl ?_
    refine b_lcmp hx hb dL_law_601 ?_
    refine lv_if_eq (tgt := 607) hx hb dL_law_602 (by decide) (fun c_602 => ?_) (fun c_602 => ?_)
    rotate_left
    · exact absurd (lcm_0.mpr (by rw [ho, hr2])) c_602
    refine lv_goto (tgt := 2118) hx hb dL_law_607 (by decide) ?_
    exact K _ _ _ _ _ _ _ _ _ _ _ _ _ _ _ _ _ _ _ _ hC hM hW hS (lv_sub hl [2, 3, 4, 5, 6, 7] rfl)
  · skip
    have hp := hp.resolve_left (fun q => hK q.1)
    obtain ⟨-, hC⟩ := hp
    have hq := hq.resolve_left (fun q => hK q.1)
    obtain ⟨-, hM⟩ := hq
    refine lv_istore (lv' := [(7, .int r_2), (6, .int r_1), (0, .ref b), (1, .ref (ad 0)), (2, .ref (ad 110)), (3, .ref (ad 109)), (4, .ref (ad 123)), (5, .int (nI (4 * t)))]) hx hb dL_law_577 hl (by decide) rfl (fun ls hl => ?_)
    refine lv_aload_n hx hb dL_law_579 rfl (lv_at hl 4 rfl) ?_
    obtain ⟨du, mA, mC, mH, mG, mS, mI, mT, mP, hEm⟩ := id hM
    subst hEm
    refine y_ci (y_runV B hT hX hW hS (σ := fun k => 110 + k) (ad' := fun k => ad (110 + k)) (n9 := 13) (fun k hk => by omega) (fun k _ => rfl) (fun k hk => lE_m hk) (k := 0) (As := []) (rest := []) (fun sz => mm_thrown hI13 _ _ _ _ _ _ _ _ _ _ _ _ _ _ _ _ _ _ _ _ _ _ rfl rfl sz) (cwL_125 B.2.2.2.2.1 ⟨Nat.le_of_ble_eq_true rfl, Nat.le_of_ble_eq_true rfl⟩) (b_recv B hW (by omega) ((lE_m (k := 0) (by omega)).trans mE_0) rfl) rfl hl.1 (Nat.le_of_ble_eq_true rfl) dL_law_580 ⟨by show _ ≤ 603072; omega, by show _ ≤ 7194730; omega⟩) hI hW hS (fun k hk => by omega) (fun k _ => rfl) (fun E1 => lE cJ cF Ec E1 o od) (fun E1 k hk => lE_m hk) (fun E1 j hj hno => lE_out hno) (fun r_3 Em H locs hq hW hS => ?_)
    obtain ⟨hr3, hE_⟩ := hq
    rw [hE_] at hW
    refine lv_iload hx hb dL_law_583 (lv_at hl 1 rfl) ?_
    refine lv_icmp_eq (tgt := 590) hx hb dL_law_585 (by decide) (fun c_585 => ?_) (fun c_585 => ?_)
    rotate_left
    · exact absurd hr3 c_585
    refine lv_iload hx hb dL_law_590 (lv_at hl 1 rfl) ?_
    refine lv_if_ne (tgt := 607) hx hb dL_law_592 (by decide) (fun c_592 => ?_) (fun c_592 => ?_)
    rotate_left
    · exact absurd c_592 hK
    refine lv_goto (tgt := 2118) hx hb dL_law_607 (by decide) ?_
    exact K _ _ _ _ _ _ _ _ _ _ _ _ _ _ _ _ _ _ _ _ hC hM hW hS (lv_sub hl [2, 3, 4, 5, 6, 7] rfl)
set_option maxHeartbeats 4000000 in
set_option maxRecDepth 100000 in
theorem lc_6 {p : Program} {l : Launch} {e : Env} {s : State} {m : MethodId} {args : Array Value} {below : List Frame} {meth : Method} {c : Code} {Q : State → Prop} {D : va_G} {ad : Nat → Nat} {cI cZ cH cP cT cJ cF : ClassId} {b L : Nat} {xs : Nat → Int32} (C : LC p l s m args c D ad cI cZ cH cP cT cJ cF b L xs) {t cells slots : Nat} (ht : 4 * t + 4 ≤ L) (hc : cells + 8 ≤ 603072) (hs : slots + 48 ≤ 7194730) (K : LK p l e s m args below meth c Q D ad cI cZ cH cP cT cJ cF b t (cells + 8) (slots + 48)) {V T : Nat → Nat → Int32} {ag : Nat → Int32} {nP nH rN : Nat} {nf pn : Int32} {sp sk : Int64} {py pd : Nat → Nat → Int32} {th : Int32} {Ec Em : Nat → va_E} {o : Nat → Int64} {od : Nat → UInt64} {H : Heap} {locs : List Loc} {ls : Array Slot} (hC : CW cI cZ cH cP cT ad V T ag nP nH rN nf pn sp sk py pd Ec) (hM : MW cI cZ (fun k => ad (110 + k)) th V T ag nP nH rN nf pn sp sk py pd Em) (hW : hH D ad 124 (lE cJ cF Ec Em o od) H) (hS : va_S (cA ad 124 s.heap.size) s.heap H locs) (hl : lv_has ls 9 [(0, .ref b), (1, .ref (ad 0)), (2, .ref (ad 110)), (3, .ref (ad 109)), (4, .ref (ad 123)), (5, .int (nI (4 * t)))]) : W p l e room_1 s m args below meth c H locs cells slots Q (F0 m 610 ls []) := by
  obtain ⟨B, ⟨hlf, hT, hN, hX, hI⟩, hXs, hbl, hbA, hL⟩ := C
  have hx := B.1
  have hb := B.2.1
  have hI109 : aI ad 109 := hI.subw (σ := fun k => k) (fun k hk => by omega) (fun k _ => rfl) (fun i j _ _ e => e)
  have hI110 : aI ad 110 := hI.subw (σ := fun k => k) (fun k hk => by omega) (fun k _ => rfl) (fun i j _ _ e => e)
  have hI110d : aI (fun k => ad (sD k)) 110 := hI.subw (σ := sD) (fun k hk => sD_lt k hk) (fun k _ => rfl) sD_inj
  have hI13 : aI (fun k => ad (110 + k)) 13 := hI.subw (σ := fun k => 110 + k) (fun k hk => by omega) (fun k _ => rfl) (fun i j _ _ e => by have e : 110 + i = 110 + j := e; omega)
  obtain ⟨so, en, rA, rC, rI, aA, aC, aH, aT, aP, hEc, hInv⟩ := hC
  subst hEc
  obtain ⟨du, mA, mC, mH, mG, mS, mI, mT, mP, hEm⟩ := hM
  subst hEm
  refine lv_aload_n hx hb dL_law_610 rfl (lv_at hl 1 rfl) ?_
  refine lv_aload_n hx hb dL_law_611 rfl (lv_at hl 0 rfl) ?_
  refine lv_iload hx hb dL_law_612 (lv_at hl 5 rfl) ?_
  refine lv_iconst (v := nI 1) hx hb dL_law_614 (by decide) ?_
  refine lv_iadd hx hb dL_law_615 ?_
  refine b_top (y := nI (4 * t + 1)) (nI_add _ _) ?_
  refine va_sld hx hb hXs hbl hbA hS (vp_in_nI (by omega) (by omega)) dL_law_616 ?_
  refine b_top (y := xs (4 * t + 1)) (by rw [nI_clamp (by omega)]) ?_
  refine lv_aload_n hx hb dL_law_617 rfl (lv_at hl 0 rfl) ?_
  refine lv_iload hx hb dL_law_618 (lv_at hl 5 rfl) ?_
  refine lv_iconst (v := nI 2) hx hb dL_law_620 (by decide) ?_
  refine lv_iadd hx hb dL_law_621 ?_
  refine b_top (y := nI (4 * t + 2)) (nI_add _ _) ?_
  refine va_sld hx hb hXs hbl hbA hS (vp_in_nI (by omega) (by omega)) dL_law_622 ?_
  refine b_top (y := xs (4 * t + 2)) (by rw [nI_clamp (by omega)]) ?_
  refine lv_aload_n hx hb dL_law_623 rfl (lv_at hl 3 rfl) ?_
  refine y_ci (y_runSW B hT hX hN hW hS (σ := fun k => k) (ad' := ad) (n9 := 110) (fun k hk => by omega) (fun k _ => rfl) (fun k hk => lE_h hk) (As := [.ref (ad 0), .int (xs (4 * t + 1)), .int (xs (4 * t + 2)), .ref (ad 109)]) (rest := []) (fun sz => lh_takeBackMove hlf hI110 o V T ag nP nH rN nf pn sp sk py pd so en rA rC rI aA aC aH aT aP ((xs (4 * t + 1))) ((xs (4 * t + 2))) rfl rfl rfl rfl rfl rfl rfl hInv (ad := ad) sz) (cwL_146 B.2.2.2.2.1 ⟨Nat.le_of_ble_eq_true rfl, Nat.le_of_ble_eq_true rfl⟩) rfl hl.1 (Nat.le_of_ble_eq_true rfl) dL_law_624 ⟨by show _ ≤ 603072; omega, by show _ ≤ 7194730; omega⟩) hI hW hS (fun k hk => by omega) (fun k _ => rfl) (fun E1 => gH cF E1 (mE cI cZ (fun k => ad (110 + k)) th nP nH rN nf pn sp sk ag (RV V) (RV T) (FL pd) (FL py) du mA mC mH mG mS mI mT mP) od) (fun E1 k hk => gH_in hk) (fun E1 j hj hno => gH_out hno) (fun r_1 E1 H locs hp hW hS => ?_)
  obtain ⟨hr_, Ec, o, hE_, hp⟩ := hp
  have hW : hH D ad 124 (lE cJ cF Ec (mE cI cZ (fun k => ad (110 + k)) th nP nH rN nf pn sp sk ag (RV V) (RV T) (FL pd) (FL py) du mA mC mH mG mS mI mT mP) o od) H := hW.eq (by rw [hE_, gH_eq])
  rw [← hr_] at hp
  refine lv_istore (lv' := [(6, .int r_1), (0, .ref b), (1, .ref (ad 0)), (2, .ref (ad 110)), (3, .ref (ad 109)), (4, .ref (ad 123)), (5, .int (nI (4 * t)))]) hx hb dL_law_627 hl (by decide) rfl (fun ls hl => ?_)
  refine lv_aload_n hx hb dL_law_629 rfl (lv_at hl 3 rfl) ?_
  refine lv_aload_n hx hb dL_law_630 rfl (lv_at hl 1 rfl) ?_
  refine lv_iload hx hb dL_law_631 (lv_at hl 6 rfl) ?_
  refine lv_iconst (v := nI 1) hx hb dL_law_633 (by decide) ?_
  refine lv_iadd hx hb dL_law_634 ?_
  refine b_top (y := nI (4 * t + 1)) (nI_add _ _) ?_
  refine va_sld hx hb hXs hbl hbA hS (vp_in_nI (by omega) (by omega)) dL_law_635 ?_
  refine b_top (y := xs (4 * t + 1)) (by rw [nI_clamp (by omega)]) ?_
  refine lv_aload_n hx hb dL_law_636 rfl (lv_at hl 1 rfl) ?_
  refine lv_iload hx hb dL_law_637 (lv_at hl 6 rfl) ?_
  refine lv_iconst (v := nI 2) hx hb dL_law_639 (by decide) ?_
  refine lv_iadd hx hb dL_law_640 ?_
  refine b_top (y := nI (4 * t + 2)) (nI_add _ _) ?_
  refine va_sld hx hb hXs hbl hbA hS (vp_in_nI (by omega) (by omega)) dL_law_641 ?_
  refine b_top (y := xs (4 * t + 2)) (by rw [nI_clamp (by omega)]) ?_
  refine y_ci (y_runV B hT hX hW hS (σ := fun k => 110 + k) (ad' := fun k => ad (110 + k)) (n9 := 13) (fun k hk => by omega) (fun k _ => rfl) (fun k hk => lE_m hk) (k := 0) (As := [.int (xs (4 * t + 1)), .int (xs (4 * t + 2))]) (rest := []) (fun sz => mm_takeBackMove hI13 th nP nH rN nf pn sp sk ag V T pd py du mA mC mH mG mS mI mT mP ((xs (4 * t + 1))) ((xs (4 * t + 2))) so rfl rfl hInv sz) (cwL_149 B.2.2.2.2.1 ⟨Nat.le_of_ble_eq_true rfl, Nat.le_of_ble_eq_true rfl⟩) (b_recv B hW (by omega) ((lE_m (k := 0) (by omega)).trans mE_0) rfl) rfl hl.1 (Nat.le_of_ble_eq_true rfl) dL_law_642 ⟨by show _ ≤ 603072; omega, by show _ ≤ 7194730; omega⟩) hI hW hS (fun k hk => by omega) (fun k _ => rfl) (fun E1 => lE cJ cF Ec E1 o od) (fun E1 k hk => lE_m hk) (fun E1 j hj hno => lE_out hno) (fun r_2 Em H locs hq hW hS => ?_)
  rw [← hr_] at hq
  by_cases hK : r_1 = 0
  · skip
    have hp := hp.resolve_right (fun q => q.1 hK)
    obtain ⟨-, ho, hC⟩ := hp
    have hq := hq.resolve_right (fun q => q.1 hK)
    obtain ⟨-, hr2, hM⟩ := hq
    refine lv_istore (lv' := [(7, .int r_2), (6, .int r_1), (0, .ref b), (1, .ref (ad 0)), (2, .ref (ad 110)), (3, .ref (ad 109)), (4, .ref (ad 123)), (5, .int (nI (4 * t)))]) hx hb dL_law_645 hl (by decide) rfl (fun ls hl => ?_)
    refine lv_aload_n hx hb dL_law_647 rfl (lv_at hl 4 rfl) ?_
    obtain ⟨du, mA, mC, mH, mG, mS, mI, mT, mP, hEm⟩ := id hM
    subst hEm
    refine y_ci (y_runV B hT hX hW hS (σ := fun k => 110 + k) (ad' := fun k => ad (110 + k)) (n9 := 13) (fun k hk => by omega) (fun k _ => rfl) (fun k hk => lE_m hk) (k := 0) (As := []) (rest := []) (fun sz => mm_thrown hI13 _ _ _ _ _ _ _ _ _ _ _ _ _ _ _ _ _ _ _ _ _ _ rfl rfl sz) (cwL_125 B.2.2.2.2.1 ⟨Nat.le_of_ble_eq_true rfl, Nat.le_of_ble_eq_true rfl⟩) (b_recv B hW (by omega) ((lE_m (k := 0) (by omega)).trans mE_0) rfl) rfl hl.1 (Nat.le_of_ble_eq_true rfl) dL_law_648 ⟨by show _ ≤ 603072; omega, by show _ ≤ 7194730; omega⟩) hI hW hS (fun k hk => by omega) (fun k _ => rfl) (fun E1 => lE cJ cF Ec E1 o od) (fun E1 k hk => lE_m hk) (fun E1 j hj hno => lE_out hno) (fun r_3 Em H locs hq hW hS => ?_)
    obtain ⟨hr3, hE_⟩ := hq
    rw [hE_] at hW
    refine lv_iload hx hb dL_law_651 (lv_at hl 1 rfl) ?_
    refine lv_icmp_eq (tgt := 658) hx hb dL_law_653 (by decide) (fun c_653 => ?_) (fun c_653 => ?_)
    rotate_left
    · exact absurd (hr3.trans hK.symm) c_653
    refine lv_iload hx hb dL_law_658 (lv_at hl 1 rfl) ?_
    refine lv_if_ne (tgt := 675) hx hb dL_law_660 (by decide) (fun c_660 => ?_) (fun c_660 => ?_)
    · exact absurd hK c_660
    refine lv_aload_n hx hb dL_law_663 rfl (lv_at hl 5 rfl) ?_
    refine lv_iconst (v := nI 0) hx hb dL_law_664 (by decide) ?_
    refine b_lald B hW rfl (j := 0) (by omega) lE_109 (vp_in_nI (by omega) (by omega)) rfl dL_law_665 ?_
    refine lv_iload hx hb dL_law_666 (lv_at hl 0 rfl) ?_
    refine lv_i2l hx hb dL_law_668 rfl ?_
    refine b_lcmp hx hb dL_law_669 ?_
    refine lv_if_eq (tgt := 675) hx hb dL_law_670 (by decide) (fun c_670 => ?_) (fun c_670 => ?_)
    rotate_left
    · exact absurd (lcm_0.mpr (by rw [ho, hr2])) c_670
    refine lv_goto (tgt := 2118) hx hb dL_law_675 (by decide) ?_
    exact K _ _ _ _ _ _ _ _ _ _ _ _ _ _ _ _ _ _ _ _ hC hM hW hS (lv_sub hl [2, 3, 4, 5, 6, 7] rfl)
  · skip
    have hp := hp.resolve_left (fun q => hK q.1)
    obtain ⟨-, hC⟩ := hp
    have hq := hq.resolve_left (fun q => hK q.1)
    obtain ⟨-, hM⟩ := hq
    refine lv_istore (lv' := [(7, .int r_2), (6, .int r_1), (0, .ref b), (1, .ref (ad 0)), (2, .ref (ad 110)), (3, .ref (ad 109)), (4, .ref (ad 123)), (5, .int (nI (4 * t)))]) hx hb dL_law_645 hl (by decide) rfl (fun ls hl => ?_)
    refine lv_aload_n hx hb dL_law_647 rfl (lv_at hl 4 rfl) ?_
    obtain ⟨du, mA, mC, mH, mG, mS, mI, mT, mP, hEm⟩ := id hM
    subst hEm
    refine y_ci (y_runV B hT hX hW hS (σ := fun k => 110 + k) (ad' := fun k => ad (110 + k)) (n9 := 13) (fun k hk => by omega) (fun k _ => rfl) (fun k hk => lE_m hk) (k := 0) (As := []) (rest := []) (fun sz => mm_thrown hI13 _ _ _ _ _ _ _ _ _ _ _ _ _ _ _ _ _ _ _ _ _ _ rfl rfl sz) (cwL_125 B.2.2.2.2.1 ⟨Nat.le_of_ble_eq_true rfl, Nat.le_of_ble_eq_true rfl⟩) (b_recv B hW (by omega) ((lE_m (k := 0) (by omega)).trans mE_0) rfl) rfl hl.1 (Nat.le_of_ble_eq_true rfl) dL_law_648 ⟨by show _ ≤ 603072; omega, by show _ ≤ 7194730; omega⟩) hI hW hS (fun k hk => by omega) (fun k _ => rfl) (fun E1 => lE cJ cF Ec E1 o od) (fun E1 k hk => lE_m hk) (fun E1 j hj hno => lE_out hno) (fun r_3 Em H locs hq hW hS => ?_)
    obtain ⟨hr3, hE_⟩ := hq
    rw [hE_] at hW
    refine lv_iload hx hb dL_law_651 (lv_at hl 1 rfl) ?_
    refine lv_icmp_eq (tgt := 658) hx hb dL_law_653 (by decide) (fun c_653 => ?_) (fun c_653 => ?_)
    rotate_left
    · exact absurd hr3 c_653
    refine lv_iload hx hb dL_law_658 (lv_at hl 1 rfl) ?_
    refine lv_if_ne (tgt := 675) hx hb dL_law_660 (by decide) (fun c_660 => ?_) (fun c_660 => ?_)
    rotate_left
    · exact absurd c_660 hK
    refine lv_goto (tgt := 2118) hx hb dL_law_675 (by decide) ?_
    exact K _ _ _ _ _ _ _ _ _ _ _ _ _ _ _ _ _ _ _ _ hC hM hW hS (lv_sub hl [2, 3, 4, 5, 6, 7] rfl)
set_option maxHeartbeats 4000000 in
set_option maxRecDepth 100000 in
theorem lc_7 {p : Program} {l : Launch} {e : Env} {s : State} {m : MethodId} {args : Array Value} {below : List Frame} {meth : Method} {c : Code} {Q : State → Prop} {D : va_G} {ad : Nat → Nat} {cI cZ cH cP cT cJ cF : ClassId} {b L : Nat} {xs : Nat → Int32} (C : LC p l s m args c D ad cI cZ cH cP cT cJ cF b L xs) {t cells slots : Nat} (ht : 4 * t + 4 ≤ L) (hc : cells + 8 ≤ 603072) (hs : slots + 48 ≤ 7194730) (K : LK p l e s m args below meth c Q D ad cI cZ cH cP cT cJ cF b t (cells + 8) (slots + 48)) {V T : Nat → Nat → Int32} {ag : Nat → Int32} {nP nH rN : Nat} {nf pn : Int32} {sp sk : Int64} {py pd : Nat → Nat → Int32} {th : Int32} {Ec Em : Nat → va_E} {o : Nat → Int64} {od : Nat → UInt64} {H : Heap} {locs : List Loc} {ls : Array Slot} (hC : CW cI cZ cH cP cT ad V T ag nP nH rN nf pn sp sk py pd Ec) (hM : MW cI cZ (fun k => ad (110 + k)) th V T ag nP nH rN nf pn sp sk py pd Em) (hW : hH D ad 124 (lE cJ cF Ec Em o od) H) (hS : va_S (cA ad 124 s.heap.size) s.heap H locs) (hl : lv_has ls 9 [(0, .ref b), (1, .ref (ad 0)), (2, .ref (ad 110)), (3, .ref (ad 109)), (4, .ref (ad 123)), (5, .int (nI (4 * t)))]) : W p l e room_1 s m args below meth c H locs cells slots Q (F0 m 678 ls []) := by
  obtain ⟨B, ⟨hlf, hT, hN, hX, hI⟩, hXs, hbl, hbA, hL⟩ := C
  have hx := B.1
  have hb := B.2.1
  have hI109 : aI ad 109 := hI.subw (σ := fun k => k) (fun k hk => by omega) (fun k _ => rfl) (fun i j _ _ e => e)
  have hI110 : aI ad 110 := hI.subw (σ := fun k => k) (fun k hk => by omega) (fun k _ => rfl) (fun i j _ _ e => e)
  have hI110d : aI (fun k => ad (sD k)) 110 := hI.subw (σ := sD) (fun k hk => sD_lt k hk) (fun k _ => rfl) sD_inj
  have hI13 : aI (fun k => ad (110 + k)) 13 := hI.subw (σ := fun k => 110 + k) (fun k hk => by omega) (fun k _ => rfl) (fun i j _ _ e => by have e : 110 + i = 110 + j := e; omega)
  obtain ⟨so, en, rA, rC, rI, aA, aC, aH, aT, aP, hEc, hInv⟩ := hC
  subst hEc
  obtain ⟨du, mA, mC, mH, mG, mS, mI, mT, mP, hEm⟩ := hM
  subst hEm
  refine lv_aload_n hx hb dL_law_678 rfl (lv_at hl 1 rfl) ?_
  refine lv_aload_n hx hb dL_law_679 rfl (lv_at hl 0 rfl) ?_
  refine lv_iload hx hb dL_law_680 (lv_at hl 5 rfl) ?_
  refine lv_iconst (v := nI 1) hx hb dL_law_682 (by decide) ?_
  refine lv_iadd hx hb dL_law_683 ?_
  refine b_top (y := nI (4 * t + 1)) (nI_add _ _) ?_
  refine va_sld hx hb hXs hbl hbA hS (vp_in_nI (by omega) (by omega)) dL_law_684 ?_
  refine b_top (y := xs (4 * t + 1)) (by rw [nI_clamp (by omega)]) ?_
  refine lv_aload_n hx hb dL_law_685 rfl (lv_at hl 0 rfl) ?_
  refine lv_iload hx hb dL_law_686 (lv_at hl 5 rfl) ?_
  refine lv_iconst (v := nI 2) hx hb dL_law_688 (by decide) ?_
  refine lv_iadd hx hb dL_law_689 ?_
  refine b_top (y := nI (4 * t + 2)) (nI_add _ _) ?_
  refine va_sld hx hb hXs hbl hbA hS (vp_in_nI (by omega) (by omega)) dL_law_690 ?_
  refine b_top (y := xs (4 * t + 2)) (by rw [nI_clamp (by omega)]) ?_
  refine lv_aload_n hx hb dL_law_691 rfl (lv_at hl 3 rfl) ?_
  refine y_ci (y_runSW B hT hX hN hW hS (σ := fun k => k) (ad' := ad) (n9 := 110) (fun k hk => by omega) (fun k _ => rfl) (fun k hk => lE_h hk) (As := [.ref (ad 0), .int (xs (4 * t + 1)), .int (xs (4 * t + 2)), .ref (ad 109)]) (rest := []) (fun sz => lh_takeBackIncome hlf hI110 o V T ag nP nH rN nf pn sp sk py pd so en rA rC rI aA aC aH aT aP ((xs (4 * t + 1))) ((xs (4 * t + 2))) rfl rfl rfl rfl rfl rfl rfl hInv (ad := ad) sz) (cwL_150 B.2.2.2.2.1 ⟨Nat.le_of_ble_eq_true rfl, Nat.le_of_ble_eq_true rfl⟩) rfl hl.1 (Nat.le_of_ble_eq_true rfl) dL_law_692 ⟨by show _ ≤ 603072; omega, by show _ ≤ 7194730; omega⟩) hI hW hS (fun k hk => by omega) (fun k _ => rfl) (fun E1 => gH cF E1 (mE cI cZ (fun k => ad (110 + k)) th nP nH rN nf pn sp sk ag (RV V) (RV T) (FL pd) (FL py) du mA mC mH mG mS mI mT mP) od) (fun E1 k hk => gH_in hk) (fun E1 j hj hno => gH_out hno) (fun r_1 E1 H locs hp hW hS => ?_)
  obtain ⟨hr_, Ec, o, hE_, hp⟩ := hp
  have hW : hH D ad 124 (lE cJ cF Ec (mE cI cZ (fun k => ad (110 + k)) th nP nH rN nf pn sp sk ag (RV V) (RV T) (FL pd) (FL py) du mA mC mH mG mS mI mT mP) o od) H := hW.eq (by rw [hE_, gH_eq])
  rw [← hr_] at hp
  refine lv_istore (lv' := [(6, .int r_1), (0, .ref b), (1, .ref (ad 0)), (2, .ref (ad 110)), (3, .ref (ad 109)), (4, .ref (ad 123)), (5, .int (nI (4 * t)))]) hx hb dL_law_695 hl (by decide) rfl (fun ls hl => ?_)
  refine lv_aload_n hx hb dL_law_697 rfl (lv_at hl 3 rfl) ?_
  refine lv_aload_n hx hb dL_law_698 rfl (lv_at hl 1 rfl) ?_
  refine lv_iload hx hb dL_law_699 (lv_at hl 6 rfl) ?_
  refine lv_iconst (v := nI 1) hx hb dL_law_701 (by decide) ?_
  refine lv_iadd hx hb dL_law_702 ?_
  refine b_top (y := nI (4 * t + 1)) (nI_add _ _) ?_
  refine va_sld hx hb hXs hbl hbA hS (vp_in_nI (by omega) (by omega)) dL_law_703 ?_
  refine b_top (y := xs (4 * t + 1)) (by rw [nI_clamp (by omega)]) ?_
  refine lv_aload_n hx hb dL_law_704 rfl (lv_at hl 1 rfl) ?_
  refine lv_iload hx hb dL_law_705 (lv_at hl 6 rfl) ?_
  refine lv_iconst (v := nI 2) hx hb dL_law_707 (by decide) ?_
  refine lv_iadd hx hb dL_law_708 ?_
  refine b_top (y := nI (4 * t + 2)) (nI_add _ _) ?_
  refine va_sld hx hb hXs hbl hbA hS (vp_in_nI (by omega) (by omega)) dL_law_709 ?_
  refine b_top (y := xs (4 * t + 2)) (by rw [nI_clamp (by omega)]) ?_
  refine y_ci (y_runV B hT hX hW hS (σ := fun k => 110 + k) (ad' := fun k => ad (110 + k)) (n9 := 13) (fun k hk => by omega) (fun k _ => rfl) (fun k hk => lE_m hk) (k := 0) (As := [.int (xs (4 * t + 1)), .int (xs (4 * t + 2))]) (rest := []) (fun sz => mm_takeBackIncome hI13 th nP nH rN nf pn sp sk ag V T pd py du mA mC mH mG mS mI mT mP ((xs (4 * t + 1))) ((xs (4 * t + 2))) so rfl rfl hInv sz) (cwL_152 B.2.2.2.2.1 ⟨Nat.le_of_ble_eq_true rfl, Nat.le_of_ble_eq_true rfl⟩) (b_recv B hW (by omega) ((lE_m (k := 0) (by omega)).trans mE_0) rfl) rfl hl.1 (Nat.le_of_ble_eq_true rfl) dL_law_710 ⟨by show _ ≤ 603072; omega, by show _ ≤ 7194730; omega⟩) hI hW hS (fun k hk => by omega) (fun k _ => rfl) (fun E1 => lE cJ cF Ec E1 o od) (fun E1 k hk => lE_m hk) (fun E1 j hj hno => lE_out hno) (fun r_2 Em H locs hq hW hS => ?_)
  rw [← hr_] at hq
  by_cases hK : r_1 = 0
  · skip
    have hp := hp.resolve_right (fun q => q.1 hK)
    obtain ⟨-, ho, hC⟩ := hp
    have hq := hq.resolve_right (fun q => q.1 hK)
    obtain ⟨-, hr2, hM⟩ := hq
    refine lv_istore (lv' := [(7, .int r_2), (6, .int r_1), (0, .ref b), (1, .ref (ad 0)), (2, .ref (ad 110)), (3, .ref (ad 109)), (4, .ref (ad 123)), (5, .int (nI (4 * t)))]) hx hb dL_law_713 hl (by decide) rfl (fun ls hl => ?_)
    refine lv_aload_n hx hb dL_law_715 rfl (lv_at hl 4 rfl) ?_
    obtain ⟨du, mA, mC, mH, mG, mS, mI, mT, mP, hEm⟩ := id hM
    subst hEm
    refine y_ci (y_runV B hT hX hW hS (σ := fun k => 110 + k) (ad' := fun k => ad (110 + k)) (n9 := 13) (fun k hk => by omega) (fun k _ => rfl) (fun k hk => lE_m hk) (k := 0) (As := []) (rest := []) (fun sz => mm_thrown hI13 _ _ _ _ _ _ _ _ _ _ _ _ _ _ _ _ _ _ _ _ _ _ rfl rfl sz) (cwL_125 B.2.2.2.2.1 ⟨Nat.le_of_ble_eq_true rfl, Nat.le_of_ble_eq_true rfl⟩) (b_recv B hW (by omega) ((lE_m (k := 0) (by omega)).trans mE_0) rfl) rfl hl.1 (Nat.le_of_ble_eq_true rfl) dL_law_716 ⟨by show _ ≤ 603072; omega, by show _ ≤ 7194730; omega⟩) hI hW hS (fun k hk => by omega) (fun k _ => rfl) (fun E1 => lE cJ cF Ec E1 o od) (fun E1 k hk => lE_m hk) (fun E1 j hj hno => lE_out hno) (fun r_3 Em H locs hq hW hS => ?_)
    obtain ⟨hr3, hE_⟩ := hq
    rw [hE_] at hW
    refine lv_iload hx hb dL_law_719 (lv_at hl 1 rfl) ?_
    refine lv_icmp_eq (tgt := 726) hx hb dL_law_721 (by decide) (fun c_721 => ?_) (fun c_721 => ?_)
    rotate_left
    · exact absurd (hr3.trans hK.symm) c_721
    refine lv_iload hx hb dL_law_726 (lv_at hl 1 rfl) ?_
    refine lv_if_ne (tgt := 743) hx hb dL_law_728 (by decide) (fun c_728 => ?_) (fun c_728 => ?_)
    · exact absurd hK c_728
    refine lv_aload_n hx hb dL_law_731 rfl (lv_at hl 5 rfl) ?_
    refine lv_iconst (v := nI 0) hx hb dL_law_732 (by decide) ?_
    refine b_lald B hW rfl (j := 0) (by omega) lE_109 (vp_in_nI (by omega) (by omega)) rfl dL_law_733 ?_
    refine lv_iload hx hb dL_law_734 (lv_at hl 0 rfl) ?_
    refine lv_i2l hx hb dL_law_736 rfl ?_
    refine b_lcmp hx hb dL_law_737 ?_
    refine lv_if_eq (tgt := 743) hx hb dL_law_738 (by decide) (fun c_738 => ?_) (fun c_738 => ?_)
    rotate_left
    · exact absurd (lcm_0.mpr (by rw [ho, hr2])) c_738
    refine lv_goto (tgt := 2118) hx hb dL_law_743 (by decide) ?_
    exact K _ _ _ _ _ _ _ _ _ _ _ _ _ _ _ _ _ _ _ _ hC hM hW hS (lv_sub hl [2, 3, 4, 5, 6, 7] rfl)
  · skip
    have hp := hp.resolve_left (fun q => hK q.1)
    obtain ⟨-, hC⟩ := hp
    have hq := hq.resolve_left (fun q => hK q.1)
    obtain ⟨-, hM⟩ := hq
    refine lv_istore (lv' := [(7, .int r_2), (6, .int r_1), (0, .ref b), (1, .ref (ad 0)), (2, .ref (ad 110)), (3, .ref (ad 109)), (4, .ref (ad 123)), (5, .int (nI (4 * t)))]) hx hb dL_law_713 hl (by decide) rfl (fun ls hl => ?_)
    refine lv_aload_n hx hb dL_law_715 rfl (lv_at hl 4 rfl) ?_
    obtain ⟨du, mA, mC, mH, mG, mS, mI, mT, mP, hEm⟩ := id hM
    subst hEm
    refine y_ci (y_runV B hT hX hW hS (σ := fun k => 110 + k) (ad' := fun k => ad (110 + k)) (n9 := 13) (fun k hk => by omega) (fun k _ => rfl) (fun k hk => lE_m hk) (k := 0) (As := []) (rest := []) (fun sz => mm_thrown hI13 _ _ _ _ _ _ _ _ _ _ _ _ _ _ _ _ _ _ _ _ _ _ rfl rfl sz) (cwL_125 B.2.2.2.2.1 ⟨Nat.le_of_ble_eq_true rfl, Nat.le_of_ble_eq_true rfl⟩) (b_recv B hW (by omega) ((lE_m (k := 0) (by omega)).trans mE_0) rfl) rfl hl.1 (Nat.le_of_ble_eq_true rfl) dL_law_716 ⟨by show _ ≤ 603072; omega, by show _ ≤ 7194730; omega⟩) hI hW hS (fun k hk => by omega) (fun k _ => rfl) (fun E1 => lE cJ cF Ec E1 o od) (fun E1 k hk => lE_m hk) (fun E1 j hj hno => lE_out hno) (fun r_3 Em H locs hq hW hS => ?_)
    obtain ⟨hr3, hE_⟩ := hq
    rw [hE_] at hW
    refine lv_iload hx hb dL_law_719 (lv_at hl 1 rfl) ?_
    refine lv_icmp_eq (tgt := 726) hx hb dL_law_721 (by decide) (fun c_721 => ?_) (fun c_721 => ?_)
    rotate_left
    · exact absurd hr3 c_721
    refine lv_iload hx hb dL_law_726 (lv_at hl 1 rfl) ?_
    refine lv_if_ne (tgt := 743) hx hb dL_law_728 (by decide) (fun c_728 => ?_) (fun c_728 => ?_)
    rotate_left
    · exact absurd c_728 hK
    refine lv_goto (tgt := 2118) hx hb dL_law_743 (by decide) ?_
    exact K _ _ _ _ _ _ _ _ _ _ _ _ _ _ _ _ _ _ _ _ hC hM hW hS (lv_sub hl [2, 3, 4, 5, 6, 7] rfl)
