theorem cwL_206 {R : Room} {s : State} {args : Array Value} {rm : Room} (hts : ∀ w ∈ wsL_law, w.before args s = true) (hR : rm.frames + 1 ≤ R.frames ∧ 8 + (5 + 11) + rm.locals ≤ R.locals) : vx_CSW R s args RL 206 yL_housingAmount cL_housingAmount 5 (some .int) [(0, 10, 13, 25), (0, 10, 17, 13)] (Cond.codeWith yL_housingAmount cL_housingAmount 5 (some .int) [(0, 10, 13, 25), (0, 10, 17, 13)] :: wsL_law) rm rm.cells rm.slots 4 :=
  vx_cwSW 4 hts (gi_S (r25_in _ (List.mem_of_getElem? (i := 19) rfl)) (r25_in _ (List.mem_of_getElem? (i := 20) rfl)) (r5_in _ (List.mem_of_getElem? (i := 22) rfl)) (r25_in _ (List.mem_of_getElem? (i := 21) rfl))) rfl rfl rfl (by decide +kernel) hR
theorem cwL_208 {R : Room} {s : State} {args : Array Value} {rm : Room} (hts : ∀ w ∈ wsL_law, w.before args s = true) (hR : rm.frames + 1 ≤ R.frames ∧ 8 + (3 + 11) + rm.locals ≤ R.locals) : CWV R s args RL RX6 208 yX6_housingAmount cX6_housingAmount 3 (some .int) rm rm.cells rm.slots 2 :=
  cwV 2 hts (gi_V (r26_in _ (List.mem_of_getElem? (i := 2) rfl)) (r26_in _ (List.mem_of_getElem? (i := 3) rfl)) (r26_in _ (List.mem_of_getElem? (i := 4) rfl)) (r1_in _ (List.mem_of_getElem? (i := 5) rfl)) (r26_in _ (List.mem_of_getElem? (i := 5) rfl))) rfl rfl rfl (by decide +kernel) hR
theorem cwL_209 {R : Room} {s : State} {args : Array Value} {rm : Room} (hts : ∀ w ∈ wsL_law, w.before args s = true) (hR : rm.frames + 1 ≤ R.frames ∧ 8 + (5 + 11) + rm.locals ≤ R.locals) : vx_CSW R s args RL 209 yL_reason cL_reason 5 (some .int) [(0, 10, 13, 25), (0, 10, 17, 13)] (Cond.codeWith yL_reason cL_reason 5 (some .int) [(0, 10, 13, 25), (0, 10, 17, 13)] :: wsL_law) rm rm.cells rm.slots 4 :=
  vx_cwSW 4 hts (gi_S (r26_in _ (List.mem_of_getElem? (i := 6) rfl)) (r26_in _ (List.mem_of_getElem? (i := 7) rfl)) (r5_in _ (List.mem_of_getElem? (i := 22) rfl)) (r26_in _ (List.mem_of_getElem? (i := 8) rfl))) rfl rfl rfl (by decide +kernel) hR
theorem cwL_211 {R : Room} {s : State} {args : Array Value} {rm : Room} (hts : ∀ w ∈ wsL_law, w.before args s = true) (hR : rm.frames + 1 ≤ R.frames ∧ 8 + (3 + 11) + rm.locals ≤ R.locals) : CWV R s args RL RX6 211 yX6_reason cX6_reason 3 (some .char) rm rm.cells rm.slots 2 :=
  cwV 2 hts (gi_V (r26_in _ (List.mem_of_getElem? (i := 13) rfl)) (r26_in _ (List.mem_of_getElem? (i := 14) rfl)) (r26_in _ (List.mem_of_getElem? (i := 15) rfl)) (r1_in _ (List.mem_of_getElem? (i := 5) rfl)) (r26_in _ (List.mem_of_getElem? (i := 16) rfl))) rfl rfl rfl (by decide +kernel) hR
theorem cwL_212 {R : Room} {s : State} {args : Array Value} {rm : Room} (hts : ∀ w ∈ wsL_law, w.before args s = true) (hR : rm.frames + 1 ≤ R.frames ∧ 8 + (5 + 11) + rm.locals ≤ R.locals) : vx_CSW R s args RL 212 yL_nextChange cL_nextChange 5 (some .int) [(0, 10, 13, 25), (0, 10, 17, 13), (0, 10, 21, 37)] (Cond.codeWith yL_nextChange cL_nextChange 5 (some .int) [(0, 10, 13, 25), (0, 10, 17, 13), (0, 10, 21, 37)] :: wsL_law) rm rm.cells rm.slots 4 :=
  vx_cwSW 4 hts (gi_S (r26_in _ (List.mem_of_getElem? (i := 17) rfl)) (r26_in _ (List.mem_of_getElem? (i := 18) rfl)) (r5_in _ (List.mem_of_getElem? (i := 22) rfl)) (r26_in _ (List.mem_of_getElem? (i := 19) rfl))) rfl rfl rfl (by decide +kernel) hR
theorem cwL_214 {R : Room} {s : State} {args : Array Value} {rm : Room} (hts : ∀ w ∈ wsL_law, w.before args s = true) (hR : rm.frames + 1 ≤ R.frames ∧ 8 + (7 + 11) + rm.locals ≤ R.locals) : CWV R s args RL RX6 214 yX6_nextChange cX6_nextChange 7 (some .int) rm rm.cells rm.slots 2 :=
  cwV 2 hts (gi_V (r27_in _ (List.mem_of_getElem? (i := 0) rfl)) (r27_in _ (List.mem_of_getElem? (i := 1) rfl)) (r27_in _ (List.mem_of_getElem? (i := 2) rfl)) (r1_in _ (List.mem_of_getElem? (i := 5) rfl)) (r27_in _ (List.mem_of_getElem? (i := 3) rfl))) rfl rfl rfl (by decide +kernel) hR
theorem cwL_215 {R : Room} {s : State} {args : Array Value} {rm : Room} (hts : ∀ w ∈ wsL_law, w.before args s = true) (hR : rm.frames + 1 ≤ R.frames ∧ 8 + (5 + 11) + rm.locals ≤ R.locals) : vx_CSW R s args RL 215 yL_entitlement cL_entitlement 5 (some .int) [(0, 10, 13, 25)] (Cond.codeWith yL_entitlement cL_entitlement 5 (some .int) [(0, 10, 13, 25)] :: wsL_law) rm rm.cells rm.slots 4 :=
  vx_cwSW 4 hts (gi_S (r27_in _ (List.mem_of_getElem? (i := 4) rfl)) (r27_in _ (List.mem_of_getElem? (i := 5) rfl)) (r5_in _ (List.mem_of_getElem? (i := 22) rfl)) (r27_in _ (List.mem_of_getElem? (i := 6) rfl))) rfl rfl rfl (by decide +kernel) hR
theorem cwL_217 {R : Room} {s : State} {args : Array Value} {rm : Room} (hts : ∀ w ∈ wsL_law, w.before args s = true) (hR : rm.frames + 1 ≤ R.frames ∧ 8 + (3 + 11) + rm.locals ≤ R.locals) : CWV R s args RL RX6 217 yX6_entitlement cX6_entitlement 3 (some .int) rm rm.cells rm.slots 2 :=
  cwV 2 hts (gi_V (r27_in _ (List.mem_of_getElem? (i := 11) rfl)) (r27_in _ (List.mem_of_getElem? (i := 12) rfl)) (r27_in _ (List.mem_of_getElem? (i := 13) rfl)) (r1_in _ (List.mem_of_getElem? (i := 5) rfl)) (r27_in _ (List.mem_of_getElem? (i := 14) rfl))) rfl rfl rfl (by decide +kernel) hR
theorem cwL_218 {R : Room} {s : State} {args : Array Value} {rm : Room} (hts : ∀ w ∈ wsL_law, w.before args s = true) (hR : rm.frames + 1 ≤ R.frames ∧ 8 + (5 + 11) + rm.locals ≤ R.locals) : vx_CSW R s args RL 218 yL_entitlementByDays cL_entitlementByDays 5 (some .int) [(0, 10, 13, 25)] (Cond.codeWith yL_entitlementByDays cL_entitlementByDays 5 (some .int) [(0, 10, 13, 25)] :: wsL_law) rm rm.cells rm.slots 4 :=
  vx_cwSW 4 hts (gi_S (r27_in _ (List.mem_of_getElem? (i := 15) rfl)) (r27_in _ (List.mem_of_getElem? (i := 16) rfl)) (r5_in _ (List.mem_of_getElem? (i := 22) rfl)) (r27_in _ (List.mem_of_getElem? (i := 17) rfl))) rfl rfl rfl (by decide +kernel) hR
theorem cwL_220 {R : Room} {s : State} {args : Array Value} {rm : Room} (hts : ∀ w ∈ wsL_law, w.before args s = true) (hR : rm.frames + 1 ≤ R.frames ∧ 8 + (3 + 11) + rm.locals ≤ R.locals) : CWV R s args RL RX6 220 yX6_entitlementByDays cX6_entitlementByDays 3 (some .int) rm rm.cells rm.slots 2 :=
  cwV 2 hts (gi_V (r27_in _ (List.mem_of_getElem? (i := 22) rfl)) (r27_in _ (List.mem_of_getElem? (i := 23) rfl)) (r28_in _ (List.mem_of_getElem? (i := 0) rfl)) (r1_in _ (List.mem_of_getElem? (i := 5) rfl)) (r28_in _ (List.mem_of_getElem? (i := 1) rfl))) rfl rfl rfl (by decide +kernel) hR
theorem cwL_221 {R : Room} {s : State} {args : Array Value} {rm : Room} (hts : ∀ w ∈ wsL_law, w.before args s = true) (hR : rm.frames + 1 ≤ R.frames ∧ 8 + (1 + 11) + rm.locals ≤ R.locals) : CWV R s args RL RX5 221 yX5_facts cX5_facts 1 (some .int) rm rm.cells rm.slots 0 :=
  cwV 0 hts (gi_V (r28_in _ (List.mem_of_getElem? (i := 3) rfl)) (r28_in _ (List.mem_of_getElem? (i := 4) rfl)) (r28_in _ (List.mem_of_getElem? (i := 5) rfl)) (r1_in _ (List.mem_of_getElem? (i := 2) rfl)) (r28_in _ (List.mem_of_getElem? (i := 6) rfl))) rfl rfl rfl (by decide +kernel) hR
theorem cwL_224 {R : Room} {s : State} {args : Array Value} {rm : Room} (hts : ∀ w ∈ wsL_law, w.before args s = true) (hR : rm.frames + 1 ≤ R.frames ∧ 8 + (1 + 11) + rm.locals ≤ R.locals) : CWV R s args RL RX6 224 yX6_facts cX6_facts 1 (some .int) rm rm.cells rm.slots 0 :=
  cwV 0 hts (gi_V (r28_in _ (List.mem_of_getElem? (i := 7) rfl)) (r28_in _ (List.mem_of_getElem? (i := 8) rfl)) (r28_in _ (List.mem_of_getElem? (i := 9) rfl)) (r1_in _ (List.mem_of_getElem? (i := 5) rfl)) (r28_in _ (List.mem_of_getElem? (i := 10) rfl))) rfl rfl rfl (by decide +kernel) hR
theorem cwL_225 {R : Room} {s : State} {args : Array Value} {rm : Room} (hts : ∀ w ∈ wsL_law, w.before args s = true) (hR : rm.frames + 1 ≤ R.frames ∧ 8 + (3 + 11) + rm.locals ≤ R.locals) : vx_CSW R s args RL 225 yL_keptShare cL_keptShare 3 (some .int) [(0, 8, 11, 109)] (Cond.codeWith yL_keptShare cL_keptShare 3 (some .int) [(0, 8, 11, 109)] :: wsL_law) rm rm.cells rm.slots 2 :=
  vx_cwSW 2 hts (gi_S (r28_in _ (List.mem_of_getElem? (i := 11) rfl)) (r28_in _ (List.mem_of_getElem? (i := 12) rfl)) (r5_in _ (List.mem_of_getElem? (i := 22) rfl)) (r28_in _ (List.mem_of_getElem? (i := 13) rfl))) rfl rfl rfl (by decide +kernel) hR
theorem cwL_228 {R : Room} {s : State} {args : Array Value} {rm : Room} (hts : ∀ w ∈ wsL_law, w.before args s = true) (hR : rm.frames + 1 ≤ R.frames ∧ 8 + (1 + 11) + rm.locals ≤ R.locals) : CWV R s args RL RX6 228 yX6_keptShare cX6_keptShare 1 (some .float) rm rm.cells rm.slots 0 :=
  cwV 0 hts (gi_V (r28_in _ (List.mem_of_getElem? (i := 21) rfl)) (r28_in _ (List.mem_of_getElem? (i := 22) rfl)) (r28_in _ (List.mem_of_getElem? (i := 23) rfl)) (r1_in _ (List.mem_of_getElem? (i := 5) rfl)) (r29_in _ (List.mem_of_getElem? (i := 0) rfl))) rfl rfl rfl (by decide +kernel) hR
theorem cwL_229 {R : Room} {s : State} {args : Array Value} {rm : Room} (hts : ∀ w ∈ wsL_law, w.before args s = true) (hR : rm.frames + 1 ≤ R.frames ∧ 8 + (3 + 11) + rm.locals ≤ R.locals) : vx_CSW R s args RL 229 yL_meanPayment cL_meanPayment 3 (some .int) [(0, 7, 10, 109)] (Cond.codeWith yL_meanPayment cL_meanPayment 3 (some .int) [(0, 7, 10, 109)] :: wsL_law) rm rm.cells rm.slots 2 :=
  vx_cwSW 2 hts (gi_S (r29_in _ (List.mem_of_getElem? (i := 1) rfl)) (r29_in _ (List.mem_of_getElem? (i := 2) rfl)) (r5_in _ (List.mem_of_getElem? (i := 22) rfl)) (r29_in _ (List.mem_of_getElem? (i := 3) rfl))) rfl rfl rfl (by decide +kernel) hR
theorem cwL_231 {R : Room} {s : State} {args : Array Value} {rm : Room} (hts : ∀ w ∈ wsL_law, w.before args s = true) (hR : rm.frames + 1 ≤ R.frames ∧ 8 + (1 + 11) + rm.locals ≤ R.locals) : CWV R s args RL RX6 231 yX6_meanPayment cX6_meanPayment 1 (some .double) rm rm.cells rm.slots 0 :=
  cwV 0 hts (gi_V (r29_in _ (List.mem_of_getElem? (i := 8) rfl)) (r29_in _ (List.mem_of_getElem? (i := 9) rfl)) (r29_in _ (List.mem_of_getElem? (i := 10) rfl)) (r1_in _ (List.mem_of_getElem? (i := 5) rfl)) (r29_in _ (List.mem_of_getElem? (i := 11) rfl))) rfl rfl rfl (by decide +kernel) hR
set_option maxHeartbeats 4000000 in
set_option maxRecDepth 100000 in
theorem lc_24 {p : Program} {l : Launch} {e : Env} {s : State} {m : MethodId} {args : Array Value} {below : List Frame} {meth : Method} {c : Code} {Q : State → Prop} {D : va_G} {ad : Nat → Nat} {cI cZ cH cP cT cJ cF : ClassId} {b L : Nat} {xs : Nat → Int32} (C : LC p l s m args c D ad cI cZ cH cP cT cJ cF b L xs) {t cells slots : Nat} (ht : 4 * t + 4 ≤ L) (hc : cells + 8 ≤ 603072) (hs : slots + 48 ≤ 7194730) (K : LK p l e s m args below meth c Q D ad cI cZ cH cP cT cJ cF b t (cells + 8) (slots + 48)) {V T : Nat → Nat → Int32} {ag : Nat → Int32} {nP nH rN : Nat} {nf pn : Int32} {sp sk : Int64} {py pd : Nat → Nat → Int32} {th : Int32} {Ec Em : Nat → va_E} {o : Nat → Int64} {od : Nat → UInt64} {H : Heap} {locs : List Loc} {ls : Array Slot} (hC : CW cI cZ cH cP cT ad V T ag nP nH rN nf pn sp sk py pd Ec) (hM : MW cI cZ (fun k => ad (110 + k)) th V T ag nP nH rN nf pn sp sk py pd Em) (hW : hH D ad 124 (lE cJ cF Ec Em o od) H) (hS : va_S (cA ad 124 s.heap.size) s.heap H locs) (hl : lv_has ls 9 [(0, .ref b), (1, .ref (ad 0)), (2, .ref (ad 110)), (3, .ref (ad 109)), (4, .ref (ad 123)), (5, .int (nI (4 * t)))]) : W p l e room_1 s m args below meth c H locs cells slots Q (F0 m 1634 ls []) := by
  obtain ⟨B, ⟨hlf, hT, hN, hX, hI⟩, hXs, hbl, hbA, hL⟩ := C
  have hx := B.1
  have hb := B.2.1
  have hI109 : aI ad 109 := hI.subw (σ := fun k => k) (fun k hk => by omega) (fun k _ => rfl) (fun i j _ _ e => e)
  have hI110 : aI ad 110 := hI.subw (σ := fun k => k) (fun k hk => by omega) (fun k _ => rfl) (fun i j _ _ e => e)
  have hI110d : aI (fun k => ad (sD k)) 110 := hI.subw (σ := sD) (fun k hk => sD_lt k hk) (fun k _ => rfl) sD_inj
  have hI13 : aI (fun k => ad (110 + k)) 13 := hI.subw (σ := fun k => 110 + k) (fun k hk => by omega) (fun k _ => rfl) (fun i j _ _ e => by have e : 110 + i = 110 + j := e; omega)
  obtain ⟨so, en, rA, rC, rI, aA, aC, aH, aT, aP, hEc, hInv⟩ := hC
  subst hEc
  obtain ⟨du, mA, mC, mH, mG, mS, mI, mT, mP, hEm⟩ := hM
  subst hEm
  refine lv_aload_n hx hb dL_law_1634 rfl (lv_at hl 1 rfl) ?_
  refine lv_aload_n hx hb dL_law_1635 rfl (lv_at hl 0 rfl) ?_
  refine lv_iload hx hb dL_law_1636 (lv_at hl 5 rfl) ?_
  refine lv_iconst (v := nI 1) hx hb dL_law_1638 (by decide) ?_
  refine lv_iadd hx hb dL_law_1639 ?_
  refine b_top (y := nI (4 * t + 1)) (nI_add _ _) ?_
  refine va_sld hx hb hXs hbl hbA hS (vp_in_nI (by omega) (by omega)) dL_law_1640 ?_
  refine b_top (y := xs (4 * t + 1)) (by rw [nI_clamp (by omega)]) ?_
  refine lv_aload_n hx hb dL_law_1641 rfl (lv_at hl 0 rfl) ?_
  refine lv_iload hx hb dL_law_1642 (lv_at hl 5 rfl) ?_
  refine lv_iconst (v := nI 2) hx hb dL_law_1644 (by decide) ?_
  refine lv_iadd hx hb dL_law_1645 ?_
  refine b_top (y := nI (4 * t + 2)) (nI_add _ _) ?_
  refine va_sld hx hb hXs hbl hbA hS (vp_in_nI (by omega) (by omega)) dL_law_1646 ?_
  refine b_top (y := xs (4 * t + 2)) (by rw [nI_clamp (by omega)]) ?_
  refine lv_aload_n hx hb dL_law_1647 rfl (lv_at hl 3 rfl) ?_
  refine y_ci (y_runSW B hT hX hN hW hS (σ := fun k => k) (ad' := ad) (n9 := 110) (fun k hk => by omega) (fun k _ => rfl) (fun k hk => lE_h hk) (As := [.ref (ad 0), .int (xs (4 * t + 1)), .int (xs (4 * t + 2)), .ref (ad 109)]) (rest := []) (fun sz => lh_housingAmount hlf hI110 o V T ag nP nH rN nf pn sp sk py pd so en rA rC rI aA aC aH aT aP ((xs (4 * t + 1))) ((xs (4 * t + 2))) rfl rfl rfl rfl rfl rfl rfl hInv (ad := ad) sz) (cwL_206 B.2.2.2.2.1 ⟨Nat.le_of_ble_eq_true rfl, Nat.le_of_ble_eq_true rfl⟩) rfl hl.1 (Nat.le_of_ble_eq_true rfl) dL_law_1648 ⟨by show _ ≤ 603072; omega, by show _ ≤ 7194730; omega⟩) hI hW hS (fun k hk => by omega) (fun k _ => rfl) (fun E1 => gH cF E1 (mE cI cZ (fun k => ad (110 + k)) th nP nH rN nf pn sp sk ag (RV V) (RV T) (FL pd) (FL py) du mA mC mH mG mS mI mT mP) od) (fun E1 k hk => gH_in hk) (fun E1 j hj hno => gH_out hno) (fun r_1 E1 H locs hp hW hS => ?_)
  obtain ⟨hr_, Ec, o, hE_, hp⟩ := hp
  have hW : hH D ad 124 (lE cJ cF Ec (mE cI cZ (fun k => ad (110 + k)) th nP nH rN nf pn sp sk ag (RV V) (RV T) (FL pd) (FL py) du mA mC mH mG mS mI mT mP) o od) H := hW.eq (by rw [hE_, gH_eq])
  rw [← hr_] at hp
  refine lv_istore (lv' := [(6, .int r_1), (0, .ref b), (1, .ref (ad 0)), (2, .ref (ad 110)), (3, .ref (ad 109)), (4, .ref (ad 123)), (5, .int (nI (4 * t)))]) hx hb dL_law_1651 hl (by decide) rfl (fun ls hl => ?_)
  refine lv_aload_n hx hb dL_law_1653 rfl (lv_at hl 3 rfl) ?_
  refine lv_aload_n hx hb dL_law_1654 rfl (lv_at hl 1 rfl) ?_
  refine lv_iload hx hb dL_law_1655 (lv_at hl 6 rfl) ?_
  refine lv_iconst (v := nI 1) hx hb dL_law_1657 (by decide) ?_
  refine lv_iadd hx hb dL_law_1658 ?_
  refine b_top (y := nI (4 * t + 1)) (nI_add _ _) ?_
  refine va_sld hx hb hXs hbl hbA hS (vp_in_nI (by omega) (by omega)) dL_law_1659 ?_
  refine b_top (y := xs (4 * t + 1)) (by rw [nI_clamp (by omega)]) ?_
  refine lv_aload_n hx hb dL_law_1660 rfl (lv_at hl 1 rfl) ?_
  refine lv_iload hx hb dL_law_1661 (lv_at hl 6 rfl) ?_
  refine lv_iconst (v := nI 2) hx hb dL_law_1663 (by decide) ?_
  refine lv_iadd hx hb dL_law_1664 ?_
  refine b_top (y := nI (4 * t + 2)) (nI_add _ _) ?_
  refine va_sld hx hb hXs hbl hbA hS (vp_in_nI (by omega) (by omega)) dL_law_1665 ?_
  refine b_top (y := xs (4 * t + 2)) (by rw [nI_clamp (by omega)]) ?_
  refine y_ci (y_runV B hT hX hW hS (σ := fun k => 110 + k) (ad' := fun k => ad (110 + k)) (n9 := 13) (fun k hk => by omega) (fun k _ => rfl) (fun k hk => lE_m hk) (k := 0) (As := [.int (xs (4 * t + 1)), .int (xs (4 * t + 2))]) (rest := []) (fun sz => mm_housingAmount hI13 th nP nH rN nf pn sp sk ag V T pd py du mA mC mH mG mS mI mT mP ((xs (4 * t + 1))) ((xs (4 * t + 2))) so rfl rfl hInv sz) (cwL_208 B.2.2.2.2.1 ⟨Nat.le_of_ble_eq_true rfl, Nat.le_of_ble_eq_true rfl⟩) (b_recv B hW (by omega) ((lE_m (k := 0) (by omega)).trans mE_0) rfl) rfl hl.1 (Nat.le_of_ble_eq_true rfl) dL_law_1666 ⟨by show _ ≤ 603072; omega, by show _ ≤ 7194730; omega⟩) hI hW hS (fun k hk => by omega) (fun k _ => rfl) (fun E1 => lE cJ cF Ec E1 o od) (fun E1 k hk => lE_m hk) (fun E1 j hj hno => lE_out hno) (fun r_2 Em H locs hq hW hS => ?_)
  rw [← hr_] at hq
  by_cases hK : r_1 = 0
  · skip
    have hp := hp.resolve_right (fun q => q.1 hK)
    obtain ⟨-, ho, hC⟩ := hp
    obtain ⟨hr2, hM⟩ := hq
    have hr2 := hr2 hK
    refine lv_istore (lv' := [(7, .int r_2), (6, .int r_1), (0, .ref b), (1, .ref (ad 0)), (2, .ref (ad 110)), (3, .ref (ad 109)), (4, .ref (ad 123)), (5, .int (nI (4 * t)))]) hx hb dL_law_1669 hl (by decide) rfl (fun ls hl => ?_)
    refine lv_aload_n hx hb dL_law_1671 rfl (lv_at hl 4 rfl) ?_
    obtain ⟨du, mA, mC, mH, mG, mS, mI, mT, mP, hEm⟩ := id hM
    subst hEm
    refine y_ci (y_runV B hT hX hW hS (σ := fun k => 110 + k) (ad' := fun k => ad (110 + k)) (n9 := 13) (fun k hk => by omega) (fun k _ => rfl) (fun k hk => lE_m hk) (k := 0) (As := []) (rest := []) (fun sz => mm_thrown hI13 _ _ _ _ _ _ _ _ _ _ _ _ _ _ _ _ _ _ _ _ _ _ rfl rfl sz) (cwL_125 B.2.2.2.2.1 ⟨Nat.le_of_ble_eq_true rfl, Nat.le_of_ble_eq_true rfl⟩) (b_recv B hW (by omega) ((lE_m (k := 0) (by omega)).trans mE_0) rfl) rfl hl.1 (Nat.le_of_ble_eq_true rfl) dL_law_1672 ⟨by show _ ≤ 603072; omega, by show _ ≤ 7194730; omega⟩) hI hW hS (fun k hk => by omega) (fun k _ => rfl) (fun E1 => lE cJ cF Ec E1 o od) (fun E1 k hk => lE_m hk) (fun E1 j hj hno => lE_out hno) (fun r_3 Em H locs hq hW hS => ?_)
    obtain ⟨hr3, hE_⟩ := hq
    rw [hE_] at hW
    refine lv_iload hx hb dL_law_1675 (lv_at hl 1 rfl) ?_
    refine lv_icmp_eq (tgt := 1682) hx hb dL_law_1677 (by decide) (fun c_1677 => ?_) (fun c_1677 => ?_)
    rotate_left
    · exact absurd hr3 c_1677
    refine lv_iload hx hb dL_law_1682 (lv_at hl 1 rfl) ?_
    refine lv_if_ne (tgt := 1699) hx hb dL_law_1684 (by decide) (fun c_1684 => ?_) (fun c_1684 => ?_)
    · exact absurd hK c_1684
    refine lv_aload_n hx hb dL_law_1687 rfl (lv_at hl 5 rfl) ?_
    refine lv_iconst (v := nI 0) hx hb dL_law_1688 (by decide) ?_
    refine b_lald B hW rfl (j := 0) (by omega) lE_109 (vp_in_nI (by omega) (by omega)) rfl dL_law_1689 ?_
    refine lv_iload hx hb dL_law_1690 (lv_at hl 0 rfl) ?_
    refine lv_i2l hx hb dL_law_1692 rfl ?_
    refine b_lcmp hx hb dL_law_1693 ?_
    refine lv_if_eq (tgt := 1699) hx hb dL_law_1694 (by decide) (fun c_1694 => ?_) (fun c_1694 => ?_)
    rotate_left
    · exact absurd (lcm_0.mpr (by rw [ho, hr2])) c_1694
    refine lv_goto (tgt := 2118) hx hb dL_law_1699 (by decide) ?_
    exact K _ _ _ _ _ _ _ _ _ _ _ _ _ _ _ _ _ _ _ _ hC hM hW hS (lv_sub hl [2, 3, 4, 5, 6, 7] rfl)
  · skip
    have hp := hp.resolve_left (fun q => hK q.1)
    obtain ⟨-, hC⟩ := hp
    obtain ⟨-, hM⟩ := hq
    refine lv_istore (lv' := [(7, .int r_2), (6, .int r_1), (0, .ref b), (1, .ref (ad 0)), (2, .ref (ad 110)), (3, .ref (ad 109)), (4, .ref (ad 123)), (5, .int (nI (4 * t)))]) hx hb dL_law_1669 hl (by decide) rfl (fun ls hl => ?_)
    refine lv_aload_n hx hb dL_law_1671 rfl (lv_at hl 4 rfl) ?_
    obtain ⟨du, mA, mC, mH, mG, mS, mI, mT, mP, hEm⟩ := id hM
    subst hEm
    refine y_ci (y_runV B hT hX hW hS (σ := fun k => 110 + k) (ad' := fun k => ad (110 + k)) (n9 := 13) (fun k hk => by omega) (fun k _ => rfl) (fun k hk => lE_m hk) (k := 0) (As := []) (rest := []) (fun sz => mm_thrown hI13 _ _ _ _ _ _ _ _ _ _ _ _ _ _ _ _ _ _ _ _ _ _ rfl rfl sz) (cwL_125 B.2.2.2.2.1 ⟨Nat.le_of_ble_eq_true rfl, Nat.le_of_ble_eq_true rfl⟩) (b_recv B hW (by omega) ((lE_m (k := 0) (by omega)).trans mE_0) rfl) rfl hl.1 (Nat.le_of_ble_eq_true rfl) dL_law_1672 ⟨by show _ ≤ 603072; omega, by show _ ≤ 7194730; omega⟩) hI hW hS (fun k hk => by omega) (fun k _ => rfl) (fun E1 => lE cJ cF Ec E1 o od) (fun E1 k hk => lE_m hk) (fun E1 j hj hno => lE_out hno) (fun r_3 Em H locs hq hW hS => ?_)
    obtain ⟨hr3, hE_⟩ := hq
    rw [hE_] at hW
    refine lv_iload hx hb dL_law_1675 (lv_at hl 1 rfl) ?_
    refine lv_icmp_eq (tgt := 1682) hx hb dL_law_1677 (by decide) (fun c_1677 => ?_) (fun c_1677 => ?_)
    rotate_left
    · exact absurd hr3 c_1677
    refine lv_iload hx hb dL_law_1682 (lv_at hl 1 rfl) ?_
    refine lv_if_ne (tgt := 1699) hx hb dL_law_1684 (by decide) (fun c_1684 => ?_) (fun c_1684 => ?_)
    rotate_left
    · exact absurd c_1684 hK
    refine lv_goto (tgt := 2118) hx hb dL_law_1699 (by decide) ?_
    exact K _ _ _ _ _ _ _ _ _ _ _ _ _ _ _ _ _ _ _ _ hC hM hW hS (lv_sub hl [2, 3, 4, 5, 6, 7] rfl)
set_option maxHeartbeats 4000000 in
set_option maxRecDepth 100000 in
theorem lc_25 {p : Program} {l : Launch} {e : Env} {s : State} {m : MethodId} {args : Array Value} {below : List Frame} {meth : Method} {c : Code} {Q : State → Prop} {D : va_G} {ad : Nat → Nat} {cI cZ cH cP cT cJ cF : ClassId} {b L : Nat} {xs : Nat → Int32} (C : LC p l s m args c D ad cI cZ cH cP cT cJ cF b L xs) {t cells slots : Nat} (ht : 4 * t + 4 ≤ L) (hc : cells + 8 ≤ 603072) (hs : slots + 48 ≤ 7194730) (K : LK p l e s m args below meth c Q D ad cI cZ cH cP cT cJ cF b t (cells + 8) (slots + 48)) {V T : Nat → Nat → Int32} {ag : Nat → Int32} {nP nH rN : Nat} {nf pn : Int32} {sp sk : Int64} {py pd : Nat → Nat → Int32} {th : Int32} {Ec Em : Nat → va_E} {o : Nat → Int64} {od : Nat → UInt64} {H : Heap} {locs : List Loc} {ls : Array Slot} (hC : CW cI cZ cH cP cT ad V T ag nP nH rN nf pn sp sk py pd Ec) (hM : MW cI cZ (fun k => ad (110 + k)) th V T ag nP nH rN nf pn sp sk py pd Em) (hW : hH D ad 124 (lE cJ cF Ec Em o od) H) (hS : va_S (cA ad 124 s.heap.size) s.heap H locs) (hl : lv_has ls 9 [(0, .ref b), (1, .ref (ad 0)), (2, .ref (ad 110)), (3, .ref (ad 109)), (4, .ref (ad 123)), (5, .int (nI (4 * t)))]) : W p l e room_1 s m args below meth c H locs cells slots Q (F0 m 1702 ls []) := by
  obtain ⟨B, ⟨hlf, hT, hN, hX, hI⟩, hXs, hbl, hbA, hL⟩ := C
  have hx := B.1
  have hb := B.2.1
  have hI109 : aI ad 109 := hI.subw (σ := fun k => k) (fun k hk => by omega) (fun k _ => rfl) (fun i j _ _ e => e)
  have hI110 : aI ad 110 := hI.subw (σ := fun k => k) (fun k hk => by omega) (fun k _ => rfl) (fun i j _ _ e => e)
  have hI110d : aI (fun k => ad (sD k)) 110 := hI.subw (σ := sD) (fun k hk => sD_lt k hk) (fun k _ => rfl) sD_inj
  have hI13 : aI (fun k => ad (110 + k)) 13 := hI.subw (σ := fun k => 110 + k) (fun k hk => by omega) (fun k _ => rfl) (fun i j _ _ e => by have e : 110 + i = 110 + j := e; omega)
  obtain ⟨so, en, rA, rC, rI, aA, aC, aH, aT, aP, hEc, hInv⟩ := hC
  subst hEc
  obtain ⟨du, mA, mC, mH, mG, mS, mI, mT, mP, hEm⟩ := hM
  subst hEm
  refine lv_aload_n hx hb dL_law_1702 rfl (lv_at hl 1 rfl) ?_
  refine lv_aload_n hx hb dL_law_1703 rfl (lv_at hl 0 rfl) ?_
  refine lv_iload hx hb dL_law_1704 (lv_at hl 5 rfl) ?_
  refine lv_iconst (v := nI 1) hx hb dL_law_1706 (by decide) ?_
  refine lv_iadd hx hb dL_law_1707 ?_
  refine b_top (y := nI (4 * t + 1)) (nI_add _ _) ?_
  refine va_sld hx hb hXs hbl hbA hS (vp_in_nI (by omega) (by omega)) dL_law_1708 ?_
  refine b_top (y := xs (4 * t + 1)) (by rw [nI_clamp (by omega)]) ?_
  refine lv_aload_n hx hb dL_law_1709 rfl (lv_at hl 0 rfl) ?_
  refine lv_iload hx hb dL_law_1710 (lv_at hl 5 rfl) ?_
  refine lv_iconst (v := nI 2) hx hb dL_law_1712 (by decide) ?_
  refine lv_iadd hx hb dL_law_1713 ?_
  refine b_top (y := nI (4 * t + 2)) (nI_add _ _) ?_
  refine va_sld hx hb hXs hbl hbA hS (vp_in_nI (by omega) (by omega)) dL_law_1714 ?_
  refine b_top (y := xs (4 * t + 2)) (by rw [nI_clamp (by omega)]) ?_
  refine lv_aload_n hx hb dL_law_1715 rfl (lv_at hl 3 rfl) ?_
  refine y_ci (y_runSW B hT hX hN hW hS (σ := fun k => k) (ad' := ad) (n9 := 110) (fun k hk => by omega) (fun k _ => rfl) (fun k hk => lE_h hk) (As := [.ref (ad 0), .int (xs (4 * t + 1)), .int (xs (4 * t + 2)), .ref (ad 109)]) (rest := []) (fun sz => lh_reason hlf hI110 o V T ag nP nH rN nf pn sp sk py pd so en rA rC rI aA aC aH aT aP ((xs (4 * t + 1))) ((xs (4 * t + 2))) rfl rfl rfl rfl rfl rfl rfl hInv (ad := ad) sz) (cwL_209 B.2.2.2.2.1 ⟨Nat.le_of_ble_eq_true rfl, Nat.le_of_ble_eq_true rfl⟩) rfl hl.1 (Nat.le_of_ble_eq_true rfl) dL_law_1716 ⟨by show _ ≤ 603072; omega, by show _ ≤ 7194730; omega⟩) hI hW hS (fun k hk => by omega) (fun k _ => rfl) (fun E1 => gH cF E1 (mE cI cZ (fun k => ad (110 + k)) th nP nH rN nf pn sp sk ag (RV V) (RV T) (FL pd) (FL py) du mA mC mH mG mS mI mT mP) od) (fun E1 k hk => gH_in hk) (fun E1 j hj hno => gH_out hno) (fun r_1 E1 H locs hp hW hS => ?_)
  obtain ⟨hr_, Ec, o, hE_, hp⟩ := hp
  have hW : hH D ad 124 (lE cJ cF Ec (mE cI cZ (fun k => ad (110 + k)) th nP nH rN nf pn sp sk ag (RV V) (RV T) (FL pd) (FL py) du mA mC mH mG mS mI mT mP) o od) H := hW.eq (by rw [hE_, gH_eq])
  rw [← hr_] at hp
  refine lv_istore (lv' := [(6, .int r_1), (0, .ref b), (1, .ref (ad 0)), (2, .ref (ad 110)), (3, .ref (ad 109)), (4, .ref (ad 123)), (5, .int (nI (4 * t)))]) hx hb dL_law_1719 hl (by decide) rfl (fun ls hl => ?_)
  refine lv_aload_n hx hb dL_law_1721 rfl (lv_at hl 3 rfl) ?_
  refine lv_aload_n hx hb dL_law_1722 rfl (lv_at hl 1 rfl) ?_
  refine lv_iload hx hb dL_law_1723 (lv_at hl 6 rfl) ?_
  refine lv_iconst (v := nI 1) hx hb dL_law_1725 (by decide) ?_
  refine lv_iadd hx hb dL_law_1726 ?_
  refine b_top (y := nI (4 * t + 1)) (nI_add _ _) ?_
  refine va_sld hx hb hXs hbl hbA hS (vp_in_nI (by omega) (by omega)) dL_law_1727 ?_
  refine b_top (y := xs (4 * t + 1)) (by rw [nI_clamp (by omega)]) ?_
  refine lv_aload_n hx hb dL_law_1728 rfl (lv_at hl 1 rfl) ?_
  refine lv_iload hx hb dL_law_1729 (lv_at hl 6 rfl) ?_
  refine lv_iconst (v := nI 2) hx hb dL_law_1731 (by decide) ?_
  refine lv_iadd hx hb dL_law_1732 ?_
  refine b_top (y := nI (4 * t + 2)) (nI_add _ _) ?_
  refine va_sld hx hb hXs hbl hbA hS (vp_in_nI (by omega) (by omega)) dL_law_1733 ?_
  refine b_top (y := xs (4 * t + 2)) (by rw [nI_clamp (by omega)]) ?_
  refine y_ci (y_runV B hT hX hW hS (σ := fun k => 110 + k) (ad' := fun k => ad (110 + k)) (n9 := 13) (fun k hk => by omega) (fun k _ => rfl) (fun k hk => lE_m hk) (k := 0) (As := [.int (xs (4 * t + 1)), .int (xs (4 * t + 2))]) (rest := []) (fun sz => mm_reason hI13 th nP nH rN nf pn sp sk ag V T pd py du mA mC mH mG mS mI mT mP ((xs (4 * t + 1))) ((xs (4 * t + 2))) so rfl rfl hInv sz) (cwL_211 B.2.2.2.2.1 ⟨Nat.le_of_ble_eq_true rfl, Nat.le_of_ble_eq_true rfl⟩) (b_recv B hW (by omega) ((lE_m (k := 0) (by omega)).trans mE_0) rfl) rfl hl.1 (Nat.le_of_ble_eq_true rfl) dL_law_1734 ⟨by show _ ≤ 603072; omega, by show _ ≤ 7194730; omega⟩) hI hW hS (fun k hk => by omega) (fun k _ => rfl) (fun E1 => lE cJ cF Ec E1 o od) (fun E1 k hk => lE_m hk) (fun E1 j hj hno => lE_out hno) (fun r_2 Em H locs hq hW hS => ?_)
  rw [← hr_] at hq
  by_cases hK : r_1 = 0
  · skip
    have hp := hp.resolve_right (fun q => q.1 hK)
    obtain ⟨-, ho, hC⟩ := hp
    obtain ⟨hr2, hM⟩ := hq
    have hr2 := hr2 hK
    refine lv_istore (lv' := [(7, .int r_2), (6, .int r_1), (0, .ref b), (1, .ref (ad 0)), (2, .ref (ad 110)), (3, .ref (ad 109)), (4, .ref (ad 123)), (5, .int (nI (4 * t)))]) hx hb dL_law_1737 hl (by decide) rfl (fun ls hl => ?_)
    refine lv_aload_n hx hb dL_law_1739 rfl (lv_at hl 4 rfl) ?_
    obtain ⟨du, mA, mC, mH, mG, mS, mI, mT, mP, hEm⟩ := id hM
    subst hEm
    refine y_ci (y_runV B hT hX hW hS (σ := fun k => 110 + k) (ad' := fun k => ad (110 + k)) (n9 := 13) (fun k hk => by omega) (fun k _ => rfl) (fun k hk => lE_m hk) (k := 0) (As := []) (rest := []) (fun sz => mm_thrown hI13 _ _ _ _ _ _ _ _ _ _ _ _ _ _ _ _ _ _ _ _ _ _ rfl rfl sz) (cwL_125 B.2.2.2.2.1 ⟨Nat.le_of_ble_eq_true rfl, Nat.le_of_ble_eq_true rfl⟩) (b_recv B hW (by omega) ((lE_m (k := 0) (by omega)).trans mE_0) rfl) rfl hl.1 (Nat.le_of_ble_eq_true rfl) dL_law_1740 ⟨by show _ ≤ 603072; omega, by show _ ≤ 7194730; omega⟩) hI hW hS (fun k hk => by omega) (fun k _ => rfl) (fun E1 => lE cJ cF Ec E1 o od) (fun E1 k hk => lE_m hk) (fun E1 j hj hno => lE_out hno) (fun r_3 Em H locs hq hW hS => ?_)
    obtain ⟨hr3, hE_⟩ := hq
    rw [hE_] at hW
    refine lv_iload hx hb dL_law_1743 (lv_at hl 1 rfl) ?_
    refine lv_icmp_eq (tgt := 1750) hx hb dL_law_1745 (by decide) (fun c_1745 => ?_) (fun c_1745 => ?_)
    rotate_left
    · exact absurd hr3 c_1745
    refine lv_iload hx hb dL_law_1750 (lv_at hl 1 rfl) ?_
    refine lv_if_ne (tgt := 1767) hx hb dL_law_1752 (by decide) (fun c_1752 => ?_) (fun c_1752 => ?_)
    · exact absurd hK c_1752
    refine lv_aload_n hx hb dL_law_1755 rfl (lv_at hl 5 rfl) ?_
    refine lv_iconst (v := nI 0) hx hb dL_law_1756 (by decide) ?_
    refine b_lald B hW rfl (j := 0) (by omega) lE_109 (vp_in_nI (by omega) (by omega)) rfl dL_law_1757 ?_
    refine lv_iload hx hb dL_law_1758 (lv_at hl 0 rfl) ?_
    refine lv_i2l hx hb dL_law_1760 rfl ?_
    refine b_lcmp hx hb dL_law_1761 ?_
    refine lv_if_eq (tgt := 1767) hx hb dL_law_1762 (by decide) (fun c_1762 => ?_) (fun c_1762 => ?_)
    rotate_left
    · exact absurd (lcm_0.mpr (by rw [ho, hr2])) c_1762
    refine lv_goto (tgt := 2118) hx hb dL_law_1767 (by decide) ?_
    exact K _ _ _ _ _ _ _ _ _ _ _ _ _ _ _ _ _ _ _ _ hC hM hW hS (lv_sub hl [2, 3, 4, 5, 6, 7] rfl)
  · skip
    have hp := hp.resolve_left (fun q => hK q.1)
    obtain ⟨-, hC⟩ := hp
    obtain ⟨-, hM⟩ := hq
    refine lv_istore (lv' := [(7, .int r_2), (6, .int r_1), (0, .ref b), (1, .ref (ad 0)), (2, .ref (ad 110)), (3, .ref (ad 109)), (4, .ref (ad 123)), (5, .int (nI (4 * t)))]) hx hb dL_law_1737 hl (by decide) rfl (fun ls hl => ?_)
    refine lv_aload_n hx hb dL_law_1739 rfl (lv_at hl 4 rfl) ?_
    obtain ⟨du, mA, mC, mH, mG, mS, mI, mT, mP, hEm⟩ := id hM
    subst hEm
    refine y_ci (y_runV B hT hX hW hS (σ := fun k => 110 + k) (ad' := fun k => ad (110 + k)) (n9 := 13) (fun k hk => by omega) (fun k _ => rfl) (fun k hk => lE_m hk) (k := 0) (As := []) (rest := []) (fun sz => mm_thrown hI13 _ _ _ _ _ _ _ _ _ _ _ _ _ _ _ _ _ _ _ _ _ _ rfl rfl sz) (cwL_125 B.2.2.2.2.1 ⟨Nat.le_of_ble_eq_true rfl, Nat.le_of_ble_eq_true rfl⟩) (b_recv B hW (by omega) ((lE_m (k := 0) (by omega)).trans mE_0) rfl) rfl hl.1 (Nat.le_of_ble_eq_true rfl) dL_law_1740 ⟨by show _ ≤ 603072; omega, by show _ ≤ 7194730; omega⟩) hI hW hS (fun k hk => by omega) (fun k _ => rfl) (fun E1 => lE cJ cF Ec E1 o od) (fun E1 k hk => lE_m hk) (fun E1 j hj hno => lE_out hno) (fun r_3 Em H locs hq hW hS => ?_)
    obtain ⟨hr3, hE_⟩ := hq
    rw [hE_] at hW
    refine lv_iload hx hb dL_law_1743 (lv_at hl 1 rfl) ?_
    refine lv_icmp_eq (tgt := 1750) hx hb dL_law_1745 (by decide) (fun c_1745 => ?_) (fun c_1745 => ?_)
    rotate_left
    · exact absurd hr3 c_1745
    refine lv_iload hx hb dL_law_1750 (lv_at hl 1 rfl) ?_
    refine lv_if_ne (tgt := 1767) hx hb dL_law_1752 (by decide) (fun c_1752 => ?_) (fun c_1752 => ?_)
    rotate_left
    · exact absurd c_1752 hK
    refine lv_goto (tgt := 2118) hx hb dL_law_1767 (by decide) ?_
    exact K _ _ _ _ _ _ _ _ _ _ _ _ _ _ _ _ _ _ _ _ hC hM hW hS (lv_sub hl [2, 3, 4, 5, 6, 7] rfl)
set_option maxHeartbeats 4000000 in
set_option maxRecDepth 100000 in
theorem lc_26 {p : Program} {l : Launch} {e : Env} {s : State} {m : MethodId} {args : Array Value} {below : List Frame} {meth : Method} {c : Code} {Q : State → Prop} {D : va_G} {ad : Nat → Nat} {cI cZ cH cP cT cJ cF : ClassId} {b L : Nat} {xs : Nat → Int32} (C : LC p l s m args c D ad cI cZ cH cP cT cJ cF b L xs) {t cells slots : Nat} (ht : 4 * t + 4 ≤ L) (hc : cells + 8 ≤ 603072) (hs : slots + 48 ≤ 7194730) (K : LK p l e s m args below meth c Q D ad cI cZ cH cP cT cJ cF b t (cells + 8) (slots + 48)) {V T : Nat → Nat → Int32} {ag : Nat → Int32} {nP nH rN : Nat} {nf pn : Int32} {sp sk : Int64} {py pd : Nat → Nat → Int32} {th : Int32} {Ec Em : Nat → va_E} {o : Nat → Int64} {od : Nat → UInt64} {H : Heap} {locs : List Loc} {ls : Array Slot} (hC : CW cI cZ cH cP cT ad V T ag nP nH rN nf pn sp sk py pd Ec) (hM : MW cI cZ (fun k => ad (110 + k)) th V T ag nP nH rN nf pn sp sk py pd Em) (hW : hH D ad 124 (lE cJ cF Ec Em o od) H) (hS : va_S (cA ad 124 s.heap.size) s.heap H locs) (hl : lv_has ls 9 [(0, .ref b), (1, .ref (ad 0)), (2, .ref (ad 110)), (3, .ref (ad 109)), (4, .ref (ad 123)), (5, .int (nI (4 * t)))]) : W p l e room_1 s m args below meth c H locs cells slots Q (F0 m 1770 ls []) := by
  obtain ⟨B, ⟨hlf, hT, hN, hX, hI⟩, hXs, hbl, hbA, hL⟩ := C
  have hx := B.1
  have hb := B.2.1
  have hI109 : aI ad 109 := hI.subw (σ := fun k => k) (fun k hk => by omega) (fun k _ => rfl) (fun i j _ _ e => e)
  have hI110 : aI ad 110 := hI.subw (σ := fun k => k) (fun k hk => by omega) (fun k _ => rfl) (fun i j _ _ e => e)
  have hI110d : aI (fun k => ad (sD k)) 110 := hI.subw (σ := sD) (fun k hk => sD_lt k hk) (fun k _ => rfl) sD_inj
  have hI13 : aI (fun k => ad (110 + k)) 13 := hI.subw (σ := fun k => 110 + k) (fun k hk => by omega) (fun k _ => rfl) (fun i j _ _ e => by have e : 110 + i = 110 + j := e; omega)
  obtain ⟨so, en, rA, rC, rI, aA, aC, aH, aT, aP, hEc, hInv⟩ := hC
  subst hEc
  obtain ⟨du, mA, mC, mH, mG, mS, mI, mT, mP, hEm⟩ := hM
  subst hEm
  refine lv_aload_n hx hb dL_law_1770 rfl (lv_at hl 1 rfl) ?_
  refine lv_aload_n hx hb dL_law_1771 rfl (lv_at hl 0 rfl) ?_
  refine lv_iload hx hb dL_law_1772 (lv_at hl 5 rfl) ?_
  refine lv_iconst (v := nI 1) hx hb dL_law_1774 (by decide) ?_
  refine lv_iadd hx hb dL_law_1775 ?_
  refine b_top (y := nI (4 * t + 1)) (nI_add _ _) ?_
  refine va_sld hx hb hXs hbl hbA hS (vp_in_nI (by omega) (by omega)) dL_law_1776 ?_
  refine b_top (y := xs (4 * t + 1)) (by rw [nI_clamp (by omega)]) ?_
  refine lv_aload_n hx hb dL_law_1777 rfl (lv_at hl 0 rfl) ?_
  refine lv_iload hx hb dL_law_1778 (lv_at hl 5 rfl) ?_
  refine lv_iconst (v := nI 2) hx hb dL_law_1780 (by decide) ?_
  refine lv_iadd hx hb dL_law_1781 ?_
  refine b_top (y := nI (4 * t + 2)) (nI_add _ _) ?_
  refine va_sld hx hb hXs hbl hbA hS (vp_in_nI (by omega) (by omega)) dL_law_1782 ?_
  refine b_top (y := xs (4 * t + 2)) (by rw [nI_clamp (by omega)]) ?_
  refine lv_aload_n hx hb dL_law_1783 rfl (lv_at hl 3 rfl) ?_
  refine y_ci (y_runSW B hT hX hN hW hS (σ := fun k => k) (ad' := ad) (n9 := 110) (fun k hk => by omega) (fun k _ => rfl) (fun k hk => lE_h hk) (As := [.ref (ad 0), .int (xs (4 * t + 1)), .int (xs (4 * t + 2)), .ref (ad 109)]) (rest := []) (fun sz => lh_nextChange hlf hI110 o V T ag nP nH rN nf pn sp sk py pd so en rA rC rI aA aC aH aT aP ((xs (4 * t + 1))) ((xs (4 * t + 2))) rfl rfl rfl rfl rfl rfl rfl hInv (ad := ad) sz) (cwL_212 B.2.2.2.2.1 ⟨Nat.le_of_ble_eq_true rfl, Nat.le_of_ble_eq_true rfl⟩) rfl hl.1 (Nat.le_of_ble_eq_true rfl) dL_law_1784 ⟨by show _ ≤ 603072; omega, by show _ ≤ 7194730; omega⟩) hI hW hS (fun k hk => by omega) (fun k _ => rfl) (fun E1 => gH cF E1 (mE cI cZ (fun k => ad (110 + k)) th nP nH rN nf pn sp sk ag (RV V) (RV T) (FL pd) (FL py) du mA mC mH mG mS mI mT mP) od) (fun E1 k hk => gH_in hk) (fun E1 j hj hno => gH_out hno) (fun r_1 E1 H locs hp hW hS => ?_)
  obtain ⟨hr_, Ec, o, hE_, hp⟩ := hp
  have hW : hH D ad 124 (lE cJ cF Ec (mE cI cZ (fun k => ad (110 + k)) th nP nH rN nf pn sp sk ag (RV V) (RV T) (FL pd) (FL py) du mA mC mH mG mS mI mT mP) o od) H := hW.eq (by rw [hE_, gH_eq])
  rw [← hr_] at hp
  refine lv_istore (lv' := [(6, .int r_1), (0, .ref b), (1, .ref (ad 0)), (2, .ref (ad 110)), (3, .ref (ad 109)), (4, .ref (ad 123)), (5, .int (nI (4 * t)))]) hx hb dL_law_1787 hl (by decide) rfl (fun ls hl => ?_)
  refine lv_aload_n hx hb dL_law_1789 rfl (lv_at hl 3 rfl) ?_
  refine lv_aload_n hx hb dL_law_1790 rfl (lv_at hl 1 rfl) ?_
  refine lv_iload hx hb dL_law_1791 (lv_at hl 6 rfl) ?_
  refine lv_iconst (v := nI 1) hx hb dL_law_1793 (by decide) ?_
  refine lv_iadd hx hb dL_law_1794 ?_
  refine b_top (y := nI (4 * t + 1)) (nI_add _ _) ?_
  refine va_sld hx hb hXs hbl hbA hS (vp_in_nI (by omega) (by omega)) dL_law_1795 ?_
  refine b_top (y := xs (4 * t + 1)) (by rw [nI_clamp (by omega)]) ?_
  refine lv_aload_n hx hb dL_law_1796 rfl (lv_at hl 1 rfl) ?_
  refine lv_iload hx hb dL_law_1797 (lv_at hl 6 rfl) ?_
  refine lv_iconst (v := nI 2) hx hb dL_law_1799 (by decide) ?_
  refine lv_iadd hx hb dL_law_1800 ?_
  refine b_top (y := nI (4 * t + 2)) (nI_add _ _) ?_
  refine va_sld hx hb hXs hbl hbA hS (vp_in_nI (by omega) (by omega)) dL_law_1801 ?_
  refine b_top (y := xs (4 * t + 2)) (by rw [nI_clamp (by omega)]) ?_
  refine y_ci (y_runV B hT hX hW hS (σ := fun k => 110 + k) (ad' := fun k => ad (110 + k)) (n9 := 13) (fun k hk => by omega) (fun k _ => rfl) (fun k hk => lE_m hk) (k := 0) (As := [.int (xs (4 * t + 1)), .int (xs (4 * t + 2))]) (rest := []) (fun sz => mm_nextChange hI13 th nP nH rN nf pn sp sk ag V T pd py du mA mC mH mG mS mI mT mP ((xs (4 * t + 1))) ((xs (4 * t + 2))) so rfl rfl hInv sz) (cwL_214 B.2.2.2.2.1 ⟨Nat.le_of_ble_eq_true rfl, Nat.le_of_ble_eq_true rfl⟩) (b_recv B hW (by omega) ((lE_m (k := 0) (by omega)).trans mE_0) rfl) rfl hl.1 (Nat.le_of_ble_eq_true rfl) dL_law_1802 ⟨by show _ ≤ 603072; omega, by show _ ≤ 7194730; omega⟩) hI hW hS (fun k hk => by omega) (fun k _ => rfl) (fun E1 => lE cJ cF Ec E1 o od) (fun E1 k hk => lE_m hk) (fun E1 j hj hno => lE_out hno) (fun r_2 Em H locs hq hW hS => ?_)
  rw [← hr_] at hq
  by_cases hK : r_1 = 0
  · skip
    have hp := hp.resolve_right (fun q => q.1 hK)
    obtain ⟨-, ho, hC⟩ := hp
    obtain ⟨hr2, hM⟩ := hq
    have hr2 := hr2 hK
    refine lv_istore (lv' := [(7, .int r_2), (6, .int r_1), (0, .ref b), (1, .ref (ad 0)), (2, .ref (ad 110)), (3, .ref (ad 109)), (4, .ref (ad 123)), (5, .int (nI (4 * t)))]) hx hb dL_law_1805 hl (by decide) rfl (fun ls hl => ?_)
    refine lv_aload_n hx hb dL_law_1807 rfl (lv_at hl 4 rfl) ?_
    obtain ⟨du, mA, mC, mH, mG, mS, mI, mT, mP, hEm⟩ := id hM
    subst hEm
    refine y_ci (y_runV B hT hX hW hS (σ := fun k => 110 + k) (ad' := fun k => ad (110 + k)) (n9 := 13) (fun k hk => by omega) (fun k _ => rfl) (fun k hk => lE_m hk) (k := 0) (As := []) (rest := []) (fun sz => mm_thrown hI13 _ _ _ _ _ _ _ _ _ _ _ _ _ _ _ _ _ _ _ _ _ _ rfl rfl sz) (cwL_125 B.2.2.2.2.1 ⟨Nat.le_of_ble_eq_true rfl, Nat.le_of_ble_eq_true rfl⟩) (b_recv B hW (by omega) ((lE_m (k := 0) (by omega)).trans mE_0) rfl) rfl hl.1 (Nat.le_of_ble_eq_true rfl) dL_law_1808 ⟨by show _ ≤ 603072; omega, by show _ ≤ 7194730; omega⟩) hI hW hS (fun k hk => by omega) (fun k _ => rfl) (fun E1 => lE cJ cF Ec E1 o od) (fun E1 k hk => lE_m hk) (fun E1 j hj hno => lE_out hno) (fun r_3 Em H locs hq hW hS => ?_)
    obtain ⟨hr3, hE_⟩ := hq
    rw [hE_] at hW
    refine lv_iload hx hb dL_law_1811 (lv_at hl 1 rfl) ?_
    refine lv_icmp_eq (tgt := 1818) hx hb dL_law_1813 (by decide) (fun c_1813 => ?_) (fun c_1813 => ?_)
    rotate_left
    · exact absurd hr3 c_1813
    refine lv_iload hx hb dL_law_1818 (lv_at hl 1 rfl) ?_
    refine lv_if_ne (tgt := 1835) hx hb dL_law_1820 (by decide) (fun c_1820 => ?_) (fun c_1820 => ?_)
    · exact absurd hK c_1820
    refine lv_aload_n hx hb dL_law_1823 rfl (lv_at hl 5 rfl) ?_
    refine lv_iconst (v := nI 0) hx hb dL_law_1824 (by decide) ?_
    refine b_lald B hW rfl (j := 0) (by omega) lE_109 (vp_in_nI (by omega) (by omega)) rfl dL_law_1825 ?_
    refine lv_iload hx hb dL_law_1826 (lv_at hl 0 rfl) ?_
    refine lv_i2l hx hb dL_law_1828 rfl ?_
    refine b_lcmp hx hb dL_law_1829 ?_
    refine lv_if_eq (tgt := 1835) hx hb dL_law_1830 (by decide) (fun c_1830 => ?_) (fun c_1830 => ?_)
    rotate_left
    · exact absurd (lcm_0.mpr (by rw [ho, hr2])) c_1830
    refine lv_goto (tgt := 2118) hx hb dL_law_1835 (by decide) ?_
    exact K _ _ _ _ _ _ _ _ _ _ _ _ _ _ _ _ _ _ _ _ hC hM hW hS (lv_sub hl [2, 3, 4, 5, 6, 7] rfl)
  · skip
    have hp := hp.resolve_left (fun q => hK q.1)
    obtain ⟨-, hC⟩ := hp
    obtain ⟨-, hM⟩ := hq
    refine lv_istore (lv' := [(7, .int r_2), (6, .int r_1), (0, .ref b), (1, .ref (ad 0)), (2, .ref (ad 110)), (3, .ref (ad 109)), (4, .ref (ad 123)), (5, .int (nI (4 * t)))]) hx hb dL_law_1805 hl (by decide) rfl (fun ls hl => ?_)
    refine lv_aload_n hx hb dL_law_1807 rfl (lv_at hl 4 rfl) ?_
    obtain ⟨du, mA, mC, mH, mG, mS, mI, mT, mP, hEm⟩ := id hM
    subst hEm
    refine y_ci (y_runV B hT hX hW hS (σ := fun k => 110 + k) (ad' := fun k => ad (110 + k)) (n9 := 13) (fun k hk => by omega) (fun k _ => rfl) (fun k hk => lE_m hk) (k := 0) (As := []) (rest := []) (fun sz => mm_thrown hI13 _ _ _ _ _ _ _ _ _ _ _ _ _ _ _ _ _ _ _ _ _ _ rfl rfl sz) (cwL_125 B.2.2.2.2.1 ⟨Nat.le_of_ble_eq_true rfl, Nat.le_of_ble_eq_true rfl⟩) (b_recv B hW (by omega) ((lE_m (k := 0) (by omega)).trans mE_0) rfl) rfl hl.1 (Nat.le_of_ble_eq_true rfl) dL_law_1808 ⟨by show _ ≤ 603072; omega, by show _ ≤ 7194730; omega⟩) hI hW hS (fun k hk => by omega) (fun k _ => rfl) (fun E1 => lE cJ cF Ec E1 o od) (fun E1 k hk => lE_m hk) (fun E1 j hj hno => lE_out hno) (fun r_3 Em H locs hq hW hS => ?_)
    obtain ⟨hr3, hE_⟩ := hq
    rw [hE_] at hW
    refine lv_iload hx hb dL_law_1811 (lv_at hl 1 rfl) ?_
    refine lv_icmp_eq (tgt := 1818) hx hb dL_law_1813 (by decide) (fun c_1813 => ?_) (fun c_1813 => ?_)
    rotate_left
    · exact absurd hr3 c_1813
    refine lv_iload hx hb dL_law_1818 (lv_at hl 1 rfl) ?_
    refine lv_if_ne (tgt := 1835) hx hb dL_law_1820 (by decide) (fun c_1820 => ?_) (fun c_1820 => ?_)
    rotate_left
    · exact absurd c_1820 hK
    refine lv_goto (tgt := 2118) hx hb dL_law_1835 (by decide) ?_
    exact K _ _ _ _ _ _ _ _ _ _ _ _ _ _ _ _ _ _ _ _ hC hM hW hS (lv_sub hl [2, 3, 4, 5, 6, 7] rfl)
set_option maxHeartbeats 4000000 in
set_option maxRecDepth 100000 in
theorem lc_27 {p : Program} {l : Launch} {e : Env} {s : State} {m : MethodId} {args : Array Value} {below : List Frame} {meth : Method} {c : Code} {Q : State → Prop} {D : va_G} {ad : Nat → Nat} {cI cZ cH cP cT cJ cF : ClassId} {b L : Nat} {xs : Nat → Int32} (C : LC p l s m args c D ad cI cZ cH cP cT cJ cF b L xs) {t cells slots : Nat} (ht : 4 * t + 4 ≤ L) (hc : cells + 8 ≤ 603072) (hs : slots + 48 ≤ 7194730) (K : LK p l e s m args below meth c Q D ad cI cZ cH cP cT cJ cF b t (cells + 8) (slots + 48)) {V T : Nat → Nat → Int32} {ag : Nat → Int32} {nP nH rN : Nat} {nf pn : Int32} {sp sk : Int64} {py pd : Nat → Nat → Int32} {th : Int32} {Ec Em : Nat → va_E} {o : Nat → Int64} {od : Nat → UInt64} {H : Heap} {locs : List Loc} {ls : Array Slot} (hC : CW cI cZ cH cP cT ad V T ag nP nH rN nf pn sp sk py pd Ec) (hM : MW cI cZ (fun k => ad (110 + k)) th V T ag nP nH rN nf pn sp sk py pd Em) (hW : hH D ad 124 (lE cJ cF Ec Em o od) H) (hS : va_S (cA ad 124 s.heap.size) s.heap H locs) (hl : lv_has ls 9 [(0, .ref b), (1, .ref (ad 0)), (2, .ref (ad 110)), (3, .ref (ad 109)), (4, .ref (ad 123)), (5, .int (nI (4 * t)))]) : W p l e room_1 s m args below meth c H locs cells slots Q (F0 m 1838 ls []) := by
  obtain ⟨B, ⟨hlf, hT, hN, hX, hI⟩, hXs, hbl, hbA, hL⟩ := C
  have hx := B.1
  have hb := B.2.1
  have hI109 : aI ad 109 := hI.subw (σ := fun k => k) (fun k hk => by omega) (fun k _ => rfl) (fun i j _ _ e => e)
  have hI110 : aI ad 110 := hI.subw (σ := fun k => k) (fun k hk => by omega) (fun k _ => rfl) (fun i j _ _ e => e)
  have hI110d : aI (fun k => ad (sD k)) 110 := hI.subw (σ := sD) (fun k hk => sD_lt k hk) (fun k _ => rfl) sD_inj
  have hI13 : aI (fun k => ad (110 + k)) 13 := hI.subw (σ := fun k => 110 + k) (fun k hk => by omega) (fun k _ => rfl) (fun i j _ _ e => by have e : 110 + i = 110 + j := e; omega)
  obtain ⟨so, en, rA, rC, rI, aA, aC, aH, aT, aP, hEc, hInv⟩ := hC
  subst hEc
  obtain ⟨du, mA, mC, mH, mG, mS, mI, mT, mP, hEm⟩ := hM
  subst hEm
  refine lv_aload_n hx hb dL_law_1838 rfl (lv_at hl 1 rfl) ?_
  refine lv_aload_n hx hb dL_law_1839 rfl (lv_at hl 0 rfl) ?_
  refine lv_iload hx hb dL_law_1840 (lv_at hl 5 rfl) ?_
  refine lv_iconst (v := nI 1) hx hb dL_law_1842 (by decide) ?_
  refine lv_iadd hx hb dL_law_1843 ?_
  refine b_top (y := nI (4 * t + 1)) (nI_add _ _) ?_
  refine va_sld hx hb hXs hbl hbA hS (vp_in_nI (by omega) (by omega)) dL_law_1844 ?_
  refine b_top (y := xs (4 * t + 1)) (by rw [nI_clamp (by omega)]) ?_
  refine lv_aload_n hx hb dL_law_1845 rfl (lv_at hl 0 rfl) ?_
  refine lv_iload hx hb dL_law_1846 (lv_at hl 5 rfl) ?_
  refine lv_iconst (v := nI 2) hx hb dL_law_1848 (by decide) ?_
  refine lv_iadd hx hb dL_law_1849 ?_
  refine b_top (y := nI (4 * t + 2)) (nI_add _ _) ?_
  refine va_sld hx hb hXs hbl hbA hS (vp_in_nI (by omega) (by omega)) dL_law_1850 ?_
  refine b_top (y := xs (4 * t + 2)) (by rw [nI_clamp (by omega)]) ?_
  refine lv_aload_n hx hb dL_law_1851 rfl (lv_at hl 3 rfl) ?_
  refine y_ci (y_runSW B hT hX hN hW hS (σ := fun k => k) (ad' := ad) (n9 := 110) (fun k hk => by omega) (fun k _ => rfl) (fun k hk => lE_h hk) (As := [.ref (ad 0), .int (xs (4 * t + 1)), .int (xs (4 * t + 2)), .ref (ad 109)]) (rest := []) (fun sz => lh_entitlement hlf hI110 o V T ag nP nH rN nf pn sp sk py pd so en rA rC rI aA aC aH aT aP ((xs (4 * t + 1))) ((xs (4 * t + 2))) rfl rfl rfl rfl rfl rfl rfl hInv (ad := ad) sz) (cwL_215 B.2.2.2.2.1 ⟨Nat.le_of_ble_eq_true rfl, Nat.le_of_ble_eq_true rfl⟩) rfl hl.1 (Nat.le_of_ble_eq_true rfl) dL_law_1852 ⟨by show _ ≤ 603072; omega, by show _ ≤ 7194730; omega⟩) hI hW hS (fun k hk => by omega) (fun k _ => rfl) (fun E1 => gH cF E1 (mE cI cZ (fun k => ad (110 + k)) th nP nH rN nf pn sp sk ag (RV V) (RV T) (FL pd) (FL py) du mA mC mH mG mS mI mT mP) od) (fun E1 k hk => gH_in hk) (fun E1 j hj hno => gH_out hno) (fun r_1 E1 H locs hp hW hS => ?_)
  obtain ⟨hr_, Ec, o, hE_, hp⟩ := hp
  have hW : hH D ad 124 (lE cJ cF Ec (mE cI cZ (fun k => ad (110 + k)) th nP nH rN nf pn sp sk ag (RV V) (RV T) (FL pd) (FL py) du mA mC mH mG mS mI mT mP) o od) H := hW.eq (by rw [hE_, gH_eq])
  rw [← hr_] at hp
  refine lv_istore (lv' := [(6, .int r_1), (0, .ref b), (1, .ref (ad 0)), (2, .ref (ad 110)), (3, .ref (ad 109)), (4, .ref (ad 123)), (5, .int (nI (4 * t)))]) hx hb dL_law_1855 hl (by decide) rfl (fun ls hl => ?_)
  refine lv_aload_n hx hb dL_law_1857 rfl (lv_at hl 3 rfl) ?_
  refine lv_aload_n hx hb dL_law_1858 rfl (lv_at hl 1 rfl) ?_
  refine lv_iload hx hb dL_law_1859 (lv_at hl 6 rfl) ?_
  refine lv_iconst (v := nI 1) hx hb dL_law_1861 (by decide) ?_
  refine lv_iadd hx hb dL_law_1862 ?_
  refine b_top (y := nI (4 * t + 1)) (nI_add _ _) ?_
  refine va_sld hx hb hXs hbl hbA hS (vp_in_nI (by omega) (by omega)) dL_law_1863 ?_
  refine b_top (y := xs (4 * t + 1)) (by rw [nI_clamp (by omega)]) ?_
  refine lv_aload_n hx hb dL_law_1864 rfl (lv_at hl 1 rfl) ?_
  refine lv_iload hx hb dL_law_1865 (lv_at hl 6 rfl) ?_
  refine lv_iconst (v := nI 2) hx hb dL_law_1867 (by decide) ?_
  refine lv_iadd hx hb dL_law_1868 ?_
  refine b_top (y := nI (4 * t + 2)) (nI_add _ _) ?_
  refine va_sld hx hb hXs hbl hbA hS (vp_in_nI (by omega) (by omega)) dL_law_1869 ?_
  refine b_top (y := xs (4 * t + 2)) (by rw [nI_clamp (by omega)]) ?_
  refine y_ci (y_runV B hT hX hW hS (σ := fun k => 110 + k) (ad' := fun k => ad (110 + k)) (n9 := 13) (fun k hk => by omega) (fun k _ => rfl) (fun k hk => lE_m hk) (k := 0) (As := [.int (xs (4 * t + 1)), .int (xs (4 * t + 2))]) (rest := []) (fun sz => mm_entitlement hI13 th nP nH rN nf pn sp sk ag V T pd py du mA mC mH mG mS mI mT mP ((xs (4 * t + 1))) ((xs (4 * t + 2))) so rfl rfl hInv sz) (cwL_217 B.2.2.2.2.1 ⟨Nat.le_of_ble_eq_true rfl, Nat.le_of_ble_eq_true rfl⟩) (b_recv B hW (by omega) ((lE_m (k := 0) (by omega)).trans mE_0) rfl) rfl hl.1 (Nat.le_of_ble_eq_true rfl) dL_law_1870 ⟨by show _ ≤ 603072; omega, by show _ ≤ 7194730; omega⟩) hI hW hS (fun k hk => by omega) (fun k _ => rfl) (fun E1 => lE cJ cF Ec E1 o od) (fun E1 k hk => lE_m hk) (fun E1 j hj hno => lE_out hno) (fun r_2 Em H locs hq hW hS => ?_)
  rw [← hr_] at hq
  by_cases hK : r_1 = 0
  · skip
    have hp := hp.resolve_right (fun q => q.1 hK)
    obtain ⟨-, ho, hC⟩ := hp
    obtain ⟨hr2, hM⟩ := hq
    have hr2 := hr2 hK
    refine lv_istore (lv' := [(7, .int r_2), (6, .int r_1), (0, .ref b), (1, .ref (ad 0)), (2, .ref (ad 110)), (3, .ref (ad 109)), (4, .ref (ad 123)), (5, .int (nI (4 * t)))]) hx hb dL_law_1873 hl (by decide) rfl (fun ls hl => ?_)
    refine lv_aload_n hx hb dL_law_1875 rfl (lv_at hl 4 rfl) ?_
    obtain ⟨du, mA, mC, mH, mG, mS, mI, mT, mP, hEm⟩ := id hM
    subst hEm
    refine y_ci (y_runV B hT hX hW hS (σ := fun k => 110 + k) (ad' := fun k => ad (110 + k)) (n9 := 13) (fun k hk => by omega) (fun k _ => rfl) (fun k hk => lE_m hk) (k := 0) (As := []) (rest := []) (fun sz => mm_thrown hI13 _ _ _ _ _ _ _ _ _ _ _ _ _ _ _ _ _ _ _ _ _ _ rfl rfl sz) (cwL_125 B.2.2.2.2.1 ⟨Nat.le_of_ble_eq_true rfl, Nat.le_of_ble_eq_true rfl⟩) (b_recv B hW (by omega) ((lE_m (k := 0) (by omega)).trans mE_0) rfl) rfl hl.1 (Nat.le_of_ble_eq_true rfl) dL_law_1876 ⟨by show _ ≤ 603072; omega, by show _ ≤ 7194730; omega⟩) hI hW hS (fun k hk => by omega) (fun k _ => rfl) (fun E1 => lE cJ cF Ec E1 o od) (fun E1 k hk => lE_m hk) (fun E1 j hj hno => lE_out hno) (fun r_3 Em H locs hq hW hS => ?_)
    obtain ⟨hr3, hE_⟩ := hq
    rw [hE_] at hW
    refine lv_iload hx hb dL_law_1879 (lv_at hl 1 rfl) ?_
    refine lv_icmp_eq (tgt := 1886) hx hb dL_law_1881 (by decide) (fun c_1881 => ?_) (fun c_1881 => ?_)
    rotate_left
    · exact absurd hr3 c_1881
    refine lv_iload hx hb dL_law_1886 (lv_at hl 1 rfl) ?_
    refine lv_if_ne (tgt := 1903) hx hb dL_law_1888 (by decide) (fun c_1888 => ?_) (fun c_1888 => ?_)
    · exact absurd hK c_1888
    refine lv_aload_n hx hb dL_law_1891 rfl (lv_at hl 5 rfl) ?_
    refine lv_iconst (v := nI 0) hx hb dL_law_1892 (by decide) ?_
    refine b_lald B hW rfl (j := 0) (by omega) lE_109 (vp_in_nI (by omega) (by omega)) rfl dL_law_1893 ?_
    refine lv_iload hx hb dL_law_1894 (lv_at hl 0 rfl) ?_
    refine lv_i2l hx hb dL_law_1896 rfl ?_
    refine b_lcmp hx hb dL_law_1897 ?_
    refine lv_if_eq (tgt := 1903) hx hb dL_law_1898 (by decide) (fun c_1898 => ?_) (fun c_1898 => ?_)
    rotate_left
    · exact absurd (lcm_0.mpr (by rw [ho, hr2])) c_1898
    refine lv_goto (tgt := 2118) hx hb dL_law_1903 (by decide) ?_
    exact K _ _ _ _ _ _ _ _ _ _ _ _ _ _ _ _ _ _ _ _ hC hM hW hS (lv_sub hl [2, 3, 4, 5, 6, 7] rfl)
  · skip
    have hp := hp.resolve_left (fun q => hK q.1)
    obtain ⟨-, hC⟩ := hp
    obtain ⟨-, hM⟩ := hq
    refine lv_istore (lv' := [(7, .int r_2), (6, .int r_1), (0, .ref b), (1, .ref (ad 0)), (2, .ref (ad 110)), (3, .ref (ad 109)), (4, .ref (ad 123)), (5, .int (nI (4 * t)))]) hx hb dL_law_1873 hl (by decide) rfl (fun ls hl => ?_)
    refine lv_aload_n hx hb dL_law_1875 rfl (lv_at hl 4 rfl) ?_
    obtain ⟨du, mA, mC, mH, mG, mS, mI, mT, mP, hEm⟩ := id hM
    subst hEm
    refine y_ci (y_runV B hT hX hW hS (σ := fun k => 110 + k) (ad' := fun k => ad (110 + k)) (n9 := 13) (fun k hk => by omega) (fun k _ => rfl) (fun k hk => lE_m hk) (k := 0) (As := []) (rest := []) (fun sz => mm_thrown hI13 _ _ _ _ _ _ _ _ _ _ _ _ _ _ _ _ _ _ _ _ _ _ rfl rfl sz) (cwL_125 B.2.2.2.2.1 ⟨Nat.le_of_ble_eq_true rfl, Nat.le_of_ble_eq_true rfl⟩) (b_recv B hW (by omega) ((lE_m (k := 0) (by omega)).trans mE_0) rfl) rfl hl.1 (Nat.le_of_ble_eq_true rfl) dL_law_1876 ⟨by show _ ≤ 603072; omega, by show _ ≤ 7194730; omega⟩) hI hW hS (fun k hk => by omega) (fun k _ => rfl) (fun E1 => lE cJ cF Ec E1 o od) (fun E1 k hk => lE_m hk) (fun E1 j hj hno => lE_out hno) (fun r_3 Em H locs hq hW hS => ?_)
    obtain ⟨hr3, hE_⟩ := hq
    rw [hE_] at hW
    refine lv_iload hx hb dL_law_1879 (lv_at hl 1 rfl) ?_
    refine lv_icmp_eq (tgt := 1886) hx hb dL_law_1881 (by decide) (fun c_1881 => ?_) (fun c_1881 => ?_)
    rotate_left
    · exact absurd hr3 c_1881
    refine lv_iload hx hb dL_law_1886 (lv_at hl 1 rfl) ?_
    refine lv_if_ne (tgt := 1903) hx hb dL_law_1888 (by decide) (fun c_1888 => ?_) (fun c_1888 => ?_)
    rotate_left
    · exact absurd c_1888 hK
    refine lv_goto (tgt := 2118) hx hb dL_law_1903 (by decide) ?_
    exact K _ _ _ _ _ _ _ _ _ _ _ _ _ _ _ _ _ _ _ _ hC hM hW hS (lv_sub hl [2, 3, 4, 5, 6, 7] rfl)
set_option maxHeartbeats 4000000 in
set_option maxRecDepth 100000 in
theorem lc_28 {p : Program} {l : Launch} {e : Env} {s : State} {m : MethodId} {args : Array Value} {below : List Frame} {meth : Method} {c : Code} {Q : State → Prop} {D : va_G} {ad : Nat → Nat} {cI cZ cH cP cT cJ cF : ClassId} {b L : Nat} {xs : Nat → Int32} (C : LC p l s m args c D ad cI cZ cH cP cT cJ cF b L xs) {t cells slots : Nat} (ht : 4 * t + 4 ≤ L) (hc : cells + 8 ≤ 603072) (hs : slots + 48 ≤ 7194730) (K : LK p l e s m args below meth c Q D ad cI cZ cH cP cT cJ cF b t (cells + 8) (slots + 48)) {V T : Nat → Nat → Int32} {ag : Nat → Int32} {nP nH rN : Nat} {nf pn : Int32} {sp sk : Int64} {py pd : Nat → Nat → Int32} {th : Int32} {Ec Em : Nat → va_E} {o : Nat → Int64} {od : Nat → UInt64} {H : Heap} {locs : List Loc} {ls : Array Slot} (hC : CW cI cZ cH cP cT ad V T ag nP nH rN nf pn sp sk py pd Ec) (hM : MW cI cZ (fun k => ad (110 + k)) th V T ag nP nH rN nf pn sp sk py pd Em) (hW : hH D ad 124 (lE cJ cF Ec Em o od) H) (hS : va_S (cA ad 124 s.heap.size) s.heap H locs) (hl : lv_has ls 9 [(0, .ref b), (1, .ref (ad 0)), (2, .ref (ad 110)), (3, .ref (ad 109)), (4, .ref (ad 123)), (5, .int (nI (4 * t)))]) : W p l e room_1 s m args below meth c H locs cells slots Q (F0 m 1906 ls []) := by
  obtain ⟨B, ⟨hlf, hT, hN, hX, hI⟩, hXs, hbl, hbA, hL⟩ := C
  have hx := B.1
  have hb := B.2.1
  have hI109 : aI ad 109 := hI.subw (σ := fun k => k) (fun k hk => by omega) (fun k _ => rfl) (fun i j _ _ e => e)
  have hI110 : aI ad 110 := hI.subw (σ := fun k => k) (fun k hk => by omega) (fun k _ => rfl) (fun i j _ _ e => e)
  have hI110d : aI (fun k => ad (sD k)) 110 := hI.subw (σ := sD) (fun k hk => sD_lt k hk) (fun k _ => rfl) sD_inj
  have hI13 : aI (fun k => ad (110 + k)) 13 := hI.subw (σ := fun k => 110 + k) (fun k hk => by omega) (fun k _ => rfl) (fun i j _ _ e => by have e : 110 + i = 110 + j := e; omega)
  obtain ⟨so, en, rA, rC, rI, aA, aC, aH, aT, aP, hEc, hInv⟩ := hC
  subst hEc
  obtain ⟨du, mA, mC, mH, mG, mS, mI, mT, mP, hEm⟩ := hM
  subst hEm
  refine lv_aload_n hx hb dL_law_1906 rfl (lv_at hl 1 rfl) ?_
  refine lv_aload_n hx hb dL_law_1907 rfl (lv_at hl 0 rfl) ?_
  refine lv_iload hx hb dL_law_1908 (lv_at hl 5 rfl) ?_
  refine lv_iconst (v := nI 1) hx hb dL_law_1910 (by decide) ?_
  refine lv_iadd hx hb dL_law_1911 ?_
  refine b_top (y := nI (4 * t + 1)) (nI_add _ _) ?_
  refine va_sld hx hb hXs hbl hbA hS (vp_in_nI (by omega) (by omega)) dL_law_1912 ?_
  refine b_top (y := xs (4 * t + 1)) (by rw [nI_clamp (by omega)]) ?_
  refine lv_aload_n hx hb dL_law_1913 rfl (lv_at hl 0 rfl) ?_
  refine lv_iload hx hb dL_law_1914 (lv_at hl 5 rfl) ?_
  refine lv_iconst (v := nI 2) hx hb dL_law_1916 (by decide) ?_
  refine lv_iadd hx hb dL_law_1917 ?_
  refine b_top (y := nI (4 * t + 2)) (nI_add _ _) ?_
  refine va_sld hx hb hXs hbl hbA hS (vp_in_nI (by omega) (by omega)) dL_law_1918 ?_
  refine b_top (y := xs (4 * t + 2)) (by rw [nI_clamp (by omega)]) ?_
  refine lv_aload_n hx hb dL_law_1919 rfl (lv_at hl 3 rfl) ?_
  refine y_ci (y_runSW B hT hX hN hW hS (σ := fun k => k) (ad' := ad) (n9 := 110) (fun k hk => by omega) (fun k _ => rfl) (fun k hk => lE_h hk) (As := [.ref (ad 0), .int (xs (4 * t + 1)), .int (xs (4 * t + 2)), .ref (ad 109)]) (rest := []) (fun sz => lh_entitlementByDays hlf hI110 o V T ag nP nH rN nf pn sp sk py pd so en rA rC rI aA aC aH aT aP ((xs (4 * t + 1))) ((xs (4 * t + 2))) rfl rfl rfl rfl rfl rfl rfl hInv (ad := ad) sz) (cwL_218 B.2.2.2.2.1 ⟨Nat.le_of_ble_eq_true rfl, Nat.le_of_ble_eq_true rfl⟩) rfl hl.1 (Nat.le_of_ble_eq_true rfl) dL_law_1920 ⟨by show _ ≤ 603072; omega, by show _ ≤ 7194730; omega⟩) hI hW hS (fun k hk => by omega) (fun k _ => rfl) (fun E1 => gH cF E1 (mE cI cZ (fun k => ad (110 + k)) th nP nH rN nf pn sp sk ag (RV V) (RV T) (FL pd) (FL py) du mA mC mH mG mS mI mT mP) od) (fun E1 k hk => gH_in hk) (fun E1 j hj hno => gH_out hno) (fun r_1 E1 H locs hp hW hS => ?_)
  obtain ⟨hr_, Ec, o, hE_, hp⟩ := hp
  have hW : hH D ad 124 (lE cJ cF Ec (mE cI cZ (fun k => ad (110 + k)) th nP nH rN nf pn sp sk ag (RV V) (RV T) (FL pd) (FL py) du mA mC mH mG mS mI mT mP) o od) H := hW.eq (by rw [hE_, gH_eq])
  rw [← hr_] at hp
  refine lv_istore (lv' := [(6, .int r_1), (0, .ref b), (1, .ref (ad 0)), (2, .ref (ad 110)), (3, .ref (ad 109)), (4, .ref (ad 123)), (5, .int (nI (4 * t)))]) hx hb dL_law_1923 hl (by decide) rfl (fun ls hl => ?_)
  refine lv_aload_n hx hb dL_law_1925 rfl (lv_at hl 3 rfl) ?_
  refine lv_aload_n hx hb dL_law_1926 rfl (lv_at hl 1 rfl) ?_
  refine lv_iload hx hb dL_law_1927 (lv_at hl 6 rfl) ?_
  refine lv_iconst (v := nI 1) hx hb dL_law_1929 (by decide) ?_
  refine lv_iadd hx hb dL_law_1930 ?_
  refine b_top (y := nI (4 * t + 1)) (nI_add _ _) ?_
  refine va_sld hx hb hXs hbl hbA hS (vp_in_nI (by omega) (by omega)) dL_law_1931 ?_
  refine b_top (y := xs (4 * t + 1)) (by rw [nI_clamp (by omega)]) ?_
  refine lv_aload_n hx hb dL_law_1932 rfl (lv_at hl 1 rfl) ?_
  refine lv_iload hx hb dL_law_1933 (lv_at hl 6 rfl) ?_
  refine lv_iconst (v := nI 2) hx hb dL_law_1935 (by decide) ?_
  refine lv_iadd hx hb dL_law_1936 ?_
  refine b_top (y := nI (4 * t + 2)) (nI_add _ _) ?_
  refine va_sld hx hb hXs hbl hbA hS (vp_in_nI (by omega) (by omega)) dL_law_1937 ?_
  refine b_top (y := xs (4 * t + 2)) (by rw [nI_clamp (by omega)]) ?_
  refine y_ci (y_runV B hT hX hW hS (σ := fun k => 110 + k) (ad' := fun k => ad (110 + k)) (n9 := 13) (fun k hk => by omega) (fun k _ => rfl) (fun k hk => lE_m hk) (k := 0) (As := [.int (xs (4 * t + 1)), .int (xs (4 * t + 2))]) (rest := []) (fun sz => mm_entitlementByDays hI13 th nP nH rN nf pn sp sk ag V T pd py du mA mC mH mG mS mI mT mP ((xs (4 * t + 1))) ((xs (4 * t + 2))) so rfl rfl hInv sz) (cwL_220 B.2.2.2.2.1 ⟨Nat.le_of_ble_eq_true rfl, Nat.le_of_ble_eq_true rfl⟩) (b_recv B hW (by omega) ((lE_m (k := 0) (by omega)).trans mE_0) rfl) rfl hl.1 (Nat.le_of_ble_eq_true rfl) dL_law_1938 ⟨by show _ ≤ 603072; omega, by show _ ≤ 7194730; omega⟩) hI hW hS (fun k hk => by omega) (fun k _ => rfl) (fun E1 => lE cJ cF Ec E1 o od) (fun E1 k hk => lE_m hk) (fun E1 j hj hno => lE_out hno) (fun r_2 Em H locs hq hW hS => ?_)
  rw [← hr_] at hq
  by_cases hK : r_1 = 0
  · skip
    have hp := hp.resolve_right (fun q => q.1 hK)
    obtain ⟨-, ho, hC⟩ := hp
    obtain ⟨hr2, hM⟩ := hq
    have hr2 := hr2 hK
    refine lv_istore (lv' := [(7, .int r_2), (6, .int r_1), (0, .ref b), (1, .ref (ad 0)), (2, .ref (ad 110)), (3, .ref (ad 109)), (4, .ref (ad 123)), (5, .int (nI (4 * t)))]) hx hb dL_law_1941 hl (by decide) rfl (fun ls hl => ?_)
    refine lv_aload_n hx hb dL_law_1943 rfl (lv_at hl 4 rfl) ?_
    obtain ⟨du, mA, mC, mH, mG, mS, mI, mT, mP, hEm⟩ := id hM
    subst hEm
    refine y_ci (y_runV B hT hX hW hS (σ := fun k => 110 + k) (ad' := fun k => ad (110 + k)) (n9 := 13) (fun k hk => by omega) (fun k _ => rfl) (fun k hk => lE_m hk) (k := 0) (As := []) (rest := []) (fun sz => mm_thrown hI13 _ _ _ _ _ _ _ _ _ _ _ _ _ _ _ _ _ _ _ _ _ _ rfl rfl sz) (cwL_125 B.2.2.2.2.1 ⟨Nat.le_of_ble_eq_true rfl, Nat.le_of_ble_eq_true rfl⟩) (b_recv B hW (by omega) ((lE_m (k := 0) (by omega)).trans mE_0) rfl) rfl hl.1 (Nat.le_of_ble_eq_true rfl) dL_law_1944 ⟨by show _ ≤ 603072; omega, by show _ ≤ 7194730; omega⟩) hI hW hS (fun k hk => by omega) (fun k _ => rfl) (fun E1 => lE cJ cF Ec E1 o od) (fun E1 k hk => lE_m hk) (fun E1 j hj hno => lE_out hno) (fun r_3 Em H locs hq hW hS => ?_)
    obtain ⟨hr3, hE_⟩ := hq
    rw [hE_] at hW
    refine lv_iload hx hb dL_law_1947 (lv_at hl 1 rfl) ?_
    refine lv_icmp_eq (tgt := 1954) hx hb dL_law_1949 (by decide) (fun c_1949 => ?_) (fun c_1949 => ?_)
    rotate_left
    · exact absurd hr3 c_1949
    refine lv_iload hx hb dL_law_1954 (lv_at hl 1 rfl) ?_
    refine lv_if_ne (tgt := 1971) hx hb dL_law_1956 (by decide) (fun c_1956 => ?_) (fun c_1956 => ?_)
    · exact absurd hK c_1956
    refine lv_aload_n hx hb dL_law_1959 rfl (lv_at hl 5 rfl) ?_
    refine lv_iconst (v := nI 0) hx hb dL_law_1960 (by decide) ?_
    refine b_lald B hW rfl (j := 0) (by omega) lE_109 (vp_in_nI (by omega) (by omega)) rfl dL_law_1961 ?_
    refine lv_iload hx hb dL_law_1962 (lv_at hl 0 rfl) ?_
    refine lv_i2l hx hb dL_law_1964 rfl ?_
    refine b_lcmp hx hb dL_law_1965 ?_
    refine lv_if_eq (tgt := 1971) hx hb dL_law_1966 (by decide) (fun c_1966 => ?_) (fun c_1966 => ?_)
    rotate_left
    · exact absurd (lcm_0.mpr (by rw [ho, hr2])) c_1966
    refine lv_goto (tgt := 2118) hx hb dL_law_1971 (by decide) ?_
    exact K _ _ _ _ _ _ _ _ _ _ _ _ _ _ _ _ _ _ _ _ hC hM hW hS (lv_sub hl [2, 3, 4, 5, 6, 7] rfl)
  · skip
    have hp := hp.resolve_left (fun q => hK q.1)
    obtain ⟨-, hC⟩ := hp
    obtain ⟨-, hM⟩ := hq
    refine lv_istore (lv' := [(7, .int r_2), (6, .int r_1), (0, .ref b), (1, .ref (ad 0)), (2, .ref (ad 110)), (3, .ref (ad 109)), (4, .ref (ad 123)), (5, .int (nI (4 * t)))]) hx hb dL_law_1941 hl (by decide) rfl (fun ls hl => ?_)
    refine lv_aload_n hx hb dL_law_1943 rfl (lv_at hl 4 rfl) ?_
    obtain ⟨du, mA, mC, mH, mG, mS, mI, mT, mP, hEm⟩ := id hM
    subst hEm
    refine y_ci (y_runV B hT hX hW hS (σ := fun k => 110 + k) (ad' := fun k => ad (110 + k)) (n9 := 13) (fun k hk => by omega) (fun k _ => rfl) (fun k hk => lE_m hk) (k := 0) (As := []) (rest := []) (fun sz => mm_thrown hI13 _ _ _ _ _ _ _ _ _ _ _ _ _ _ _ _ _ _ _ _ _ _ rfl rfl sz) (cwL_125 B.2.2.2.2.1 ⟨Nat.le_of_ble_eq_true rfl, Nat.le_of_ble_eq_true rfl⟩) (b_recv B hW (by omega) ((lE_m (k := 0) (by omega)).trans mE_0) rfl) rfl hl.1 (Nat.le_of_ble_eq_true rfl) dL_law_1944 ⟨by show _ ≤ 603072; omega, by show _ ≤ 7194730; omega⟩) hI hW hS (fun k hk => by omega) (fun k _ => rfl) (fun E1 => lE cJ cF Ec E1 o od) (fun E1 k hk => lE_m hk) (fun E1 j hj hno => lE_out hno) (fun r_3 Em H locs hq hW hS => ?_)
    obtain ⟨hr3, hE_⟩ := hq
    rw [hE_] at hW
    refine lv_iload hx hb dL_law_1947 (lv_at hl 1 rfl) ?_
    refine lv_icmp_eq (tgt := 1954) hx hb dL_law_1949 (by decide) (fun c_1949 => ?_) (fun c_1949 => ?_)
    rotate_left
    · exact absurd hr3 c_1949
    refine lv_iload hx hb dL_law_1954 (lv_at hl 1 rfl) ?_
    refine lv_if_ne (tgt := 1971) hx hb dL_law_1956 (by decide) (fun c_1956 => ?_) (fun c_1956 => ?_)
    rotate_left
    · exact absurd c_1956 hK
    refine lv_goto (tgt := 2118) hx hb dL_law_1971 (by decide) ?_
    exact K _ _ _ _ _ _ _ _ _ _ _ _ _ _ _ _ _ _ _ _ hC hM hW hS (lv_sub hl [2, 3, 4, 5, 6, 7] rfl)
set_option maxHeartbeats 4000000 in
set_option maxRecDepth 100000 in
theorem lc_29 {p : Program} {l : Launch} {e : Env} {s : State} {m : MethodId} {args : Array Value} {below : List Frame} {meth : Method} {c : Code} {Q : State → Prop} {D : va_G} {ad : Nat → Nat} {cI cZ cH cP cT cJ cF : ClassId} {b L : Nat} {xs : Nat → Int32} (C : LC p l s m args c D ad cI cZ cH cP cT cJ cF b L xs) {t cells slots : Nat} (ht : 4 * t + 4 ≤ L) (hc : cells + 8 ≤ 603072) (hs : slots + 48 ≤ 7194730) (K : LK p l e s m args below meth c Q D ad cI cZ cH cP cT cJ cF b t (cells + 8) (slots + 48)) {V T : Nat → Nat → Int32} {ag : Nat → Int32} {nP nH rN : Nat} {nf pn : Int32} {sp sk : Int64} {py pd : Nat → Nat → Int32} {th : Int32} {Ec Em : Nat → va_E} {o : Nat → Int64} {od : Nat → UInt64} {H : Heap} {locs : List Loc} {ls : Array Slot} (hC : CW cI cZ cH cP cT ad V T ag nP nH rN nf pn sp sk py pd Ec) (hM : MW cI cZ (fun k => ad (110 + k)) th V T ag nP nH rN nf pn sp sk py pd Em) (hW : hH D ad 124 (lE cJ cF Ec Em o od) H) (hS : va_S (cA ad 124 s.heap.size) s.heap H locs) (hl : lv_has ls 9 [(0, .ref b), (1, .ref (ad 0)), (2, .ref (ad 110)), (3, .ref (ad 109)), (4, .ref (ad 123)), (5, .int (nI (4 * t)))]) : W p l e room_1 s m args below meth c H locs cells slots Q (F0 m 1974 ls []) := by
  obtain ⟨B, ⟨hlf, hT, hN, hX, hI⟩, hXs, hbl, hbA, hL⟩ := C
  have hx := B.1
  have hb := B.2.1
  have hI109 : aI ad 109 := hI.subw (σ := fun k => k) (fun k hk => by omega) (fun k _ => rfl) (fun i j _ _ e => e)
  have hI110 : aI ad 110 := hI.subw (σ := fun k => k) (fun k hk => by omega) (fun k _ => rfl) (fun i j _ _ e => e)
  have hI110d : aI (fun k => ad (sD k)) 110 := hI.subw (σ := sD) (fun k hk => sD_lt k hk) (fun k _ => rfl) sD_inj
  have hI13 : aI (fun k => ad (110 + k)) 13 := hI.subw (σ := fun k => 110 + k) (fun k hk => by omega) (fun k _ => rfl) (fun i j _ _ e => by have e : 110 + i = 110 + j := e; omega)
  obtain ⟨so, en, rA, rC, rI, aA, aC, aH, aT, aP, hEc, hInv⟩ := hC
  subst hEc
  obtain ⟨du, mA, mC, mH, mG, mS, mI, mT, mP, hEm⟩ := hM
  subst hEm
  refine W.widen (k := cells + 8) (n := slots + 48) (by omega) (by omega) ?_
  refine lv_aload_n hx hb dL_law_1974 rfl (lv_at hl 1 rfl) ?_
  refine y_ci (y_runV B hT hX hW hS (σ := fun k => k) (ad' := ad) (n9 := 109) (fun k hk => by omega) (fun k _ => rfl) (fun k hk => lE_c hk) (k := 0) (As := []) (rest := []) (fun sz => mt_facts hI109 V T ag nP nH rN nf pn sp sk py pd so en rA rC rI aA aC aH aT aP rfl rfl rfl rfl rfl hInv (ad := ad) sz) (cwL_221 B.2.2.2.2.1 ⟨Nat.le_of_ble_eq_true rfl, Nat.le_of_ble_eq_true rfl⟩) (b_recv B hW (k := 0) (by omega) ((lE_c (k := 0) (by omega)).trans cE_0) rfl) rfl hl.1 (Nat.le_of_ble_eq_true rfl) dL_law_1975 ⟨by show _ ≤ 603072; omega, by show _ ≤ 7194730; omega⟩) hI hW hS (fun k hk => by omega) (fun k _ => rfl) (fun E1 => lE cJ cF E1 (mE cI cZ (fun k => ad (110 + k)) th nP nH rN nf pn sp sk ag (RV V) (RV T) (FL pd) (FL py) du mA mC mH mG mS mI mT mP) o od) (fun E1 k hk => lE_c hk) (fun E1 j hj hno => lE_co hno) (fun r_1 Ec H locs hp hW hS => ?_)
  obtain ⟨hr1, hC⟩ := hp
  refine lv_aload_n hx hb dL_law_1978 rfl (lv_at hl 2 rfl) ?_
  refine y_ci (y_runV B hT hX hW hS (σ := fun k => 110 + k) (ad' := fun k => ad (110 + k)) (n9 := 13) (fun k hk => by omega) (fun k _ => rfl) (fun k hk => lE_m hk) (k := 0) (As := []) (rest := [.int r_1]) (fun sz => mm_facts hI13 th nP nH rN nf pn sp sk ag V T pd py du mA mC mH mG mS mI mT mP rfl rfl sz) (cwL_224 B.2.2.2.2.1 ⟨Nat.le_of_ble_eq_true rfl, Nat.le_of_ble_eq_true rfl⟩) (b_recv B hW (by omega) ((lE_m (k := 0) (by omega)).trans mE_0) rfl) rfl hl.1 (Nat.le_of_ble_eq_true rfl) dL_law_1979 ⟨by show _ ≤ 603072; omega, by show _ ≤ 7194730; omega⟩) hI hW hS (fun k hk => by omega) (fun k _ => rfl) (fun E1 => lE cJ cF Ec E1 o od) (fun E1 k hk => lE_m hk) (fun E1 j hj hno => lE_out hno) (fun r_2 Em H locs hq hW hS => ?_)
  obtain ⟨hr2, hM⟩ := hq
  refine lv_icmp_eq (tgt := 2118) hx hb dL_law_1982 (by decide) (fun c_1982 => ?_) (fun c_1982 => ?_)
  rotate_left
  · exact absurd (hr1.trans hr2.symm) c_1982
  exact K _ _ _ _ _ _ _ _ _ _ _ _ _ _ _ _ _ _ _ _ hC hM hW hS (lv_sub hl [0, 1, 2, 3, 4, 5] rfl)
set_option maxHeartbeats 4000000 in
set_option maxRecDepth 100000 in
theorem lc_30 {p : Program} {l : Launch} {e : Env} {s : State} {m : MethodId} {args : Array Value} {below : List Frame} {meth : Method} {c : Code} {Q : State → Prop} {D : va_G} {ad : Nat → Nat} {cI cZ cH cP cT cJ cF : ClassId} {b L : Nat} {xs : Nat → Int32} (C : LC p l s m args c D ad cI cZ cH cP cT cJ cF b L xs) {t cells slots : Nat} (ht : 4 * t + 4 ≤ L) (hc : cells + 8 ≤ 603072) (hs : slots + 48 ≤ 7194730) (K : LK p l e s m args below meth c Q D ad cI cZ cH cP cT cJ cF b t (cells + 8) (slots + 48)) {V T : Nat → Nat → Int32} {ag : Nat → Int32} {nP nH rN : Nat} {nf pn : Int32} {sp sk : Int64} {py pd : Nat → Nat → Int32} {th : Int32} {Ec Em : Nat → va_E} {o : Nat → Int64} {od : Nat → UInt64} {H : Heap} {locs : List Loc} {ls : Array Slot} (hC : CW cI cZ cH cP cT ad V T ag nP nH rN nf pn sp sk py pd Ec) (hM : MW cI cZ (fun k => ad (110 + k)) th V T ag nP nH rN nf pn sp sk py pd Em) (hW : hH D ad 124 (lE cJ cF Ec Em o od) H) (hS : va_S (cA ad 124 s.heap.size) s.heap H locs) (hl : lv_has ls 9 [(0, .ref b), (1, .ref (ad 0)), (2, .ref (ad 110)), (3, .ref (ad 109)), (4, .ref (ad 123)), (5, .int (nI (4 * t)))]) : W p l e room_1 s m args below meth c H locs cells slots Q (F0 m 1987 ls []) := by
  obtain ⟨B, ⟨hlf, hT, hN, hX, hI⟩, hXs, hbl, hbA, hL⟩ := C
  have hx := B.1
  have hb := B.2.1
  have hI109 : aI ad 109 := hI.subw (σ := fun k => k) (fun k hk => by omega) (fun k _ => rfl) (fun i j _ _ e => e)
  have hI110 : aI ad 110 := hI.subw (σ := fun k => k) (fun k hk => by omega) (fun k _ => rfl) (fun i j _ _ e => e)
  have hI110d : aI (fun k => ad (sD k)) 110 := hI.subw (σ := sD) (fun k hk => sD_lt k hk) (fun k _ => rfl) sD_inj
  have hI13 : aI (fun k => ad (110 + k)) 13 := hI.subw (σ := fun k => 110 + k) (fun k hk => by omega) (fun k _ => rfl) (fun i j _ _ e => by have e : 110 + i = 110 + j := e; omega)
  obtain ⟨so, en, rA, rC, rI, aA, aC, aH, aT, aP, hEc, hInv⟩ := hC
  subst hEc
  obtain ⟨du, mA, mC, mH, mG, mS, mI, mT, mP, hEm⟩ := hM
  subst hEm
  have hW := lE_ad (ad2 := fun k => ad (sD k)) (fun k hk => by rw [sD_lo hk]) hW
  refine lv_aload_n hx hb dL_law_1987 rfl (lv_at hl 1 rfl) ?_
  refine lv_aload hx hb dL_law_1988 (lv_at hl 4 rfl) ?_
  refine y_ci (y_runSW B hT hX hN hW hS (σ := sD) (ad' := fun k => ad (sD k)) (n9 := 110) (fun k hk => sD_lt k hk) (fun k _ => rfl) (fun k hk => lE_d hk) (As := [.ref (ad 0), .ref (ad 123)]) (rest := []) (fun sz => lh_keptShare hlf hI110d od V T ag nP nH rN nf pn sp sk py pd so en rA rC rI aA aC aH aT aP rfl rfl rfl rfl rfl rfl rfl hInv (ad := fun k => ad (sD k)) sz) (cwL_225 B.2.2.2.2.1 ⟨Nat.le_of_ble_eq_true rfl, Nat.le_of_ble_eq_true rfl⟩) rfl hl.1 (Nat.le_of_ble_eq_true rfl) dL_law_1990 ⟨by show _ ≤ 603072; omega, by show _ ≤ 7194730; omega⟩) hI hW hS (fun k hk => sD_lt k hk) (fun k _ => rfl) (fun E1 => gD cJ E1 (mE cI cZ (fun k => ad (110 + k)) th nP nH rN nf pn sp sk ag (RV V) (RV T) (FL pd) (FL py) du mA mC mH mG mS mI mT mP) o) (fun E1 k hk => gD_in hk) (fun E1 j hj hno => gD_out hj hno) (fun r_1 E1 H locs hp hW hS => ?_)
  obtain ⟨hr_, Ec, od, hE_, hp⟩ := hp
  have hW : hH D ad 124 (lE cJ cF Ec (mE cI cZ (fun k => ad (110 + k)) th nP nH rN nf pn sp sk ag (RV V) (RV T) (FL pd) (FL py) du mA mC mH mG mS mI mT mP) o od) H := gD_eq (hW.eq (by rw [hE_]))
  rw [← hr_] at hp
  refine lv_istore (lv' := [(6, .int r_1), (0, .ref b), (1, .ref (ad 0)), (2, .ref (ad 110)), (3, .ref (ad 109)), (4, .ref (ad 123)), (5, .int (nI (4 * t)))]) hx hb dL_law_1993 hl (by decide) rfl (fun ls hl => ?_)
  refine lv_aload_n hx hb dL_law_1995 rfl (lv_at hl 3 rfl) ?_
  refine y_cf (y_runV B hT hX hW hS (σ := fun k => 110 + k) (ad' := fun k => ad (110 + k)) (n9 := 13) (fun k hk => by omega) (fun k _ => rfl) (fun k hk => lE_m hk) (k := 0) (As := []) (rest := []) (fun sz => mm_keptShare hI13 th nP nH rN nf pn sp sk ag V T pd py du mA mC mH mG mS mI mT mP rfl rfl sz) (cwL_228 B.2.2.2.2.1 ⟨Nat.le_of_ble_eq_true rfl, Nat.le_of_ble_eq_true rfl⟩) (b_recv B hW (by omega) ((lE_m (k := 0) (by omega)).trans mE_0) rfl) rfl hl.1 (Nat.le_of_ble_eq_true rfl) dL_law_1996 ⟨by show _ ≤ 603072; omega, by show _ ≤ 7194730; omega⟩) hI hW hS (fun k hk => by omega) (fun k _ => rfl) (fun E1 => lE cJ cF Ec E1 o od) (fun E1 k hk => lE_m hk) (fun E1 j hj hno => lE_out hno) (fun r_2 Em H locs hq hW hS => ?_)
  rw [← hr_] at hq
  by_cases hK : r_1 = 0
  · skip
    have hp := hp.resolve_right (fun q => q.1 hK)
    obtain ⟨-, ho, hC⟩ := hp
    obtain ⟨hr2, hM⟩ := hq
    have hr2 := hr2 hK
    obtain ⟨so, en, rA, rC, rI, aA, aC, aH, aT, aP, hEc, hInv⟩ := hC
    subst hEc
    have hW := lE_ad (ad2 := ad) (fun k hk => by rw [sD_lo hk]) hW
    have hC : CW cI cZ cH cP cT ad V T ag nP nH rN nf pn sp sk py pd (cE cI cZ cH cP cT ad V T ag nP nH rN nf pn sp sk py pd so en rA rC rI aA aC aH aT aP) := CW.mk hInv
    have hn64 : vf_n64 (FP.f2d r_2) := Jvm.Free.Fl.noNaN_f2d _ |>.mpr (by rw [hr2]; exact n_share (fun q => absurd ((hr_.symm.trans hK).symm.trans (cif_t q)) (by decide)))
    refine lv_fstore (lv' := [(7, .float r_2), (6, .int r_1), (0, .ref b), (1, .ref (ad 0)), (2, .ref (ad 110)), (3, .ref (ad 109)), (4, .ref (ad 123)), (5, .int (nI (4 * t)))]) hx hb dL_law_1999 hl (by decide) rfl (fun ls hl => ?_)
    refine lv_aload_n hx hb dL_law_2001 rfl (lv_at hl 4 rfl) ?_
    obtain ⟨du, mA, mC, mH, mG, mS, mI, mT, mP, hEm⟩ := id hM
    subst hEm
    refine y_ci (y_runV B hT hX hW hS (σ := fun k => 110 + k) (ad' := fun k => ad (110 + k)) (n9 := 13) (fun k hk => by omega) (fun k _ => rfl) (fun k hk => lE_m hk) (k := 0) (As := []) (rest := []) (fun sz => mm_thrown hI13 _ _ _ _ _ _ _ _ _ _ _ _ _ _ _ _ _ _ _ _ _ _ rfl rfl sz) (cwL_125 B.2.2.2.2.1 ⟨Nat.le_of_ble_eq_true rfl, Nat.le_of_ble_eq_true rfl⟩) (b_recv B hW (by omega) ((lE_m (k := 0) (by omega)).trans mE_0) rfl) rfl hl.1 (Nat.le_of_ble_eq_true rfl) dL_law_2002 ⟨by show _ ≤ 603072; omega, by show _ ≤ 7194730; omega⟩) hI hW hS (fun k hk => by omega) (fun k _ => rfl) (fun E1 => lE cJ cF (cE cI cZ cH cP cT ad V T ag nP nH rN nf pn sp sk py pd so en rA rC rI aA aC aH aT aP) E1 o od) (fun E1 k hk => lE_m hk) (fun E1 j hj hno => lE_out hno) (fun r_3 Em H locs hq hW hS => ?_)
    obtain ⟨hr3, hE_⟩ := hq
    rw [hE_] at hW
    refine lv_iload hx hb dL_law_2005 (lv_at hl 1 rfl) ?_
    refine lv_icmp_eq (tgt := 2012) hx hb dL_law_2007 (by decide) (fun c_2007 => ?_) (fun c_2007 => ?_)
    rotate_left
    · exact absurd hr3 c_2007
    refine lv_iload hx hb dL_law_2012 (lv_at hl 1 rfl) ?_
    refine lv_if_ne (tgt := 2050) hx hb dL_law_2014 (by decide) (fun c_2014 => ?_) (fun c_2014 => ?_)
    · exact absurd hK c_2014
    refine lv_aload hx hb dL_law_2017 (lv_at hl 6 rfl) ?_
    refine lv_iconst (v := nI 0) hx hb dL_law_2019 (by decide) ?_
    refine b_dald B hW rfl (j := 0) (by omega) lE_123 (vp_in_nI (by omega) (by omega)) rfl dL_law_2020 ?_
    refine lv_fload hx hb dL_law_2021 (lv_at hl 0 rfl) ?_
    refine lv_f2d hx hb dL_law_2023 hn64 ?_
    refine lv_dcmp hx hb dL_law_2024 ?_
    refine lv_if_eq (tgt := 2050) hx hb dL_law_2025 (by decide) (fun c_2025 => ?_) (fun c_2025 => ?_)
    rotate_left
    · exact absurd (show _ = (0 : Int32) from (by rw [ho, ← hr2]; exact d_self hn64 _)) c_2025
    refine lv_goto (tgt := 2118) hx hb dL_law_2050 (by decide) ?_
    exact K _ _ _ _ _ _ _ _ _ _ _ _ _ _ _ _ _ _ _ _ hC hM hW hS (lv_sub hl [2, 3, 4, 5, 6, 7] rfl)
  · skip
    have hp := hp.resolve_left (fun q => hK q.1)
    obtain ⟨-, hC⟩ := hp
    obtain ⟨-, hM⟩ := hq
    obtain ⟨so, en, rA, rC, rI, aA, aC, aH, aT, aP, hEc, hInv⟩ := hC
    subst hEc
    have hW := lE_ad (ad2 := ad) (fun k hk => by rw [sD_lo hk]) hW
    have hC : CW cI cZ cH cP cT ad V T ag nP nH rN nf pn sp sk py pd (cE cI cZ cH cP cT ad V T ag nP nH rN nf pn sp sk py pd so en rA rC rI aA aC aH aT aP) := CW.mk hInv
    refine lv_fstore (lv' := [(7, .float r_2), (6, .int r_1), (0, .ref b), (1, .ref (ad 0)), (2, .ref (ad 110)), (3, .ref (ad 109)), (4, .ref (ad 123)), (5, .int (nI (4 * t)))]) hx hb dL_law_1999 hl (by decide) rfl (fun ls hl => ?_)
    refine lv_aload_n hx hb dL_law_2001 rfl (lv_at hl 4 rfl) ?_
    obtain ⟨du, mA, mC, mH, mG, mS, mI, mT, mP, hEm⟩ := id hM
    subst hEm
    refine y_ci (y_runV B hT hX hW hS (σ := fun k => 110 + k) (ad' := fun k => ad (110 + k)) (n9 := 13) (fun k hk => by omega) (fun k _ => rfl) (fun k hk => lE_m hk) (k := 0) (As := []) (rest := []) (fun sz => mm_thrown hI13 _ _ _ _ _ _ _ _ _ _ _ _ _ _ _ _ _ _ _ _ _ _ rfl rfl sz) (cwL_125 B.2.2.2.2.1 ⟨Nat.le_of_ble_eq_true rfl, Nat.le_of_ble_eq_true rfl⟩) (b_recv B hW (by omega) ((lE_m (k := 0) (by omega)).trans mE_0) rfl) rfl hl.1 (Nat.le_of_ble_eq_true rfl) dL_law_2002 ⟨by show _ ≤ 603072; omega, by show _ ≤ 7194730; omega⟩) hI hW hS (fun k hk => by omega) (fun k _ => rfl) (fun E1 => lE cJ cF (cE cI cZ cH cP cT ad V T ag nP nH rN nf pn sp sk py pd so en rA rC rI aA aC aH aT aP) E1 o od) (fun E1 k hk => lE_m hk) (fun E1 j hj hno => lE_out hno) (fun r_3 Em H locs hq hW hS => ?_)
    obtain ⟨hr3, hE_⟩ := hq
    rw [hE_] at hW
    refine lv_iload hx hb dL_law_2005 (lv_at hl 1 rfl) ?_
    refine lv_icmp_eq (tgt := 2012) hx hb dL_law_2007 (by decide) (fun c_2007 => ?_) (fun c_2007 => ?_)
    rotate_left
    · exact absurd hr3 c_2007
    refine lv_iload hx hb dL_law_2012 (lv_at hl 1 rfl) ?_
    refine lv_if_ne (tgt := 2050) hx hb dL_law_2014 (by decide) (fun c_2014 => ?_) (fun c_2014 => ?_)
    rotate_left
    · exact absurd c_2014 hK
    refine lv_goto (tgt := 2118) hx hb dL_law_2050 (by decide) ?_
    exact K _ _ _ _ _ _ _ _ _ _ _ _ _ _ _ _ _ _ _ _ hC hM hW hS (lv_sub hl [2, 3, 4, 5, 6, 7] rfl)
set_option maxHeartbeats 4000000 in
set_option maxRecDepth 100000 in
theorem lc_31 {p : Program} {l : Launch} {e : Env} {s : State} {m : MethodId} {args : Array Value} {below : List Frame} {meth : Method} {c : Code} {Q : State → Prop} {D : va_G} {ad : Nat → Nat} {cI cZ cH cP cT cJ cF : ClassId} {b L : Nat} {xs : Nat → Int32} (C : LC p l s m args c D ad cI cZ cH cP cT cJ cF b L xs) {t cells slots : Nat} (ht : 4 * t + 4 ≤ L) (hc : cells + 8 ≤ 603072) (hs : slots + 48 ≤ 7194730) (K : LK p l e s m args below meth c Q D ad cI cZ cH cP cT cJ cF b t (cells + 8) (slots + 48)) {V T : Nat → Nat → Int32} {ag : Nat → Int32} {nP nH rN : Nat} {nf pn : Int32} {sp sk : Int64} {py pd : Nat → Nat → Int32} {th : Int32} {Ec Em : Nat → va_E} {o : Nat → Int64} {od : Nat → UInt64} {H : Heap} {locs : List Loc} {ls : Array Slot} (hC : CW cI cZ cH cP cT ad V T ag nP nH rN nf pn sp sk py pd Ec) (hM : MW cI cZ (fun k => ad (110 + k)) th V T ag nP nH rN nf pn sp sk py pd Em) (hW : hH D ad 124 (lE cJ cF Ec Em o od) H) (hS : va_S (cA ad 124 s.heap.size) s.heap H locs) (hl : lv_has ls 9 [(0, .ref b), (1, .ref (ad 0)), (2, .ref (ad 110)), (3, .ref (ad 109)), (4, .ref (ad 123)), (5, .int (nI (4 * t)))]) : W p l e room_1 s m args below meth c H locs cells slots Q (F0 m 2053 ls []) := by
  obtain ⟨B, ⟨hlf, hT, hN, hX, hI⟩, hXs, hbl, hbA, hL⟩ := C
  have hx := B.1
  have hb := B.2.1
  have hI109 : aI ad 109 := hI.subw (σ := fun k => k) (fun k hk => by omega) (fun k _ => rfl) (fun i j _ _ e => e)
  have hI110 : aI ad 110 := hI.subw (σ := fun k => k) (fun k hk => by omega) (fun k _ => rfl) (fun i j _ _ e => e)
  have hI110d : aI (fun k => ad (sD k)) 110 := hI.subw (σ := sD) (fun k hk => sD_lt k hk) (fun k _ => rfl) sD_inj
  have hI13 : aI (fun k => ad (110 + k)) 13 := hI.subw (σ := fun k => 110 + k) (fun k hk => by omega) (fun k _ => rfl) (fun i j _ _ e => by have e : 110 + i = 110 + j := e; omega)
  obtain ⟨so, en, rA, rC, rI, aA, aC, aH, aT, aP, hEc, hInv⟩ := hC
  subst hEc
  obtain ⟨du, mA, mC, mH, mG, mS, mI, mT, mP, hEm⟩ := hM
  subst hEm
  have hW := lE_ad (ad2 := fun k => ad (sD k)) (fun k hk => by rw [sD_lo hk]) hW
  refine lv_aload_n hx hb dL_law_2053 rfl (lv_at hl 1 rfl) ?_
  refine lv_aload hx hb dL_law_2054 (lv_at hl 4 rfl) ?_
  refine y_ci (y_runSW B hT hX hN hW hS (σ := sD) (ad' := fun k => ad (sD k)) (n9 := 110) (fun k hk => sD_lt k hk) (fun k _ => rfl) (fun k hk => lE_d hk) (As := [.ref (ad 0), .ref (ad 123)]) (rest := []) (fun sz => lh_meanPayment hlf hI110d od V T ag nP nH rN nf pn sp sk py pd so en rA rC rI aA aC aH aT aP rfl rfl rfl rfl rfl rfl rfl hInv (ad := fun k => ad (sD k)) sz) (cwL_229 B.2.2.2.2.1 ⟨Nat.le_of_ble_eq_true rfl, Nat.le_of_ble_eq_true rfl⟩) rfl hl.1 (Nat.le_of_ble_eq_true rfl) dL_law_2056 ⟨by show _ ≤ 603072; omega, by show _ ≤ 7194730; omega⟩) hI hW hS (fun k hk => sD_lt k hk) (fun k _ => rfl) (fun E1 => gD cJ E1 (mE cI cZ (fun k => ad (110 + k)) th nP nH rN nf pn sp sk ag (RV V) (RV T) (FL pd) (FL py) du mA mC mH mG mS mI mT mP) o) (fun E1 k hk => gD_in hk) (fun E1 j hj hno => gD_out hj hno) (fun r_1 E1 H locs hp hW hS => ?_)
  obtain ⟨hr_, Ec, od, hE_, hp⟩ := hp
  have hW : hH D ad 124 (lE cJ cF Ec (mE cI cZ (fun k => ad (110 + k)) th nP nH rN nf pn sp sk ag (RV V) (RV T) (FL pd) (FL py) du mA mC mH mG mS mI mT mP) o od) H := gD_eq (hW.eq (by rw [hE_]))
  rw [← hr_] at hp
  refine lv_istore (lv' := [(6, .int r_1), (0, .ref b), (1, .ref (ad 0)), (2, .ref (ad 110)), (3, .ref (ad 109)), (4, .ref (ad 123)), (5, .int (nI (4 * t)))]) hx hb dL_law_2059 hl (by decide) rfl (fun ls hl => ?_)
  refine lv_aload_n hx hb dL_law_2061 rfl (lv_at hl 3 rfl) ?_
  refine y_cd (y_runV B hT hX hW hS (σ := fun k => 110 + k) (ad' := fun k => ad (110 + k)) (n9 := 13) (fun k hk => by omega) (fun k _ => rfl) (fun k hk => lE_m hk) (k := 0) (As := []) (rest := []) (fun sz => mm_meanPayment hI13 th nP nH rN nf pn sp sk ag V T pd py du mA mC mH mG mS mI mT mP rfl rfl sz) (cwL_231 B.2.2.2.2.1 ⟨Nat.le_of_ble_eq_true rfl, Nat.le_of_ble_eq_true rfl⟩) (b_recv B hW (by omega) ((lE_m (k := 0) (by omega)).trans mE_0) rfl) rfl hl.1 (Nat.le_of_ble_eq_true rfl) dL_law_2062 ⟨by show _ ≤ 603072; omega, by show _ ≤ 7194730; omega⟩) hI hW hS (fun k hk => by omega) (fun k _ => rfl) (fun E1 => lE cJ cF Ec E1 o od) (fun E1 k hk => lE_m hk) (fun E1 j hj hno => lE_out hno) (fun r_2 Em H locs hq hW hS => ?_)
  rw [← hr_] at hq
  by_cases hK : r_1 = 0
  · skip
    have hp := hp.resolve_right (fun q => q.1 hK)
    obtain ⟨-, ho, hC⟩ := hp
    obtain ⟨hr2, hM⟩ := hq
    have hr2 := hr2 hK
    obtain ⟨so, en, rA, rC, rI, aA, aC, aH, aT, aP, hEc, hInv⟩ := hC
    subst hEc
    have hW := lE_ad (ad2 := ad) (fun k hk => by rw [sD_lo hk]) hW
    have hC : CW cI cZ cH cP cT ad V T ag nP nH rN nf pn sp sk py pd (cE cI cZ cH cP cT ad V T ag nP nH rN nf pn sp sk py pd so en rA rC rI aA aC aH aT aP) := CW.mk hInv
    have hn64 : vf_n64 r_2 := by rw [hr2]; exact n_mean (fun q => absurd ((hr_.symm.trans hK).symm.trans (cif_t q)) (by decide))
    refine lv_dstore (lv' := [(7, .double r_2), (6, .int r_1), (0, .ref b), (1, .ref (ad 0)), (2, .ref (ad 110)), (3, .ref (ad 109)), (4, .ref (ad 123)), (5, .int (nI (4 * t)))]) hx hb dL_law_2065 hl (by decide) rfl (fun ls hl => ?_)
    refine lv_aload_n hx hb dL_law_2067 rfl (lv_at hl 4 rfl) ?_
    obtain ⟨du, mA, mC, mH, mG, mS, mI, mT, mP, hEm⟩ := id hM
    subst hEm
    refine y_ci (y_runV B hT hX hW hS (σ := fun k => 110 + k) (ad' := fun k => ad (110 + k)) (n9 := 13) (fun k hk => by omega) (fun k _ => rfl) (fun k hk => lE_m hk) (k := 0) (As := []) (rest := []) (fun sz => mm_thrown hI13 _ _ _ _ _ _ _ _ _ _ _ _ _ _ _ _ _ _ _ _ _ _ rfl rfl sz) (cwL_125 B.2.2.2.2.1 ⟨Nat.le_of_ble_eq_true rfl, Nat.le_of_ble_eq_true rfl⟩) (b_recv B hW (by omega) ((lE_m (k := 0) (by omega)).trans mE_0) rfl) rfl hl.1 (Nat.le_of_ble_eq_true rfl) dL_law_2068 ⟨by show _ ≤ 603072; omega, by show _ ≤ 7194730; omega⟩) hI hW hS (fun k hk => by omega) (fun k _ => rfl) (fun E1 => lE cJ cF (cE cI cZ cH cP cT ad V T ag nP nH rN nf pn sp sk py pd so en rA rC rI aA aC aH aT aP) E1 o od) (fun E1 k hk => lE_m hk) (fun E1 j hj hno => lE_out hno) (fun r_3 Em H locs hq hW hS => ?_)
    obtain ⟨hr3, hE_⟩ := hq
    rw [hE_] at hW
    refine lv_iload hx hb dL_law_2071 (lv_at hl 1 rfl) ?_
    refine lv_icmp_eq (tgt := 2078) hx hb dL_law_2073 (by decide) (fun c_2073 => ?_) (fun c_2073 => ?_)
    rotate_left
    · exact absurd hr3 c_2073
    refine lv_iload hx hb dL_law_2078 (lv_at hl 1 rfl) ?_
    refine lv_if_ne (tgt := 2115) hx hb dL_law_2080 (by decide) (fun c_2080 => ?_) (fun c_2080 => ?_)
    · exact absurd hK c_2080
    refine lv_aload hx hb dL_law_2083 (lv_at hl 6 rfl) ?_
    refine lv_iconst (v := nI 0) hx hb dL_law_2085 (by decide) ?_
    refine b_dald B hW rfl (j := 0) (by omega) lE_123 (vp_in_nI (by omega) (by omega)) rfl dL_law_2086 ?_
    refine lv_dload hx hb dL_law_2087 (lv_at hl 0 rfl) ?_
    refine lv_dcmp hx hb dL_law_2089 ?_
    refine lv_if_eq (tgt := 2115) hx hb dL_law_2090 (by decide) (fun c_2090 => ?_) (fun c_2090 => ?_)
    rotate_left
    · exact absurd (show _ = (0 : Int32) from (by rw [ho, ← hr2]; exact d_self hn64 _)) c_2090
    refine lv_goto (tgt := 2118) hx hb dL_law_2115 (by decide) ?_
    exact K _ _ _ _ _ _ _ _ _ _ _ _ _ _ _ _ _ _ _ _ hC hM hW hS (lv_sub hl [2, 3, 4, 5, 6, 7] rfl)
  · skip
    have hp := hp.resolve_left (fun q => hK q.1)
    obtain ⟨-, hC⟩ := hp
    obtain ⟨-, hM⟩ := hq
    obtain ⟨so, en, rA, rC, rI, aA, aC, aH, aT, aP, hEc, hInv⟩ := hC
    subst hEc
    have hW := lE_ad (ad2 := ad) (fun k hk => by rw [sD_lo hk]) hW
    have hC : CW cI cZ cH cP cT ad V T ag nP nH rN nf pn sp sk py pd (cE cI cZ cH cP cT ad V T ag nP nH rN nf pn sp sk py pd so en rA rC rI aA aC aH aT aP) := CW.mk hInv
    refine lv_dstore (lv' := [(7, .double r_2), (6, .int r_1), (0, .ref b), (1, .ref (ad 0)), (2, .ref (ad 110)), (3, .ref (ad 109)), (4, .ref (ad 123)), (5, .int (nI (4 * t)))]) hx hb dL_law_2065 hl (by decide) rfl (fun ls hl => ?_)
    refine lv_aload_n hx hb dL_law_2067 rfl (lv_at hl 4 rfl) ?_
    obtain ⟨du, mA, mC, mH, mG, mS, mI, mT, mP, hEm⟩ := id hM
    subst hEm
    refine y_ci (y_runV B hT hX hW hS (σ := fun k => 110 + k) (ad' := fun k => ad (110 + k)) (n9 := 13) (fun k hk => by omega) (fun k _ => rfl) (fun k hk => lE_m hk) (k := 0) (As := []) (rest := []) (fun sz => mm_thrown hI13 _ _ _ _ _ _ _ _ _ _ _ _ _ _ _ _ _ _ _ _ _ _ rfl rfl sz) (cwL_125 B.2.2.2.2.1 ⟨Nat.le_of_ble_eq_true rfl, Nat.le_of_ble_eq_true rfl⟩) (b_recv B hW (by omega) ((lE_m (k := 0) (by omega)).trans mE_0) rfl) rfl hl.1 (Nat.le_of_ble_eq_true rfl) dL_law_2068 ⟨by show _ ≤ 603072; omega, by show _ ≤ 7194730; omega⟩) hI hW hS (fun k hk => by omega) (fun k _ => rfl) (fun E1 => lE cJ cF (cE cI cZ cH cP cT ad V T ag nP nH rN nf pn sp sk py pd so en rA rC rI aA aC aH aT aP) E1 o od) (fun E1 k hk => lE_m hk) (fun E1 j hj hno => lE_out hno) (fun r_3 Em H locs hq hW hS => ?_)
    obtain ⟨hr3, hE_⟩ := hq
    rw [hE_] at hW
    refine lv_iload hx hb dL_law_2071 (lv_at hl 1 rfl) ?_
    refine lv_icmp_eq (tgt := 2078) hx hb dL_law_2073 (by decide) (fun c_2073 => ?_) (fun c_2073 => ?_)
    rotate_left
    · exact absurd hr3 c_2073
    refine lv_iload hx hb dL_law_2078 (lv_at hl 1 rfl) ?_
    refine lv_if_ne (tgt := 2115) hx hb dL_law_2080 (by decide) (fun c_2080 => ?_) (fun c_2080 => ?_)
    rotate_left
    · exact absurd c_2080 hK
    refine lv_goto (tgt := 2118) hx hb dL_law_2115 (by decide) ?_
    exact K _ _ _ _ _ _ _ _ _ _ _ _ _ _ _ _ _ _ _ _ hC hM hW hS (lv_sub hl [2, 3, 4, 5, 6, 7] rfl)
