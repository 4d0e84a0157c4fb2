theorem cwL_153 {R : Room} {s : State} {args : Array Value} {rm : Room} (hts : ∀ w ∈ wsL_law, w.before args s = true) (hR : rm.frames + 1 ≤ R.frames ∧ 8 + (5 + 11) + rm.locals ≤ R.locals) : vx_CSW R s args RL 153 yL_takeBackRule cL_takeBackRule 5 (some .int) [(0, 10, 13, 37), (0, 10, 17, 50)] (Cond.codeWith yL_takeBackRule cL_takeBackRule 5 (some .int) [(0, 10, 13, 37), (0, 10, 17, 50)] :: wsL_law) rm rm.cells rm.slots 4 :=
  vx_cwSW 4 hts (gi_S (r13_in _ (List.mem_of_getElem? (i := 7) rfl)) (r13_in _ (List.mem_of_getElem? (i := 8) rfl)) (r5_in _ (List.mem_of_getElem? (i := 22) rfl)) (r13_in _ (List.mem_of_getElem? (i := 9) rfl))) rfl rfl rfl (by decide +kernel) hR
theorem cwL_156 {R : Room} {s : State} {args : Array Value} {rm : Room} (hts : ∀ w ∈ wsL_law, w.before args s = true) (hR : rm.frames + 1 ≤ R.frames ∧ 8 + (4 + 11) + rm.locals ≤ R.locals) : CWV R s args RL RX6 156 yX6_takeBackRule cX6_takeBackRule 4 (some .int) rm rm.cells rm.slots 2 :=
  cwV 2 hts (gi_V (r13_in _ (List.mem_of_getElem? (i := 17) rfl)) (r13_in _ (List.mem_of_getElem? (i := 18) rfl)) (r13_in _ (List.mem_of_getElem? (i := 19) rfl)) (r1_in _ (List.mem_of_getElem? (i := 5) rfl)) (r13_in _ (List.mem_of_getElem? (i := 20) rfl))) rfl rfl rfl (by decide +kernel) hR
theorem cwL_157 {R : Room} {s : State} {args : Array Value} {rm : Room} (hts : ∀ w ∈ wsL_law, w.before args s = true) (hR : rm.frames + 1 ≤ R.frames ∧ 8 + (3 + 11) + rm.locals ≤ R.locals) : vx_CSW R s args RL 157 yL_pay cL_pay 3 (some .int) [(0, 8, 11, 15)] (Cond.codeWith yL_pay cL_pay 3 (some .int) [(0, 8, 11, 15)] :: wsL_law) rm rm.cells rm.slots 2 :=
  vx_cwSW 2 hts (gi_S (r13_in _ (List.mem_of_getElem? (i := 21) rfl)) (r13_in _ (List.mem_of_getElem? (i := 22) rfl)) (r5_in _ (List.mem_of_getElem? (i := 22) rfl)) (r13_in _ (List.mem_of_getElem? (i := 23) rfl))) rfl rfl rfl (by decide +kernel) hR
theorem cwL_159 {R : Room} {s : State} {args : Array Value} {rm : Room} (hts : ∀ w ∈ wsL_law, w.before args s = true) (hR : rm.frames + 1 ≤ R.frames ∧ 8 + (4 + 11) + rm.locals ≤ R.locals) : CWV R s args RL RX6 159 yX6_pay cX6_pay 4 (some .int) rm rm.cells rm.slots 0 :=
  cwV 0 hts (gi_V (r17_in _ (List.mem_of_getElem? (i := 4) rfl)) (r17_in _ (List.mem_of_getElem? (i := 5) rfl)) (r17_in _ (List.mem_of_getElem? (i := 6) rfl)) (r1_in _ (List.mem_of_getElem? (i := 5) rfl)) (r17_in _ (List.mem_of_getElem? (i := 7) rfl))) rfl rfl rfl (by decide +kernel) hR
theorem cwL_160 {R : Room} {s : State} {args : Array Value} {rm : Room} (hts : ∀ w ∈ wsL_law, w.before args s = true) (hR : rm.frames + 1 ≤ R.frames ∧ 8 + (1 + 11) + rm.locals ≤ R.locals) : CWV R s args RL RX5 160 yX5_paidMonths cX5_paidMonths 1 (some .int) rm rm.cells rm.slots 0 :=
  cwV 0 hts (gi_V (r19_in _ (List.mem_of_getElem? (i := 3) rfl)) (r19_in _ (List.mem_of_getElem? (i := 4) rfl)) (r19_in _ (List.mem_of_getElem? (i := 5) rfl)) (r1_in _ (List.mem_of_getElem? (i := 2) rfl)) (r19_in _ (List.mem_of_getElem? (i := 6) rfl))) rfl rfl rfl (by decide +kernel) hR
theorem cwL_163 {R : Room} {s : State} {args : Array Value} {rm : Room} (hts : ∀ w ∈ wsL_law, w.before args s = true) (hR : rm.frames + 1 ≤ R.frames ∧ 8 + (1 + 11) + rm.locals ≤ R.locals) : CWV R s args RL RX6 163 yX6_paidMonths cX6_paidMonths 1 (some .int) rm rm.cells rm.slots 0 :=
  cwV 0 hts (gi_V (r19_in _ (List.mem_of_getElem? (i := 7) rfl)) (r19_in _ (List.mem_of_getElem? (i := 8) rfl)) (r19_in _ (List.mem_of_getElem? (i := 9) rfl)) (r1_in _ (List.mem_of_getElem? (i := 5) rfl)) (r19_in _ (List.mem_of_getElem? (i := 10) rfl))) rfl rfl rfl (by decide +kernel) hR
theorem cwL_164 {R : Room} {s : State} {args : Array Value} {rm : Room} (hts : ∀ w ∈ wsL_law, w.before args s = true) (hR : rm.frames + 1 ≤ R.frames ∧ 8 + (5 + 11) + rm.locals ≤ R.locals) : vx_CSW R s args RL 164 yL_payment cL_payment 5 (some .int) [(0, 10, 13, 25), (0, 10, 17, 37)] (Cond.codeWith yL_payment cL_payment 5 (some .int) [(0, 10, 13, 25), (0, 10, 17, 37)] :: wsL_law) rm rm.cells rm.slots 4 :=
  vx_cwSW 4 hts (gi_S (r19_in _ (List.mem_of_getElem? (i := 11) rfl)) (r19_in _ (List.mem_of_getElem? (i := 12) rfl)) (r5_in _ (List.mem_of_getElem? (i := 22) rfl)) (r19_in _ (List.mem_of_getElem? (i := 13) rfl))) rfl rfl rfl (by decide +kernel) hR
theorem cwL_166 {R : Room} {s : State} {args : Array Value} {rm : Room} (hts : ∀ w ∈ wsL_law, w.before args s = true) (hR : rm.frames + 1 ≤ R.frames ∧ 8 + (3 + 11) + rm.locals ≤ R.locals) : CWV R s args RL RX6 166 yX6_payment cX6_payment 3 (some .int) rm rm.cells rm.slots 2 :=
  cwV 2 hts (gi_V (r19_in _ (List.mem_of_getElem? (i := 21) rfl)) (r19_in _ (List.mem_of_getElem? (i := 22) rfl)) (r19_in _ (List.mem_of_getElem? (i := 23) rfl)) (r1_in _ (List.mem_of_getElem? (i := 5) rfl)) (r20_in _ (List.mem_of_getElem? (i := 0) rfl))) rfl rfl rfl (by decide +kernel) hR
theorem cwL_167 {R : Room} {s : State} {args : Array Value} {rm : Room} (hts : ∀ w ∈ wsL_law, w.before args s = true) (hR : rm.frames + 1 ≤ R.frames ∧ 8 + (5 + 11) + rm.locals ≤ R.locals) : vx_CSW R s args RL 167 yL_paidFor cL_paidFor 5 (some .int) [(0, 10, 13, 25)] (Cond.codeWith yL_paidFor cL_paidFor 5 (some .int) [(0, 10, 13, 25)] :: wsL_law) rm rm.cells rm.slots 4 :=
  vx_cwSW 4 hts (gi_S (r20_in _ (List.mem_of_getElem? (i := 5) rfl)) (r20_in _ (List.mem_of_getElem? (i := 6) rfl)) (r5_in _ (List.mem_of_getElem? (i := 22) rfl)) (r20_in _ (List.mem_of_getElem? (i := 7) rfl))) rfl rfl rfl (by decide +kernel) hR
theorem cwL_169 {R : Room} {s : State} {args : Array Value} {rm : Room} (hts : ∀ w ∈ wsL_law, w.before args s = true) (hR : rm.frames + 1 ≤ R.frames ∧ 8 + (3 + 11) + rm.locals ≤ R.locals) : CWV R s args RL RX6 169 yX6_paidFor cX6_paidFor 3 (some .int) rm rm.cells rm.slots 2 :=
  cwV 2 hts (gi_V (r20_in _ (List.mem_of_getElem? (i := 12) rfl)) (r20_in _ (List.mem_of_getElem? (i := 13) rfl)) (r20_in _ (List.mem_of_getElem? (i := 14) rfl)) (r1_in _ (List.mem_of_getElem? (i := 5) rfl)) (r20_in _ (List.mem_of_getElem? (i := 15) rfl))) rfl rfl rfl (by decide +kernel) hR
theorem cwL_170 {R : Room} {s : State} {args : Array Value} {rm : Room} (hts : ∀ w ∈ wsL_law, w.before args s = true) (hR : rm.frames + 1 ≤ R.frames ∧ 8 + (4 + 11) + rm.locals ≤ R.locals) : vx_CSW R s args RL 170 yL_balance cL_balance 4 (some .int) [(0, 9, 12, 25)] (Cond.codeWith yL_balance cL_balance 4 (some .int) [(0, 9, 12, 25)] :: wsL_law) rm rm.cells rm.slots 3 :=
  vx_cwSW 3 hts (gi_S (r20_in _ (List.mem_of_getElem? (i := 16) rfl)) (r20_in _ (List.mem_of_getElem? (i := 17) rfl)) (r5_in _ (List.mem_of_getElem? (i := 22) rfl)) (r20_in _ (List.mem_of_getElem? (i := 18) rfl))) rfl rfl rfl (by decide +kernel) hR
theorem cwL_172 {R : Room} {s : State} {args : Array Value} {rm : Room} (hts : ∀ w ∈ wsL_law, w.before args s = true) (hR : rm.frames + 1 ≤ R.frames ∧ 8 + (4 + 11) + rm.locals ≤ R.locals) : CWV R s args RL RX6 172 yX6_balance cX6_balance 4 (some .int) rm rm.cells rm.slots 1 :=
  cwV 1 hts (gi_V (r20_in _ (List.mem_of_getElem? (i := 23) rfl)) (r21_in _ (List.mem_of_getElem? (i := 0) rfl)) (r21_in _ (List.mem_of_getElem? (i := 1) rfl)) (r1_in _ (List.mem_of_getElem? (i := 5) rfl)) (r21_in _ (List.mem_of_getElem? (i := 2) rfl))) rfl rfl rfl (by decide +kernel) hR
theorem cwL_173 {R : Room} {s : State} {args : Array Value} {rm : Room} (hts : ∀ w ∈ wsL_law, w.before args s = true) (hR : rm.frames + 1 ≤ R.frames ∧ 8 + (4 + 11) + rm.locals ≤ R.locals) : vx_CSW R s args RL 173 yL_isSettled cL_isSettled 4 (some .int) [(0, 16, 19, 25)] (Cond.codeWith yL_isSettled cL_isSettled 4 (some .int) [(0, 16, 19, 25)] :: wsL_law) rm rm.cells rm.slots 3 :=
  vx_cwSW 3 hts (gi_S (r21_in _ (List.mem_of_getElem? (i := 7) rfl)) (r21_in _ (List.mem_of_getElem? (i := 8) rfl)) (r5_in _ (List.mem_of_getElem? (i := 22) rfl)) (r21_in _ (List.mem_of_getElem? (i := 9) rfl))) rfl rfl rfl (by decide +kernel) hR
theorem cwL_175 {R : Room} {s : State} {args : Array Value} {rm : Room} (hts : ∀ w ∈ wsL_law, w.before args s = true) (hR : rm.frames + 1 ≤ R.frames ∧ 8 + (4 + 11) + rm.locals ≤ R.locals) : CWV R s args RL RX6 175 yX6_isSettled cX6_isSettled 4 (some .boolean) rm rm.cells rm.slots 1 :=
  cwV 1 hts (gi_V (r21_in _ (List.mem_of_getElem? (i := 14) rfl)) (r21_in _ (List.mem_of_getElem? (i := 15) rfl)) (r21_in _ (List.mem_of_getElem? (i := 16) rfl)) (r1_in _ (List.mem_of_getElem? (i := 5) rfl)) (r21_in _ (List.mem_of_getElem? (i := 17) rfl))) rfl rfl rfl (by decide +kernel) hR
theorem cwL_176 {R : Room} {s : State} {args : Array Value} {rm : Room} (hts : ∀ w ∈ wsL_law, w.before args s = true) (hR : rm.frames + 1 ≤ R.frames ∧ 8 + (1 + 11) + rm.locals ≤ R.locals) : CWV R s args RL RX5 176 yX5_totalPaid cX5_totalPaid 1 (some .long) rm rm.cells rm.slots 0 :=
  cwV 0 hts (gi_V (r21_in _ (List.mem_of_getElem? (i := 18) rfl)) (r21_in _ (List.mem_of_getElem? (i := 19) rfl)) (r21_in _ (List.mem_of_getElem? (i := 20) rfl)) (r1_in _ (List.mem_of_getElem? (i := 2) rfl)) (r21_in _ (List.mem_of_getElem? (i := 21) rfl))) rfl rfl rfl (by decide +kernel) hR
theorem cwL_180 {R : Room} {s : State} {args : Array Value} {rm : Room} (hts : ∀ w ∈ wsL_law, w.before args s = true) (hR : rm.frames + 1 ≤ R.frames ∧ 8 + (1 + 11) + rm.locals ≤ R.locals) : CWV R s args RL RX6 180 yX6_totalPaid cX6_totalPaid 1 (some .long) rm rm.cells rm.slots 0 :=
  cwV 0 hts (gi_V (r21_in _ (List.mem_of_getElem? (i := 22) rfl)) (r21_in _ (List.mem_of_getElem? (i := 23) rfl)) (r22_in _ (List.mem_of_getElem? (i := 0) rfl)) (r1_in _ (List.mem_of_getElem? (i := 5) rfl)) (r22_in _ (List.mem_of_getElem? (i := 1) rfl))) rfl rfl rfl (by decide +kernel) hR
set_option maxHeartbeats 4000000 in
set_option maxRecDepth 100000 in
theorem lc_8 {p : Program} {l : Launch} {e : Env} {s : State} {m : MethodId} {args : Array Value} {below : List Frame} {meth : Method} {c : Code} {Q : State → Prop} {D : va_G} {ad : Nat → Nat} {cI cZ cH cP cT cJ cF : ClassId} {b L : Nat} {xs : Nat → Int32} (C : LC p l s m args c D ad cI cZ cH cP cT cJ cF b L xs) {t cells slots : Nat} (ht : 4 * t + 4 ≤ L) (hc : cells + 8 ≤ 603072) (hs : slots + 48 ≤ 7194730) (K : LK p l e s m args below meth c Q D ad cI cZ cH cP cT cJ cF b t (cells + 8) (slots + 48)) {V T : Nat → Nat → Int32} {ag : Nat → Int32} {nP nH rN : Nat} {nf pn : Int32} {sp sk : Int64} {py pd : Nat → Nat → Int32} {th : Int32} {Ec Em : Nat → va_E} {o : Nat → Int64} {od : Nat → UInt64} {H : Heap} {locs : List Loc} {ls : Array Slot} (hC : CW cI cZ cH cP cT ad V T ag nP nH rN nf pn sp sk py pd Ec) (hM : MW cI cZ (fun k => ad (110 + k)) th V T ag nP nH rN nf pn sp sk py pd Em) (hW : hH D ad 124 (lE cJ cF Ec Em o od) H) (hS : va_S (cA ad 124 s.heap.size) s.heap H locs) (hl : lv_has ls 9 [(0, .ref b), (1, .ref (ad 0)), (2, .ref (ad 110)), (3, .ref (ad 109)), (4, .ref (ad 123)), (5, .int (nI (4 * t)))]) : W p l e room_1 s m args below meth c H locs cells slots Q (F0 m 746 ls []) := by
  obtain ⟨B, ⟨hlf, hT, hN, hX, hI⟩, hXs, hbl, hbA, hL⟩ := C
  have hx := B.1
  have hb := B.2.1
  have hI109 : aI ad 109 := hI.subw (σ := fun k => k) (fun k hk => by omega) (fun k _ => rfl) (fun i j _ _ e => e)
  have hI110 : aI ad 110 := hI.subw (σ := fun k => k) (fun k hk => by omega) (fun k _ => rfl) (fun i j _ _ e => e)
  have hI110d : aI (fun k => ad (sD k)) 110 := hI.subw (σ := sD) (fun k hk => sD_lt k hk) (fun k _ => rfl) sD_inj
  have hI13 : aI (fun k => ad (110 + k)) 13 := hI.subw (σ := fun k => 110 + k) (fun k hk => by omega) (fun k _ => rfl) (fun i j _ _ e => by have e : 110 + i = 110 + j := e; omega)
  obtain ⟨so, en, rA, rC, rI, aA, aC, aH, aT, aP, hEc, hInv⟩ := hC
  subst hEc
  obtain ⟨du, mA, mC, mH, mG, mS, mI, mT, mP, hEm⟩ := hM
  subst hEm
  refine lv_aload_n hx hb dL_law_746 rfl (lv_at hl 1 rfl) ?_
  refine lv_aload_n hx hb dL_law_747 rfl (lv_at hl 0 rfl) ?_
  refine lv_iload hx hb dL_law_748 (lv_at hl 5 rfl) ?_
  refine lv_iconst (v := nI 1) hx hb dL_law_750 (by decide) ?_
  refine lv_iadd hx hb dL_law_751 ?_
  refine b_top (y := nI (4 * t + 1)) (nI_add _ _) ?_
  refine va_sld hx hb hXs hbl hbA hS (vp_in_nI (by omega) (by omega)) dL_law_752 ?_
  refine b_top (y := xs (4 * t + 1)) (by rw [nI_clamp (by omega)]) ?_
  refine lv_i2c (v := (Int32.toUInt32 (xs (4 * t + 1)) % 65536).toInt32) hx hb dL_law_753 rfl ?_
  refine lv_aload_n hx hb dL_law_754 rfl (lv_at hl 0 rfl) ?_
  refine lv_iload hx hb dL_law_755 (lv_at hl 5 rfl) ?_
  refine lv_iconst (v := nI 2) hx hb dL_law_757 (by decide) ?_
  refine lv_iadd hx hb dL_law_758 ?_
  refine b_top (y := nI (4 * t + 2)) (nI_add _ _) ?_
  refine va_sld hx hb hXs hbl hbA hS (vp_in_nI (by omega) (by omega)) dL_law_759 ?_
  refine b_top (y := xs (4 * t + 2)) (by rw [nI_clamp (by omega)]) ?_
  refine lv_aload_n hx hb dL_law_760 rfl (lv_at hl 3 rfl) ?_
  refine y_ci (y_runSW B hT hX hN hW hS (σ := fun k => k) (ad' := ad) (n9 := 110) (fun k hk => by omega) (fun k _ => rfl) (fun k hk => lE_h hk) (As := [.ref (ad 0), .int ((Int32.toUInt32 (xs (4 * t + 1)) % 65536).toInt32), .int (xs (4 * t + 2)), .ref (ad 109)]) (rest := []) (fun sz => lh_takeBackRule hlf hI110 o V T ag nP nH rN nf pn sp sk py pd so en rA rC rI aA aC aH aT aP (((Int32.toUInt32 (xs (4 * t + 1)) % 65536).toInt32)) ((xs (4 * t + 2))) rfl rfl rfl rfl rfl rfl rfl hInv (ad := ad) sz) (cwL_153 B.2.2.2.2.1 ⟨Nat.le_of_ble_eq_true rfl, Nat.le_of_ble_eq_true rfl⟩) rfl hl.1 (Nat.le_of_ble_eq_true rfl) dL_law_761 ⟨by show _ ≤ 603072; omega, by show _ ≤ 7194730; omega⟩) hI hW hS (fun k hk => by omega) (fun k _ => rfl) (fun E1 => gH cF E1 (mE cI cZ (fun k => ad (110 + k)) th nP nH rN nf pn sp sk ag (RV V) (RV T) (FL pd) (FL py) du mA mC mH mG mS mI mT mP) od) (fun E1 k hk => gH_in hk) (fun E1 j hj hno => gH_out hno) (fun r_1 E1 H locs hp hW hS => ?_)
  obtain ⟨hr_, Ec, o, hE_, hp⟩ := hp
  have hW : hH D ad 124 (lE cJ cF Ec (mE cI cZ (fun k => ad (110 + k)) th nP nH rN nf pn sp sk ag (RV V) (RV T) (FL pd) (FL py) du mA mC mH mG mS mI mT mP) o od) H := hW.eq (by rw [hE_, gH_eq])
  rw [← hr_] at hp
  refine lv_istore (lv' := [(6, .int r_1), (0, .ref b), (1, .ref (ad 0)), (2, .ref (ad 110)), (3, .ref (ad 109)), (4, .ref (ad 123)), (5, .int (nI (4 * t)))]) hx hb dL_law_764 hl (by decide) rfl (fun ls hl => ?_)
  refine lv_aload_n hx hb dL_law_766 rfl (lv_at hl 3 rfl) ?_
  refine lv_aload_n hx hb dL_law_767 rfl (lv_at hl 1 rfl) ?_
  refine lv_iload hx hb dL_law_768 (lv_at hl 6 rfl) ?_
  refine lv_iconst (v := nI 1) hx hb dL_law_770 (by decide) ?_
  refine lv_iadd hx hb dL_law_771 ?_
  refine b_top (y := nI (4 * t + 1)) (nI_add _ _) ?_
  refine va_sld hx hb hXs hbl hbA hS (vp_in_nI (by omega) (by omega)) dL_law_772 ?_
  refine b_top (y := xs (4 * t + 1)) (by rw [nI_clamp (by omega)]) ?_
  refine lv_i2c (v := (Int32.toUInt32 (xs (4 * t + 1)) % 65536).toInt32) hx hb dL_law_773 rfl ?_
  refine lv_aload_n hx hb dL_law_774 rfl (lv_at hl 1 rfl) ?_
  refine lv_iload hx hb dL_law_775 (lv_at hl 6 rfl) ?_
  refine lv_iconst (v := nI 2) hx hb dL_law_777 (by decide) ?_
  refine lv_iadd hx hb dL_law_778 ?_
  refine b_top (y := nI (4 * t + 2)) (nI_add _ _) ?_
  refine va_sld hx hb hXs hbl hbA hS (vp_in_nI (by omega) (by omega)) dL_law_779 ?_
  refine b_top (y := xs (4 * t + 2)) (by rw [nI_clamp (by omega)]) ?_
  refine y_ci (y_runV B hT hX hW hS (σ := fun k => 110 + k) (ad' := fun k => ad (110 + k)) (n9 := 13) (fun k hk => by omega) (fun k _ => rfl) (fun k hk => lE_m hk) (k := 0) (As := [.int ((Int32.toUInt32 (xs (4 * t + 1)) % 65536).toInt32), .int (xs (4 * t + 2))]) (rest := []) (fun sz => mm_takeBackRule hI13 th nP nH rN nf pn sp sk ag V T pd py du mA mC mH mG mS mI mT mP (((Int32.toUInt32 (xs (4 * t + 1)) % 65536).toInt32)) ((xs (4 * t + 2))) so rfl rfl hInv sz) (cwL_156 B.2.2.2.2.1 ⟨Nat.le_of_ble_eq_true rfl, Nat.le_of_ble_eq_true rfl⟩) (b_recv B hW (by omega) ((lE_m (k := 0) (by omega)).trans mE_0) rfl) rfl hl.1 (Nat.le_of_ble_eq_true rfl) dL_law_780 ⟨by show _ ≤ 603072; omega, by show _ ≤ 7194730; omega⟩) hI hW hS (fun k hk => by omega) (fun k _ => rfl) (fun E1 => lE cJ cF Ec E1 o od) (fun E1 k hk => lE_m hk) (fun E1 j hj hno => lE_out hno) (fun r_2 Em H locs hq hW hS => ?_)
  rw [← hr_] at hq
  by_cases hK : r_1 = 0
  · skip
    have hp := hp.resolve_right (fun q => q.1 hK)
    obtain ⟨-, ho, hC⟩ := hp
    have hq := hq.resolve_right (fun q => q.1 hK)
    obtain ⟨-, hr2, hM⟩ := hq
    refine lv_istore (lv' := [(7, .int r_2), (6, .int r_1), (0, .ref b), (1, .ref (ad 0)), (2, .ref (ad 110)), (3, .ref (ad 109)), (4, .ref (ad 123)), (5, .int (nI (4 * t)))]) hx hb dL_law_783 hl (by decide) rfl (fun ls hl => ?_)
    refine lv_aload_n hx hb dL_law_785 rfl (lv_at hl 4 rfl) ?_
    obtain ⟨du, mA, mC, mH, mG, mS, mI, mT, mP, hEm⟩ := id hM
    subst hEm
    refine y_ci (y_runV B hT hX hW hS (σ := fun k => 110 + k) (ad' := fun k => ad (110 + k)) (n9 := 13) (fun k hk => by omega) (fun k _ => rfl) (fun k hk => lE_m hk) (k := 0) (As := []) (rest := []) (fun sz => mm_thrown hI13 _ _ _ _ _ _ _ _ _ _ _ _ _ _ _ _ _ _ _ _ _ _ rfl rfl sz) (cwL_125 B.2.2.2.2.1 ⟨Nat.le_of_ble_eq_true rfl, Nat.le_of_ble_eq_true rfl⟩) (b_recv B hW (by omega) ((lE_m (k := 0) (by omega)).trans mE_0) rfl) rfl hl.1 (Nat.le_of_ble_eq_true rfl) dL_law_786 ⟨by show _ ≤ 603072; omega, by show _ ≤ 7194730; omega⟩) hI hW hS (fun k hk => by omega) (fun k _ => rfl) (fun E1 => lE cJ cF Ec E1 o od) (fun E1 k hk => lE_m hk) (fun E1 j hj hno => lE_out hno) (fun r_3 Em H locs hq hW hS => ?_)
    obtain ⟨hr3, hE_⟩ := hq
    rw [hE_] at hW
    refine lv_iload hx hb dL_law_789 (lv_at hl 1 rfl) ?_
    refine lv_icmp_eq (tgt := 796) hx hb dL_law_791 (by decide) (fun c_791 => ?_) (fun c_791 => ?_)
    rotate_left
    · exact absurd (hr3.trans hK.symm) c_791
    refine lv_iload hx hb dL_law_796 (lv_at hl 1 rfl) ?_
    refine lv_if_ne (tgt := 813) hx hb dL_law_798 (by decide) (fun c_798 => ?_) (fun c_798 => ?_)
    · exact absurd hK c_798
    refine lv_aload_n hx hb dL_law_801 rfl (lv_at hl 5 rfl) ?_
    refine lv_iconst (v := nI 0) hx hb dL_law_802 (by decide) ?_
    refine b_lald B hW rfl (j := 0) (by omega) lE_109 (vp_in_nI (by omega) (by omega)) rfl dL_law_803 ?_
    refine lv_iload hx hb dL_law_804 (lv_at hl 0 rfl) ?_
    refine lv_i2l hx hb dL_law_806 rfl ?_
    refine b_lcmp hx hb dL_law_807 ?_
    refine lv_if_eq (tgt := 813) hx hb dL_law_808 (by decide) (fun c_808 => ?_) (fun c_808 => ?_)
    rotate_left
    · exact absurd (lcm_0.mpr (by rw [ho, hr2])) c_808
    refine lv_goto (tgt := 2118) hx hb dL_law_813 (by decide) ?_
    exact K _ _ _ _ _ _ _ _ _ _ _ _ _ _ _ _ _ _ _ _ hC hM hW hS (lv_sub hl [2, 3, 4, 5, 6, 7] rfl)
  · skip
    have hp := hp.resolve_left (fun q => hK q.1)
    obtain ⟨-, hC⟩ := hp
    have hq := hq.resolve_left (fun q => hK q.1)
    obtain ⟨-, hM⟩ := hq
    refine lv_istore (lv' := [(7, .int r_2), (6, .int r_1), (0, .ref b), (1, .ref (ad 0)), (2, .ref (ad 110)), (3, .ref (ad 109)), (4, .ref (ad 123)), (5, .int (nI (4 * t)))]) hx hb dL_law_783 hl (by decide) rfl (fun ls hl => ?_)
    refine lv_aload_n hx hb dL_law_785 rfl (lv_at hl 4 rfl) ?_
    obtain ⟨du, mA, mC, mH, mG, mS, mI, mT, mP, hEm⟩ := id hM
    subst hEm
    refine y_ci (y_runV B hT hX hW hS (σ := fun k => 110 + k) (ad' := fun k => ad (110 + k)) (n9 := 13) (fun k hk => by omega) (fun k _ => rfl) (fun k hk => lE_m hk) (k := 0) (As := []) (rest := []) (fun sz => mm_thrown hI13 _ _ _ _ _ _ _ _ _ _ _ _ _ _ _ _ _ _ _ _ _ _ rfl rfl sz) (cwL_125 B.2.2.2.2.1 ⟨Nat.le_of_ble_eq_true rfl, Nat.le_of_ble_eq_true rfl⟩) (b_recv B hW (by omega) ((lE_m (k := 0) (by omega)).trans mE_0) rfl) rfl hl.1 (Nat.le_of_ble_eq_true rfl) dL_law_786 ⟨by show _ ≤ 603072; omega, by show _ ≤ 7194730; omega⟩) hI hW hS (fun k hk => by omega) (fun k _ => rfl) (fun E1 => lE cJ cF Ec E1 o od) (fun E1 k hk => lE_m hk) (fun E1 j hj hno => lE_out hno) (fun r_3 Em H locs hq hW hS => ?_)
    obtain ⟨hr3, hE_⟩ := hq
    rw [hE_] at hW
    refine lv_iload hx hb dL_law_789 (lv_at hl 1 rfl) ?_
    refine lv_icmp_eq (tgt := 796) hx hb dL_law_791 (by decide) (fun c_791 => ?_) (fun c_791 => ?_)
    rotate_left
    · exact absurd hr3 c_791
    refine lv_iload hx hb dL_law_796 (lv_at hl 1 rfl) ?_
    refine lv_if_ne (tgt := 813) hx hb dL_law_798 (by decide) (fun c_798 => ?_) (fun c_798 => ?_)
    rotate_left
    · exact absurd c_798 hK
    refine lv_goto (tgt := 2118) hx hb dL_law_813 (by decide) ?_
    exact K _ _ _ _ _ _ _ _ _ _ _ _ _ _ _ _ _ _ _ _ hC hM hW hS (lv_sub hl [2, 3, 4, 5, 6, 7] rfl)
set_option maxHeartbeats 4000000 in
set_option maxRecDepth 100000 in
theorem lc_9 {p : Program} {l : Launch} {e : Env} {s : State} {m : MethodId} {args : Array Value} {below : List Frame} {meth : Method} {c : Code} {Q : State → Prop} {D : va_G} {ad : Nat → Nat} {cI cZ cH cP cT cJ cF : ClassId} {b L : Nat} {xs : Nat → Int32} (C : LC p l s m args c D ad cI cZ cH cP cT cJ cF b L xs) {t cells slots : Nat} (ht : 4 * t + 4 ≤ L) (hc : cells + 8 ≤ 603072) (hs : slots + 48 ≤ 7194730) (K : LK p l e s m args below meth c Q D ad cI cZ cH cP cT cJ cF b t (cells + 8) (slots + 48)) {V T : Nat → Nat → Int32} {ag : Nat → Int32} {nP nH rN : Nat} {nf pn : Int32} {sp sk : Int64} {py pd : Nat → Nat → Int32} {th : Int32} {Ec Em : Nat → va_E} {o : Nat → Int64} {od : Nat → UInt64} {H : Heap} {locs : List Loc} {ls : Array Slot} (hC : CW cI cZ cH cP cT ad V T ag nP nH rN nf pn sp sk py pd Ec) (hM : MW cI cZ (fun k => ad (110 + k)) th V T ag nP nH rN nf pn sp sk py pd Em) (hW : hH D ad 124 (lE cJ cF Ec Em o od) H) (hS : va_S (cA ad 124 s.heap.size) s.heap H locs) (hl : lv_has ls 9 [(0, .ref b), (1, .ref (ad 0)), (2, .ref (ad 110)), (3, .ref (ad 109)), (4, .ref (ad 123)), (5, .int (nI (4 * t)))]) : W p l e room_1 s m args below meth c H locs cells slots Q (F0 m 816 ls []) := by
  obtain ⟨B, ⟨hlf, hT, hN, hX, hI⟩, hXs, hbl, hbA, hL⟩ := C
  have hx := B.1
  have hb := B.2.1
  have hI109 : aI ad 109 := hI.subw (σ := fun k => k) (fun k hk => by omega) (fun k _ => rfl) (fun i j _ _ e => e)
  have hI110 : aI ad 110 := hI.subw (σ := fun k => k) (fun k hk => by omega) (fun k _ => rfl) (fun i j _ _ e => e)
  have hI110d : aI (fun k => ad (sD k)) 110 := hI.subw (σ := sD) (fun k hk => sD_lt k hk) (fun k _ => rfl) sD_inj
  have hI13 : aI (fun k => ad (110 + k)) 13 := hI.subw (σ := fun k => 110 + k) (fun k hk => by omega) (fun k _ => rfl) (fun i j _ _ e => by have e : 110 + i = 110 + j := e; omega)
  obtain ⟨so, en, rA, rC, rI, aA, aC, aH, aT, aP, hEc, hInv⟩ := hC
  subst hEc
  obtain ⟨du, mA, mC, mH, mG, mS, mI, mT, mP, hEm⟩ := hM
  subst hEm
  refine lv_aload_n hx hb dL_law_816 rfl (lv_at hl 1 rfl) ?_
  refine lv_aload_n hx hb dL_law_817 rfl (lv_at hl 3 rfl) ?_
  refine y_ci (y_runSW B hT hX hN hW hS (σ := fun k => k) (ad' := ad) (n9 := 110) (fun k hk => by omega) (fun k _ => rfl) (fun k hk => lE_h hk) (As := [.ref (ad 0), .ref (ad 109)]) (rest := []) (fun sz => lh_pay hlf hI110 o V T ag nP nH rN nf pn sp sk py pd so en rA rC rI aA aC aH aT aP rfl rfl rfl rfl rfl rfl rfl hInv (ad := ad) sz) (cwL_157 B.2.2.2.2.1 ⟨Nat.le_of_ble_eq_true rfl, Nat.le_of_ble_eq_true rfl⟩) rfl hl.1 (Nat.le_of_ble_eq_true rfl) dL_law_818 ⟨by show _ ≤ 603072; omega, by show _ ≤ 7194730; omega⟩) hI hW hS (fun k hk => by omega) (fun k _ => rfl) (fun E1 => gH cF E1 (mE cI cZ (fun k => ad (110 + k)) th nP nH rN nf pn sp sk ag (RV V) (RV T) (FL pd) (FL py) du mA mC mH mG mS mI mT mP) od) (fun E1 k hk => gH_in hk) (fun E1 j hj hno => gH_out hno) (fun r_1 E1 H locs hp hW hS => ?_)
  obtain ⟨hr_, Ec, o, hE_, hp⟩ := hp
  have hW : hH D ad 124 (lE cJ cF Ec (mE cI cZ (fun k => ad (110 + k)) th nP nH rN nf pn sp sk ag (RV V) (RV T) (FL pd) (FL py) du mA mC mH mG mS mI mT mP) o od) H := hW.eq (by rw [hE_, gH_eq])
  rw [← hr_] at hp
  refine lv_istore (lv' := [(6, .int r_1), (0, .ref b), (1, .ref (ad 0)), (2, .ref (ad 110)), (3, .ref (ad 109)), (4, .ref (ad 123)), (5, .int (nI (4 * t)))]) hx hb dL_law_821 hl (by decide) rfl (fun ls hl => ?_)
  refine lv_aload_n hx hb dL_law_823 rfl (lv_at hl 3 rfl) ?_
  refine y_ci (y_runV B hT hX hW hS (σ := fun k => 110 + k) (ad' := fun k => ad (110 + k)) (n9 := 13) (fun k hk => by omega) (fun k _ => rfl) (fun k hk => lE_m hk) (k := 0) (As := []) (rest := []) (fun sz => mm_pay hI13 th nP nH rN nf pn sp sk ag V T pd py du mA mC mH mG mS mI mT mP so rfl rfl hInv sz) (cwL_159 B.2.2.2.2.1 ⟨Nat.le_of_ble_eq_true rfl, Nat.le_of_ble_eq_true rfl⟩) (b_recv B hW (by omega) ((lE_m (k := 0) (by omega)).trans mE_0) rfl) rfl hl.1 (Nat.le_of_ble_eq_true rfl) dL_law_824 ⟨by show _ ≤ 603072; omega, by show _ ≤ 7194730; omega⟩) hI hW hS (fun k hk => by omega) (fun k _ => rfl) (fun E1 => lE cJ cF Ec E1 o od) (fun E1 k hk => lE_m hk) (fun E1 j hj hno => lE_out hno) (fun r_2 Em H locs hq hW hS => ?_)
  rw [← hr_] at hq
  by_cases hK : r_1 = 0
  · skip
    have hp := hp.resolve_right (fun q => q.1 hK)
    obtain ⟨-, ho, hC⟩ := hp
    have hq := hq.resolve_right (fun q => q.1 hK)
    obtain ⟨-, hr2, hM⟩ := hq
    refine lv_istore (lv' := [(7, .int r_2), (6, .int r_1), (0, .ref b), (1, .ref (ad 0)), (2, .ref (ad 110)), (3, .ref (ad 109)), (4, .ref (ad 123)), (5, .int (nI (4 * t)))]) hx hb dL_law_827 hl (by decide) rfl (fun ls hl => ?_)
    refine lv_aload_n hx hb dL_law_829 rfl (lv_at hl 4 rfl) ?_
    obtain ⟨du, mA, mC, mH, mG, mS, mI, mT, mP, hEm⟩ := id hM
    subst hEm
    refine y_ci (y_runV B hT hX hW hS (σ := fun k => 110 + k) (ad' := fun k => ad (110 + k)) (n9 := 13) (fun k hk => by omega) (fun k _ => rfl) (fun k hk => lE_m hk) (k := 0) (As := []) (rest := []) (fun sz => mm_thrown hI13 _ _ _ _ _ _ _ _ _ _ _ _ _ _ _ _ _ _ _ _ _ _ rfl rfl sz) (cwL_125 B.2.2.2.2.1 ⟨Nat.le_of_ble_eq_true rfl, Nat.le_of_ble_eq_true rfl⟩) (b_recv B hW (by omega) ((lE_m (k := 0) (by omega)).trans mE_0) rfl) rfl hl.1 (Nat.le_of_ble_eq_true rfl) dL_law_830 ⟨by show _ ≤ 603072; omega, by show _ ≤ 7194730; omega⟩) hI hW hS (fun k hk => by omega) (fun k _ => rfl) (fun E1 => lE cJ cF Ec E1 o od) (fun E1 k hk => lE_m hk) (fun E1 j hj hno => lE_out hno) (fun r_3 Em H locs hq hW hS => ?_)
    obtain ⟨hr3, hE_⟩ := hq
    rw [hE_] at hW
    refine lv_iload hx hb dL_law_833 (lv_at hl 1 rfl) ?_
    refine lv_icmp_eq (tgt := 840) hx hb dL_law_835 (by decide) (fun c_835 => ?_) (fun c_835 => ?_)
    rotate_left
    · exact absurd (hr3.trans hK.symm) c_835
    refine lv_iload hx hb dL_law_840 (lv_at hl 1 rfl) ?_
    refine lv_if_ne (tgt := 857) hx hb dL_law_842 (by decide) (fun c_842 => ?_) (fun c_842 => ?_)
    · exact absurd hK c_842
    refine lv_aload_n hx hb dL_law_845 rfl (lv_at hl 5 rfl) ?_
    refine lv_iconst (v := nI 0) hx hb dL_law_846 (by decide) ?_
    refine b_lald B hW rfl (j := 0) (by omega) lE_109 (vp_in_nI (by omega) (by omega)) rfl dL_law_847 ?_
    refine lv_iload hx hb dL_law_848 (lv_at hl 0 rfl) ?_
    refine lv_i2l hx hb dL_law_850 rfl ?_
    refine b_lcmp hx hb dL_law_851 ?_
    refine lv_if_eq (tgt := 857) hx hb dL_law_852 (by decide) (fun c_852 => ?_) (fun c_852 => ?_)
    rotate_left
    · exact absurd (lcm_0.mpr (by rw [ho, hr2])) c_852
    refine lv_goto (tgt := 2118) hx hb dL_law_857 (by decide) ?_
    exact K _ _ _ _ _ _ _ _ _ _ _ _ _ _ _ _ _ _ _ _ hC hM hW hS (lv_sub hl [2, 3, 4, 5, 6, 7] rfl)
  · skip
    have hp := hp.resolve_left (fun q => hK q.1)
    obtain ⟨-, hC⟩ := hp
    have hq := hq.resolve_left (fun q => hK q.1)
    obtain ⟨-, hM⟩ := hq
    refine lv_istore (lv' := [(7, .int r_2), (6, .int r_1), (0, .ref b), (1, .ref (ad 0)), (2, .ref (ad 110)), (3, .ref (ad 109)), (4, .ref (ad 123)), (5, .int (nI (4 * t)))]) hx hb dL_law_827 hl (by decide) rfl (fun ls hl => ?_)
    refine lv_aload_n hx hb dL_law_829 rfl (lv_at hl 4 rfl) ?_
    obtain ⟨du, mA, mC, mH, mG, mS, mI, mT, mP, hEm⟩ := id hM
    subst hEm
    refine y_ci (y_runV B hT hX hW hS (σ := fun k => 110 + k) (ad' := fun k => ad (110 + k)) (n9 := 13) (fun k hk => by omega) (fun k _ => rfl) (fun k hk => lE_m hk) (k := 0) (As := []) (rest := []) (fun sz => mm_thrown hI13 _ _ _ _ _ _ _ _ _ _ _ _ _ _ _ _ _ _ _ _ _ _ rfl rfl sz) (cwL_125 B.2.2.2.2.1 ⟨Nat.le_of_ble_eq_true rfl, Nat.le_of_ble_eq_true rfl⟩) (b_recv B hW (by omega) ((lE_m (k := 0) (by omega)).trans mE_0) rfl) rfl hl.1 (Nat.le_of_ble_eq_true rfl) dL_law_830 ⟨by show _ ≤ 603072; omega, by show _ ≤ 7194730; omega⟩) hI hW hS (fun k hk => by omega) (fun k _ => rfl) (fun E1 => lE cJ cF Ec E1 o od) (fun E1 k hk => lE_m hk) (fun E1 j hj hno => lE_out hno) (fun r_3 Em H locs hq hW hS => ?_)
    obtain ⟨hr3, hE_⟩ := hq
    rw [hE_] at hW
    refine lv_iload hx hb dL_law_833 (lv_at hl 1 rfl) ?_
    refine lv_icmp_eq (tgt := 840) hx hb dL_law_835 (by decide) (fun c_835 => ?_) (fun c_835 => ?_)
    rotate_left
    · exact absurd hr3 c_835
    refine lv_iload hx hb dL_law_840 (lv_at hl 1 rfl) ?_
    refine lv_if_ne (tgt := 857) hx hb dL_law_842 (by decide) (fun c_842 => ?_) (fun c_842 => ?_)
    rotate_left
    · exact absurd c_842 hK
    refine lv_goto (tgt := 2118) hx hb dL_law_857 (by decide) ?_
    exact K _ _ _ _ _ _ _ _ _ _ _ _ _ _ _ _ _ _ _ _ hC hM hW hS (lv_sub hl [2, 3, 4, 5, 6, 7] rfl)
set_option maxHeartbeats 4000000 in
set_option maxRecDepth 100000 in
theorem lc_10 {p : Program} {l : Launch} {e : Env} {s : State} {m : MethodId} {args : Array Value} {below : List Frame} {meth : Method} {c : Code} {Q : State → Prop} {D : va_G} {ad : Nat → Nat} {cI cZ cH cP cT cJ cF : ClassId} {b L : Nat} {xs : Nat → Int32} (C : LC p l s m args c D ad cI cZ cH cP cT cJ cF b L xs) {t cells slots : Nat} (ht : 4 * t + 4 ≤ L) (hc : cells + 8 ≤ 603072) (hs : slots + 48 ≤ 7194730) (K : LK p l e s m args below meth c Q D ad cI cZ cH cP cT cJ cF b t (cells + 8) (slots + 48)) {V T : Nat → Nat → Int32} {ag : Nat → Int32} {nP nH rN : Nat} {nf pn : Int32} {sp sk : Int64} {py pd : Nat → Nat → Int32} {th : Int32} {Ec Em : Nat → va_E} {o : Nat → Int64} {od : Nat → UInt64} {H : Heap} {locs : List Loc} {ls : Array Slot} (hC : CW cI cZ cH cP cT ad V T ag nP nH rN nf pn sp sk py pd Ec) (hM : MW cI cZ (fun k => ad (110 + k)) th V T ag nP nH rN nf pn sp sk py pd Em) (hW : hH D ad 124 (lE cJ cF Ec Em o od) H) (hS : va_S (cA ad 124 s.heap.size) s.heap H locs) (hl : lv_has ls 9 [(0, .ref b), (1, .ref (ad 0)), (2, .ref (ad 110)), (3, .ref (ad 109)), (4, .ref (ad 123)), (5, .int (nI (4 * t)))]) : W p l e room_1 s m args below meth c H locs cells slots Q (F0 m 860 ls []) := by
  obtain ⟨B, ⟨hlf, hT, hN, hX, hI⟩, hXs, hbl, hbA, hL⟩ := C
  have hx := B.1
  have hb := B.2.1
  have hI109 : aI ad 109 := hI.subw (σ := fun k => k) (fun k hk => by omega) (fun k _ => rfl) (fun i j _ _ e => e)
  have hI110 : aI ad 110 := hI.subw (σ := fun k => k) (fun k hk => by omega) (fun k _ => rfl) (fun i j _ _ e => e)
  have hI110d : aI (fun k => ad (sD k)) 110 := hI.subw (σ := sD) (fun k hk => sD_lt k hk) (fun k _ => rfl) sD_inj
  have hI13 : aI (fun k => ad (110 + k)) 13 := hI.subw (σ := fun k => 110 + k) (fun k hk => by omega) (fun k _ => rfl) (fun i j _ _ e => by have e : 110 + i = 110 + j := e; omega)
  obtain ⟨so, en, rA, rC, rI, aA, aC, aH, aT, aP, hEc, hInv⟩ := hC
  subst hEc
  obtain ⟨du, mA, mC, mH, mG, mS, mI, mT, mP, hEm⟩ := hM
  subst hEm
  refine W.widen (k := cells + 8) (n := slots + 48) (by omega) (by omega) ?_
  refine lv_aload_n hx hb dL_law_860 rfl (lv_at hl 1 rfl) ?_
  refine y_ci (y_runV B hT hX hW hS (σ := fun k => k) (ad' := ad) (n9 := 109) (fun k hk => by omega) (fun k _ => rfl) (fun k hk => lE_c hk) (k := 0) (As := []) (rest := []) (fun sz => mt_paidMonths hI109 V T ag nP nH rN nf pn sp sk py pd so en rA rC rI aA aC aH aT aP rfl rfl rfl rfl rfl hInv (ad := ad) sz) (cwL_160 B.2.2.2.2.1 ⟨Nat.le_of_ble_eq_true rfl, Nat.le_of_ble_eq_true rfl⟩) (b_recv B hW (k := 0) (by omega) ((lE_c (k := 0) (by omega)).trans cE_0) rfl) rfl hl.1 (Nat.le_of_ble_eq_true rfl) dL_law_861 ⟨by show _ ≤ 603072; omega, by show _ ≤ 7194730; omega⟩) hI hW hS (fun k hk => by omega) (fun k _ => rfl) (fun E1 => lE cJ cF E1 (mE cI cZ (fun k => ad (110 + k)) th nP nH rN nf pn sp sk ag (RV V) (RV T) (FL pd) (FL py) du mA mC mH mG mS mI mT mP) o od) (fun E1 k hk => lE_c hk) (fun E1 j hj hno => lE_co hno) (fun r_1 Ec H locs hp hW hS => ?_)
  obtain ⟨hr1, hC⟩ := hp
  refine lv_aload_n hx hb dL_law_864 rfl (lv_at hl 2 rfl) ?_
  refine y_ci (y_runV B hT hX hW hS (σ := fun k => 110 + k) (ad' := fun k => ad (110 + k)) (n9 := 13) (fun k hk => by omega) (fun k _ => rfl) (fun k hk => lE_m hk) (k := 0) (As := []) (rest := [.int r_1]) (fun sz => mm_paidMonths hI13 th nP nH rN nf pn sp sk ag V T pd py du mA mC mH mG mS mI mT mP rfl rfl sz) (cwL_163 B.2.2.2.2.1 ⟨Nat.le_of_ble_eq_true rfl, Nat.le_of_ble_eq_true rfl⟩) (b_recv B hW (by omega) ((lE_m (k := 0) (by omega)).trans mE_0) rfl) rfl hl.1 (Nat.le_of_ble_eq_true rfl) dL_law_865 ⟨by show _ ≤ 603072; omega, by show _ ≤ 7194730; omega⟩) hI hW hS (fun k hk => by omega) (fun k _ => rfl) (fun E1 => lE cJ cF Ec E1 o od) (fun E1 k hk => lE_m hk) (fun E1 j hj hno => lE_out hno) (fun r_2 Em H locs hq hW hS => ?_)
  obtain ⟨hr2, hM⟩ := hq
  refine lv_icmp_eq (tgt := 2118) hx hb dL_law_868 (by decide) (fun c_868 => ?_) (fun c_868 => ?_)
  rotate_left
  · exact absurd (hr1.trans hr2.symm) c_868
  exact K _ _ _ _ _ _ _ _ _ _ _ _ _ _ _ _ _ _ _ _ hC hM hW hS (lv_sub hl [0, 1, 2, 3, 4, 5] rfl)
set_option maxHeartbeats 4000000 in
set_option maxRecDepth 100000 in
theorem lc_11 {p : Program} {l : Launch} {e : Env} {s : State} {m : MethodId} {args : Array Value} {below : List Frame} {meth : Method} {c : Code} {Q : State → Prop} {D : va_G} {ad : Nat → Nat} {cI cZ cH cP cT cJ cF : ClassId} {b L : Nat} {xs : Nat → Int32} (C : LC p l s m args c D ad cI cZ cH cP cT cJ cF b L xs) {t cells slots : Nat} (ht : 4 * t + 4 ≤ L) (hc : cells + 8 ≤ 603072) (hs : slots + 48 ≤ 7194730) (K : LK p l e s m args below meth c Q D ad cI cZ cH cP cT cJ cF b t (cells + 8) (slots + 48)) {V T : Nat → Nat → Int32} {ag : Nat → Int32} {nP nH rN : Nat} {nf pn : Int32} {sp sk : Int64} {py pd : Nat → Nat → Int32} {th : Int32} {Ec Em : Nat → va_E} {o : Nat → Int64} {od : Nat → UInt64} {H : Heap} {locs : List Loc} {ls : Array Slot} (hC : CW cI cZ cH cP cT ad V T ag nP nH rN nf pn sp sk py pd Ec) (hM : MW cI cZ (fun k => ad (110 + k)) th V T ag nP nH rN nf pn sp sk py pd Em) (hW : hH D ad 124 (lE cJ cF Ec Em o od) H) (hS : va_S (cA ad 124 s.heap.size) s.heap H locs) (hl : lv_has ls 9 [(0, .ref b), (1, .ref (ad 0)), (2, .ref (ad 110)), (3, .ref (ad 109)), (4, .ref (ad 123)), (5, .int (nI (4 * t)))]) : W p l e room_1 s m args below meth c H locs cells slots Q (F0 m 873 ls []) := by
  obtain ⟨B, ⟨hlf, hT, hN, hX, hI⟩, hXs, hbl, hbA, hL⟩ := C
  have hx := B.1
  have hb := B.2.1
  have hI109 : aI ad 109 := hI.subw (σ := fun k => k) (fun k hk => by omega) (fun k _ => rfl) (fun i j _ _ e => e)
  have hI110 : aI ad 110 := hI.subw (σ := fun k => k) (fun k hk => by omega) (fun k _ => rfl) (fun i j _ _ e => e)
  have hI110d : aI (fun k => ad (sD k)) 110 := hI.subw (σ := sD) (fun k hk => sD_lt k hk) (fun k _ => rfl) sD_inj
  have hI13 : aI (fun k => ad (110 + k)) 13 := hI.subw (σ := fun k => 110 + k) (fun k hk => by omega) (fun k _ => rfl) (fun i j _ _ e => by have e : 110 + i = 110 + j := e; omega)
  obtain ⟨so, en, rA, rC, rI, aA, aC, aH, aT, aP, hEc, hInv⟩ := hC
  subst hEc
  obtain ⟨du, mA, mC, mH, mG, mS, mI, mT, mP, hEm⟩ := hM
  subst hEm
  refine lv_aload_n hx hb dL_law_873 rfl (lv_at hl 1 rfl) ?_
  refine lv_aload_n hx hb dL_law_874 rfl (lv_at hl 0 rfl) ?_
  refine lv_iload hx hb dL_law_875 (lv_at hl 5 rfl) ?_
  refine lv_iconst (v := nI 1) hx hb dL_law_877 (by decide) ?_
  refine lv_iadd hx hb dL_law_878 ?_
  refine b_top (y := nI (4 * t + 1)) (nI_add _ _) ?_
  refine va_sld hx hb hXs hbl hbA hS (vp_in_nI (by omega) (by omega)) dL_law_879 ?_
  refine b_top (y := xs (4 * t + 1)) (by rw [nI_clamp (by omega)]) ?_
  refine lv_aload_n hx hb dL_law_880 rfl (lv_at hl 0 rfl) ?_
  refine lv_iload hx hb dL_law_881 (lv_at hl 5 rfl) ?_
  refine lv_iconst (v := nI 2) hx hb dL_law_883 (by decide) ?_
  refine lv_iadd hx hb dL_law_884 ?_
  refine b_top (y := nI (4 * t + 2)) (nI_add _ _) ?_
  refine va_sld hx hb hXs hbl hbA hS (vp_in_nI (by omega) (by omega)) dL_law_885 ?_
  refine b_top (y := xs (4 * t + 2)) (by rw [nI_clamp (by omega)]) ?_
  refine lv_aload_n hx hb dL_law_886 rfl (lv_at hl 3 rfl) ?_
  refine y_ci (y_runSW B hT hX hN hW hS (σ := fun k => k) (ad' := ad) (n9 := 110) (fun k hk => by omega) (fun k _ => rfl) (fun k hk => lE_h hk) (As := [.ref (ad 0), .int (xs (4 * t + 1)), .int (xs (4 * t + 2)), .ref (ad 109)]) (rest := []) (fun sz => lh_payment hlf hI110 o V T ag nP nH rN nf pn sp sk py pd so en rA rC rI aA aC aH aT aP ((xs (4 * t + 1))) ((xs (4 * t + 2))) rfl rfl rfl rfl rfl rfl rfl hInv (ad := ad) sz) (cwL_164 B.2.2.2.2.1 ⟨Nat.le_of_ble_eq_true rfl, Nat.le_of_ble_eq_true rfl⟩) rfl hl.1 (Nat.le_of_ble_eq_true rfl) dL_law_887 ⟨by show _ ≤ 603072; omega, by show _ ≤ 7194730; omega⟩) hI hW hS (fun k hk => by omega) (fun k _ => rfl) (fun E1 => gH cF E1 (mE cI cZ (fun k => ad (110 + k)) th nP nH rN nf pn sp sk ag (RV V) (RV T) (FL pd) (FL py) du mA mC mH mG mS mI mT mP) od) (fun E1 k hk => gH_in hk) (fun E1 j hj hno => gH_out hno) (fun r_1 E1 H locs hp hW hS => ?_)
  obtain ⟨hr_, Ec, o, hE_, hp⟩ := hp
  have hW : hH D ad 124 (lE cJ cF Ec (mE cI cZ (fun k => ad (110 + k)) th nP nH rN nf pn sp sk ag (RV V) (RV T) (FL pd) (FL py) du mA mC mH mG mS mI mT mP) o od) H := hW.eq (by rw [hE_, gH_eq])
  rw [← hr_] at hp
  refine lv_istore (lv' := [(6, .int r_1), (0, .ref b), (1, .ref (ad 0)), (2, .ref (ad 110)), (3, .ref (ad 109)), (4, .ref (ad 123)), (5, .int (nI (4 * t)))]) hx hb dL_law_890 hl (by decide) rfl (fun ls hl => ?_)
  refine lv_aload_n hx hb dL_law_892 rfl (lv_at hl 3 rfl) ?_
  refine lv_aload_n hx hb dL_law_893 rfl (lv_at hl 1 rfl) ?_
  refine lv_iload hx hb dL_law_894 (lv_at hl 6 rfl) ?_
  refine lv_iconst (v := nI 1) hx hb dL_law_896 (by decide) ?_
  refine lv_iadd hx hb dL_law_897 ?_
  refine b_top (y := nI (4 * t + 1)) (nI_add _ _) ?_
  refine va_sld hx hb hXs hbl hbA hS (vp_in_nI (by omega) (by omega)) dL_law_898 ?_
  refine b_top (y := xs (4 * t + 1)) (by rw [nI_clamp (by omega)]) ?_
  refine lv_aload_n hx hb dL_law_899 rfl (lv_at hl 1 rfl) ?_
  refine lv_iload hx hb dL_law_900 (lv_at hl 6 rfl) ?_
  refine lv_iconst (v := nI 2) hx hb dL_law_902 (by decide) ?_
  refine lv_iadd hx hb dL_law_903 ?_
  refine b_top (y := nI (4 * t + 2)) (nI_add _ _) ?_
  refine va_sld hx hb hXs hbl hbA hS (vp_in_nI (by omega) (by omega)) dL_law_904 ?_
  refine b_top (y := xs (4 * t + 2)) (by rw [nI_clamp (by omega)]) ?_
  refine y_ci (y_runV B hT hX hW hS (σ := fun k => 110 + k) (ad' := fun k => ad (110 + k)) (n9 := 13) (fun k hk => by omega) (fun k _ => rfl) (fun k hk => lE_m hk) (k := 0) (As := [.int (xs (4 * t + 1)), .int (xs (4 * t + 2))]) (rest := []) (fun sz => mm_payment hI13 th nP nH rN nf pn sp sk ag V T pd py du mA mC mH mG mS mI mT mP ((xs (4 * t + 1))) ((xs (4 * t + 2))) so rfl rfl hInv sz) (cwL_166 B.2.2.2.2.1 ⟨Nat.le_of_ble_eq_true rfl, Nat.le_of_ble_eq_true rfl⟩) (b_recv B hW (by omega) ((lE_m (k := 0) (by omega)).trans mE_0) rfl) rfl hl.1 (Nat.le_of_ble_eq_true rfl) dL_law_905 ⟨by show _ ≤ 603072; omega, by show _ ≤ 7194730; omega⟩) hI hW hS (fun k hk => by omega) (fun k _ => rfl) (fun E1 => lE cJ cF Ec E1 o od) (fun E1 k hk => lE_m hk) (fun E1 j hj hno => lE_out hno) (fun r_2 Em H locs hq hW hS => ?_)
  rw [← hr_] at hq
  by_cases hK : r_1 = 0
  · skip
    have hp := hp.resolve_right (fun q => q.1 hK)
    obtain ⟨-, ho, hC⟩ := hp
    obtain ⟨hr2, hM⟩ := hq
    have hr2 := hr2 hK
    refine lv_istore (lv' := [(7, .int r_2), (6, .int r_1), (0, .ref b), (1, .ref (ad 0)), (2, .ref (ad 110)), (3, .ref (ad 109)), (4, .ref (ad 123)), (5, .int (nI (4 * t)))]) hx hb dL_law_908 hl (by decide) rfl (fun ls hl => ?_)
    refine lv_aload_n hx hb dL_law_910 rfl (lv_at hl 4 rfl) ?_
    obtain ⟨du, mA, mC, mH, mG, mS, mI, mT, mP, hEm⟩ := id hM
    subst hEm
    refine y_ci (y_runV B hT hX hW hS (σ := fun k => 110 + k) (ad' := fun k => ad (110 + k)) (n9 := 13) (fun k hk => by omega) (fun k _ => rfl) (fun k hk => lE_m hk) (k := 0) (As := []) (rest := []) (fun sz => mm_thrown hI13 _ _ _ _ _ _ _ _ _ _ _ _ _ _ _ _ _ _ _ _ _ _ rfl rfl sz) (cwL_125 B.2.2.2.2.1 ⟨Nat.le_of_ble_eq_true rfl, Nat.le_of_ble_eq_true rfl⟩) (b_recv B hW (by omega) ((lE_m (k := 0) (by omega)).trans mE_0) rfl) rfl hl.1 (Nat.le_of_ble_eq_true rfl) dL_law_911 ⟨by show _ ≤ 603072; omega, by show _ ≤ 7194730; omega⟩) hI hW hS (fun k hk => by omega) (fun k _ => rfl) (fun E1 => lE cJ cF Ec E1 o od) (fun E1 k hk => lE_m hk) (fun E1 j hj hno => lE_out hno) (fun r_3 Em H locs hq hW hS => ?_)
    obtain ⟨hr3, hE_⟩ := hq
    rw [hE_] at hW
    refine lv_iload hx hb dL_law_914 (lv_at hl 1 rfl) ?_
    refine lv_icmp_eq (tgt := 921) hx hb dL_law_916 (by decide) (fun c_916 => ?_) (fun c_916 => ?_)
    rotate_left
    · exact absurd hr3 c_916
    refine lv_iload hx hb dL_law_921 (lv_at hl 1 rfl) ?_
    refine lv_if_ne (tgt := 938) hx hb dL_law_923 (by decide) (fun c_923 => ?_) (fun c_923 => ?_)
    · exact absurd hK c_923
    refine lv_aload_n hx hb dL_law_926 rfl (lv_at hl 5 rfl) ?_
    refine lv_iconst (v := nI 0) hx hb dL_law_927 (by decide) ?_
    refine b_lald B hW rfl (j := 0) (by omega) lE_109 (vp_in_nI (by omega) (by omega)) rfl dL_law_928 ?_
    refine lv_iload hx hb dL_law_929 (lv_at hl 0 rfl) ?_
    refine lv_i2l hx hb dL_law_931 rfl ?_
    refine b_lcmp hx hb dL_law_932 ?_
    refine lv_if_eq (tgt := 938) hx hb dL_law_933 (by decide) (fun c_933 => ?_) (fun c_933 => ?_)
    rotate_left
    · exact absurd (lcm_0.mpr (by rw [ho, hr2])) c_933
    refine lv_goto (tgt := 2118) hx hb dL_law_938 (by decide) ?_
    exact K _ _ _ _ _ _ _ _ _ _ _ _ _ _ _ _ _ _ _ _ hC hM hW hS (lv_sub hl [2, 3, 4, 5, 6, 7] rfl)
  · skip
    have hp := hp.resolve_left (fun q => hK q.1)
    obtain ⟨-, hC⟩ := hp
    obtain ⟨-, hM⟩ := hq
    refine lv_istore (lv' := [(7, .int r_2), (6, .int r_1), (0, .ref b), (1, .ref (ad 0)), (2, .ref (ad 110)), (3, .ref (ad 109)), (4, .ref (ad 123)), (5, .int (nI (4 * t)))]) hx hb dL_law_908 hl (by decide) rfl (fun ls hl => ?_)
    refine lv_aload_n hx hb dL_law_910 rfl (lv_at hl 4 rfl) ?_
    obtain ⟨du, mA, mC, mH, mG, mS, mI, mT, mP, hEm⟩ := id hM
    subst hEm
    refine y_ci (y_runV B hT hX hW hS (σ := fun k => 110 + k) (ad' := fun k => ad (110 + k)) (n9 := 13) (fun k hk => by omega) (fun k _ => rfl) (fun k hk => lE_m hk) (k := 0) (As := []) (rest := []) (fun sz => mm_thrown hI13 _ _ _ _ _ _ _ _ _ _ _ _ _ _ _ _ _ _ _ _ _ _ rfl rfl sz) (cwL_125 B.2.2.2.2.1 ⟨Nat.le_of_ble_eq_true rfl, Nat.le_of_ble_eq_true rfl⟩) (b_recv B hW (by omega) ((lE_m (k := 0) (by omega)).trans mE_0) rfl) rfl hl.1 (Nat.le_of_ble_eq_true rfl) dL_law_911 ⟨by show _ ≤ 603072; omega, by show _ ≤ 7194730; omega⟩) hI hW hS (fun k hk => by omega) (fun k _ => rfl) (fun E1 => lE cJ cF Ec E1 o od) (fun E1 k hk => lE_m hk) (fun E1 j hj hno => lE_out hno) (fun r_3 Em H locs hq hW hS => ?_)
    obtain ⟨hr3, hE_⟩ := hq
    rw [hE_] at hW
    refine lv_iload hx hb dL_law_914 (lv_at hl 1 rfl) ?_
    refine lv_icmp_eq (tgt := 921) hx hb dL_law_916 (by decide) (fun c_916 => ?_) (fun c_916 => ?_)
    rotate_left
    · exact absurd hr3 c_916
    refine lv_iload hx hb dL_law_921 (lv_at hl 1 rfl) ?_
    refine lv_if_ne (tgt := 938) hx hb dL_law_923 (by decide) (fun c_923 => ?_) (fun c_923 => ?_)
    rotate_left
    · exact absurd c_923 hK
    refine lv_goto (tgt := 2118) hx hb dL_law_938 (by decide) ?_
    exact K _ _ _ _ _ _ _ _ _ _ _ _ _ _ _ _ _ _ _ _ hC hM hW hS (lv_sub hl [2, 3, 4, 5, 6, 7] rfl)
set_option maxHeartbeats 4000000 in
set_option maxRecDepth 100000 in
theorem lc_12 {p : Program} {l : Launch} {e : Env} {s : State} {m : MethodId} {args : Array Value} {below : List Frame} {meth : Method} {c : Code} {Q : State → Prop} {D : va_G} {ad : Nat → Nat} {cI cZ cH cP cT cJ cF : ClassId} {b L : Nat} {xs : Nat → Int32} (C : LC p l s m args c D ad cI cZ cH cP cT cJ cF b L xs) {t cells slots : Nat} (ht : 4 * t + 4 ≤ L) (hc : cells + 8 ≤ 603072) (hs : slots + 48 ≤ 7194730) (K : LK p l e s m args below meth c Q D ad cI cZ cH cP cT cJ cF b t (cells + 8) (slots + 48)) {V T : Nat → Nat → Int32} {ag : Nat → Int32} {nP nH rN : Nat} {nf pn : Int32} {sp sk : Int64} {py pd : Nat → Nat → Int32} {th : Int32} {Ec Em : Nat → va_E} {o : Nat → Int64} {od : Nat → UInt64} {H : Heap} {locs : List Loc} {ls : Array Slot} (hC : CW cI cZ cH cP cT ad V T ag nP nH rN nf pn sp sk py pd Ec) (hM : MW cI cZ (fun k => ad (110 + k)) th V T ag nP nH rN nf pn sp sk py pd Em) (hW : hH D ad 124 (lE cJ cF Ec Em o od) H) (hS : va_S (cA ad 124 s.heap.size) s.heap H locs) (hl : lv_has ls 9 [(0, .ref b), (1, .ref (ad 0)), (2, .ref (ad 110)), (3, .ref (ad 109)), (4, .ref (ad 123)), (5, .int (nI (4 * t)))]) : W p l e room_1 s m args below meth c H locs cells slots Q (F0 m 941 ls []) := by
  obtain ⟨B, ⟨hlf, hT, hN, hX, hI⟩, hXs, hbl, hbA, hL⟩ := C
  have hx := B.1
  have hb := B.2.1
  have hI109 : aI ad 109 := hI.subw (σ := fun k => k) (fun k hk => by omega) (fun k _ => rfl) (fun i j _ _ e => e)
  have hI110 : aI ad 110 := hI.subw (σ := fun k => k) (fun k hk => by omega) (fun k _ => rfl) (fun i j _ _ e => e)
  have hI110d : aI (fun k => ad (sD k)) 110 := hI.subw (σ := sD) (fun k hk => sD_lt k hk) (fun k _ => rfl) sD_inj
  have hI13 : aI (fun k => ad (110 + k)) 13 := hI.subw (σ := fun k => 110 + k) (fun k hk => by omega) (fun k _ => rfl) (fun i j _ _ e => by have e : 110 + i = 110 + j := e; omega)
  obtain ⟨so, en, rA, rC, rI, aA, aC, aH, aT, aP, hEc, hInv⟩ := hC
  subst hEc
  obtain ⟨du, mA, mC, mH, mG, mS, mI, mT, mP, hEm⟩ := hM
  subst hEm
  refine lv_aload_n hx hb dL_law_941 rfl (lv_at hl 1 rfl) ?_
  refine lv_aload_n hx hb dL_law_942 rfl (lv_at hl 0 rfl) ?_
  refine lv_iload hx hb dL_law_943 (lv_at hl 5 rfl) ?_
  refine lv_iconst (v := nI 1) hx hb dL_law_945 (by decide) ?_
  refine lv_iadd hx hb dL_law_946 ?_
  refine b_top (y := nI (4 * t + 1)) (nI_add _ _) ?_
  refine va_sld hx hb hXs hbl hbA hS (vp_in_nI (by omega) (by omega)) dL_law_947 ?_
  refine b_top (y := xs (4 * t + 1)) (by rw [nI_clamp (by omega)]) ?_
  refine lv_aload_n hx hb dL_law_948 rfl (lv_at hl 0 rfl) ?_
  refine lv_iload hx hb dL_law_949 (lv_at hl 5 rfl) ?_
  refine lv_iconst (v := nI 2) hx hb dL_law_951 (by decide) ?_
  refine lv_iadd hx hb dL_law_952 ?_
  refine b_top (y := nI (4 * t + 2)) (nI_add _ _) ?_
  refine va_sld hx hb hXs hbl hbA hS (vp_in_nI (by omega) (by omega)) dL_law_953 ?_
  refine b_top (y := xs (4 * t + 2)) (by rw [nI_clamp (by omega)]) ?_
  refine lv_aload_n hx hb dL_law_954 rfl (lv_at hl 3 rfl) ?_
  refine y_ci (y_runSW B hT hX hN hW hS (σ := fun k => k) (ad' := ad) (n9 := 110) (fun k hk => by omega) (fun k _ => rfl) (fun k hk => lE_h hk) (As := [.ref (ad 0), .int (xs (4 * t + 1)), .int (xs (4 * t + 2)), .ref (ad 109)]) (rest := []) (fun sz => lh_paidFor hlf hI110 o V T ag nP nH rN nf pn sp sk py pd so en rA rC rI aA aC aH aT aP ((xs (4 * t + 1))) ((xs (4 * t + 2))) rfl rfl rfl rfl rfl rfl rfl hInv (ad := ad) sz) (cwL_167 B.2.2.2.2.1 ⟨Nat.le_of_ble_eq_true rfl, Nat.le_of_ble_eq_true rfl⟩) rfl hl.1 (Nat.le_of_ble_eq_true rfl) dL_law_955 ⟨by show _ ≤ 603072; omega, by show _ ≤ 7194730; omega⟩) hI hW hS (fun k hk => by omega) (fun k _ => rfl) (fun E1 => gH cF E1 (mE cI cZ (fun k => ad (110 + k)) th nP nH rN nf pn sp sk ag (RV V) (RV T) (FL pd) (FL py) du mA mC mH mG mS mI mT mP) od) (fun E1 k hk => gH_in hk) (fun E1 j hj hno => gH_out hno) (fun r_1 E1 H locs hp hW hS => ?_)
  obtain ⟨hr_, Ec, o, hE_, hp⟩ := hp
  have hW : hH D ad 124 (lE cJ cF Ec (mE cI cZ (fun k => ad (110 + k)) th nP nH rN nf pn sp sk ag (RV V) (RV T) (FL pd) (FL py) du mA mC mH mG mS mI mT mP) o od) H := hW.eq (by rw [hE_, gH_eq])
  rw [← hr_] at hp
  refine lv_istore (lv' := [(6, .int r_1), (0, .ref b), (1, .ref (ad 0)), (2, .ref (ad 110)), (3, .ref (ad 109)), (4, .ref (ad 123)), (5, .int (nI (4 * t)))]) hx hb dL_law_958 hl (by decide) rfl (fun ls hl => ?_)
  refine lv_aload_n hx hb dL_law_960 rfl (lv_at hl 3 rfl) ?_
  refine lv_aload_n hx hb dL_law_961 rfl (lv_at hl 1 rfl) ?_
  refine lv_iload hx hb dL_law_962 (lv_at hl 6 rfl) ?_
  refine lv_iconst (v := nI 1) hx hb dL_law_964 (by decide) ?_
  refine lv_iadd hx hb dL_law_965 ?_
  refine b_top (y := nI (4 * t + 1)) (nI_add _ _) ?_
  refine va_sld hx hb hXs hbl hbA hS (vp_in_nI (by omega) (by omega)) dL_law_966 ?_
  refine b_top (y := xs (4 * t + 1)) (by rw [nI_clamp (by omega)]) ?_
  refine lv_aload_n hx hb dL_law_967 rfl (lv_at hl 1 rfl) ?_
  refine lv_iload hx hb dL_law_968 (lv_at hl 6 rfl) ?_
  refine lv_iconst (v := nI 2) hx hb dL_law_970 (by decide) ?_
  refine lv_iadd hx hb dL_law_971 ?_
  refine b_top (y := nI (4 * t + 2)) (nI_add _ _) ?_
  refine va_sld hx hb hXs hbl hbA hS (vp_in_nI (by omega) (by omega)) dL_law_972 ?_
  refine b_top (y := xs (4 * t + 2)) (by rw [nI_clamp (by omega)]) ?_
  refine y_ci (y_runV B hT hX hW hS (σ := fun k => 110 + k) (ad' := fun k => ad (110 + k)) (n9 := 13) (fun k hk => by omega) (fun k _ => rfl) (fun k hk => lE_m hk) (k := 0) (As := [.int (xs (4 * t + 1)), .int (xs (4 * t + 2))]) (rest := []) (fun sz => mm_paidFor hI13 th nP nH rN nf pn sp sk ag V T pd py du mA mC mH mG mS mI mT mP ((xs (4 * t + 1))) ((xs (4 * t + 2))) so rfl rfl hInv sz) (cwL_169 B.2.2.2.2.1 ⟨Nat.le_of_ble_eq_true rfl, Nat.le_of_ble_eq_true rfl⟩) (b_recv B hW (by omega) ((lE_m (k := 0) (by omega)).trans mE_0) rfl) rfl hl.1 (Nat.le_of_ble_eq_true rfl) dL_law_973 ⟨by show _ ≤ 603072; omega, by show _ ≤ 7194730; omega⟩) hI hW hS (fun k hk => by omega) (fun k _ => rfl) (fun E1 => lE cJ cF Ec E1 o od) (fun E1 k hk => lE_m hk) (fun E1 j hj hno => lE_out hno) (fun r_2 Em H locs hq hW hS => ?_)
  rw [← hr_] at hq
  by_cases hK : r_1 = 0
  · skip
    have hp := hp.resolve_right (fun q => q.1 hK)
    obtain ⟨-, ho, hC⟩ := hp
    obtain ⟨hr2, hM⟩ := hq
    have hr2 := hr2 hK
    refine lv_istore (lv' := [(7, .int r_2), (6, .int r_1), (0, .ref b), (1, .ref (ad 0)), (2, .ref (ad 110)), (3, .ref (ad 109)), (4, .ref (ad 123)), (5, .int (nI (4 * t)))]) hx hb dL_law_976 hl (by decide) rfl (fun ls hl => ?_)
    refine lv_aload_n hx hb dL_law_978 rfl (lv_at hl 4 rfl) ?_
    obtain ⟨du, mA, mC, mH, mG, mS, mI, mT, mP, hEm⟩ := id hM
    subst hEm
    refine y_ci (y_runV B hT hX hW hS (σ := fun k => 110 + k) (ad' := fun k => ad (110 + k)) (n9 := 13) (fun k hk => by omega) (fun k _ => rfl) (fun k hk => lE_m hk) (k := 0) (As := []) (rest := []) (fun sz => mm_thrown hI13 _ _ _ _ _ _ _ _ _ _ _ _ _ _ _ _ _ _ _ _ _ _ rfl rfl sz) (cwL_125 B.2.2.2.2.1 ⟨Nat.le_of_ble_eq_true rfl, Nat.le_of_ble_eq_true rfl⟩) (b_recv B hW (by omega) ((lE_m (k := 0) (by omega)).trans mE_0) rfl) rfl hl.1 (Nat.le_of_ble_eq_true rfl) dL_law_979 ⟨by show _ ≤ 603072; omega, by show _ ≤ 7194730; omega⟩) hI hW hS (fun k hk => by omega) (fun k _ => rfl) (fun E1 => lE cJ cF Ec E1 o od) (fun E1 k hk => lE_m hk) (fun E1 j hj hno => lE_out hno) (fun r_3 Em H locs hq hW hS => ?_)
    obtain ⟨hr3, hE_⟩ := hq
    rw [hE_] at hW
    refine lv_iload hx hb dL_law_982 (lv_at hl 1 rfl) ?_
    refine lv_icmp_eq (tgt := 989) hx hb dL_law_984 (by decide) (fun c_984 => ?_) (fun c_984 => ?_)
    rotate_left
    · exact absurd hr3 c_984
    refine lv_iload hx hb dL_law_989 (lv_at hl 1 rfl) ?_
    refine lv_if_ne (tgt := 1006) hx hb dL_law_991 (by decide) (fun c_991 => ?_) (fun c_991 => ?_)
    · exact absurd hK c_991
    refine lv_aload_n hx hb dL_law_994 rfl (lv_at hl 5 rfl) ?_
    refine lv_iconst (v := nI 0) hx hb dL_law_995 (by decide) ?_
    refine b_lald B hW rfl (j := 0) (by omega) lE_109 (vp_in_nI (by omega) (by omega)) rfl dL_law_996 ?_
    refine lv_iload hx hb dL_law_997 (lv_at hl 0 rfl) ?_
    refine lv_i2l hx hb dL_law_999 rfl ?_
    refine b_lcmp hx hb dL_law_1000 ?_
    refine lv_if_eq (tgt := 1006) hx hb dL_law_1001 (by decide) (fun c_1001 => ?_) (fun c_1001 => ?_)
    rotate_left
    · exact absurd (lcm_0.mpr (by rw [ho, hr2])) c_1001
    refine lv_goto (tgt := 2118) hx hb dL_law_1006 (by decide) ?_
    exact K _ _ _ _ _ _ _ _ _ _ _ _ _ _ _ _ _ _ _ _ hC hM hW hS (lv_sub hl [2, 3, 4, 5, 6, 7] rfl)
  · skip
    have hp := hp.resolve_left (fun q => hK q.1)
    obtain ⟨-, hC⟩ := hp
    obtain ⟨-, hM⟩ := hq
    refine lv_istore (lv' := [(7, .int r_2), (6, .int r_1), (0, .ref b), (1, .ref (ad 0)), (2, .ref (ad 110)), (3, .ref (ad 109)), (4, .ref (ad 123)), (5, .int (nI (4 * t)))]) hx hb dL_law_976 hl (by decide) rfl (fun ls hl => ?_)
    refine lv_aload_n hx hb dL_law_978 rfl (lv_at hl 4 rfl) ?_
    obtain ⟨du, mA, mC, mH, mG, mS, mI, mT, mP, hEm⟩ := id hM
    subst hEm
    refine y_ci (y_runV B hT hX hW hS (σ := fun k => 110 + k) (ad' := fun k => ad (110 + k)) (n9 := 13) (fun k hk => by omega) (fun k _ => rfl) (fun k hk => lE_m hk) (k := 0) (As := []) (rest := []) (fun sz => mm_thrown hI13 _ _ _ _ _ _ _ _ _ _ _ _ _ _ _ _ _ _ _ _ _ _ rfl rfl sz) (cwL_125 B.2.2.2.2.1 ⟨Nat.le_of_ble_eq_true rfl, Nat.le_of_ble_eq_true rfl⟩) (b_recv B hW (by omega) ((lE_m (k := 0) (by omega)).trans mE_0) rfl) rfl hl.1 (Nat.le_of_ble_eq_true rfl) dL_law_979 ⟨by show _ ≤ 603072; omega, by show _ ≤ 7194730; omega⟩) hI hW hS (fun k hk => by omega) (fun k _ => rfl) (fun E1 => lE cJ cF Ec E1 o od) (fun E1 k hk => lE_m hk) (fun E1 j hj hno => lE_out hno) (fun r_3 Em H locs hq hW hS => ?_)
    obtain ⟨hr3, hE_⟩ := hq
    rw [hE_] at hW
    refine lv_iload hx hb dL_law_982 (lv_at hl 1 rfl) ?_
    refine lv_icmp_eq (tgt := 989) hx hb dL_law_984 (by decide) (fun c_984 => ?_) (fun c_984 => ?_)
    rotate_left
    · exact absurd hr3 c_984
    refine lv_iload hx hb dL_law_989 (lv_at hl 1 rfl) ?_
    refine lv_if_ne (tgt := 1006) hx hb dL_law_991 (by decide) (fun c_991 => ?_) (fun c_991 => ?_)
    rotate_left
    · exact absurd c_991 hK
    refine lv_goto (tgt := 2118) hx hb dL_law_1006 (by decide) ?_
    exact K _ _ _ _ _ _ _ _ _ _ _ _ _ _ _ _ _ _ _ _ hC hM hW hS (lv_sub hl [2, 3, 4, 5, 6, 7] rfl)
set_option maxHeartbeats 4000000 in
set_option maxRecDepth 100000 in
theorem lc_13 {p : Program} {l : Launch} {e : Env} {s : State} {m : MethodId} {args : Array Value} {below : List Frame} {meth : Method} {c : Code} {Q : State → Prop} {D : va_G} {ad : Nat → Nat} {cI cZ cH cP cT cJ cF : ClassId} {b L : Nat} {xs : Nat → Int32} (C : LC p l s m args c D ad cI cZ cH cP cT cJ cF b L xs) {t cells slots : Nat} (ht : 4 * t + 4 ≤ L) (hc : cells + 8 ≤ 603072) (hs : slots + 48 ≤ 7194730) (K : LK p l e s m args below meth c Q D ad cI cZ cH cP cT cJ cF b t (cells + 8) (slots + 48)) {V T : Nat → Nat → Int32} {ag : Nat → Int32} {nP nH rN : Nat} {nf pn : Int32} {sp sk : Int64} {py pd : Nat → Nat → Int32} {th : Int32} {Ec Em : Nat → va_E} {o : Nat → Int64} {od : Nat → UInt64} {H : Heap} {locs : List Loc} {ls : Array Slot} (hC : CW cI cZ cH cP cT ad V T ag nP nH rN nf pn sp sk py pd Ec) (hM : MW cI cZ (fun k => ad (110 + k)) th V T ag nP nH rN nf pn sp sk py pd Em) (hW : hH D ad 124 (lE cJ cF Ec Em o od) H) (hS : va_S (cA ad 124 s.heap.size) s.heap H locs) (hl : lv_has ls 9 [(0, .ref b), (1, .ref (ad 0)), (2, .ref (ad 110)), (3, .ref (ad 109)), (4, .ref (ad 123)), (5, .int (nI (4 * t)))]) : W p l e room_1 s m args below meth c H locs cells slots Q (F0 m 1009 ls []) := by
  obtain ⟨B, ⟨hlf, hT, hN, hX, hI⟩, hXs, hbl, hbA, hL⟩ := C
  have hx := B.1
  have hb := B.2.1
  have hI109 : aI ad 109 := hI.subw (σ := fun k => k) (fun k hk => by omega) (fun k _ => rfl) (fun i j _ _ e => e)
  have hI110 : aI ad 110 := hI.subw (σ := fun k => k) (fun k hk => by omega) (fun k _ => rfl) (fun i j _ _ e => e)
  have hI110d : aI (fun k => ad (sD k)) 110 := hI.subw (σ := sD) (fun k hk => sD_lt k hk) (fun k _ => rfl) sD_inj
  have hI13 : aI (fun k => ad (110 + k)) 13 := hI.subw (σ := fun k => 110 + k) (fun k hk => by omega) (fun k _ => rfl) (fun i j _ _ e => by have e : 110 + i = 110 + j := e; omega)
  obtain ⟨so, en, rA, rC, rI, aA, aC, aH, aT, aP, hEc, hInv⟩ := hC
  subst hEc
  obtain ⟨du, mA, mC, mH, mG, mS, mI, mT, mP, hEm⟩ := hM
  subst hEm
  refine lv_aload_n hx hb dL_law_1009 rfl (lv_at hl 1 rfl) ?_
  refine lv_aload_n hx hb dL_law_1010 rfl (lv_at hl 0 rfl) ?_
  refine lv_iload hx hb dL_law_1011 (lv_at hl 5 rfl) ?_
  refine lv_iconst (v := nI 1) hx hb dL_law_1013 (by decide) ?_
  refine lv_iadd hx hb dL_law_1014 ?_
  refine b_top (y := nI (4 * t + 1)) (nI_add _ _) ?_
  refine va_sld hx hb hXs hbl hbA hS (vp_in_nI (by omega) (by omega)) dL_law_1015 ?_
  refine b_top (y := xs (4 * t + 1)) (by rw [nI_clamp (by omega)]) ?_
  refine lv_aload_n hx hb dL_law_1016 rfl (lv_at hl 3 rfl) ?_
  refine y_ci (y_runSW B hT hX hN hW hS (σ := fun k => k) (ad' := ad) (n9 := 110) (fun k hk => by omega) (fun k _ => rfl) (fun k hk => lE_h hk) (As := [.ref (ad 0), .int (xs (4 * t + 1)), .ref (ad 109)]) (rest := []) (fun sz => lh_balance hlf hI110 o V T ag nP nH rN nf pn sp sk py pd so en rA rC rI aA aC aH aT aP ((xs (4 * t + 1))) rfl rfl rfl rfl rfl rfl rfl hInv (ad := ad) sz) (cwL_170 B.2.2.2.2.1 ⟨Nat.le_of_ble_eq_true rfl, Nat.le_of_ble_eq_true rfl⟩) rfl hl.1 (Nat.le_of_ble_eq_true rfl) dL_law_1017 ⟨by show _ ≤ 603072; omega, by show _ ≤ 7194730; omega⟩) hI hW hS (fun k hk => by omega) (fun k _ => rfl) (fun E1 => gH cF E1 (mE cI cZ (fun k => ad (110 + k)) th nP nH rN nf pn sp sk ag (RV V) (RV T) (FL pd) (FL py) du mA mC mH mG mS mI mT mP) od) (fun E1 k hk => gH_in hk) (fun E1 j hj hno => gH_out hno) (fun r_1 E1 H locs hp hW hS => ?_)
  obtain ⟨hr_, Ec, o, hE_, hp⟩ := hp
  have hW : hH D ad 124 (lE cJ cF Ec (mE cI cZ (fun k => ad (110 + k)) th nP nH rN nf pn sp sk ag (RV V) (RV T) (FL pd) (FL py) du mA mC mH mG mS mI mT mP) o od) H := hW.eq (by rw [hE_, gH_eq])
  rw [← hr_] at hp
  refine lv_istore (lv' := [(6, .int r_1), (0, .ref b), (1, .ref (ad 0)), (2, .ref (ad 110)), (3, .ref (ad 109)), (4, .ref (ad 123)), (5, .int (nI (4 * t)))]) hx hb dL_law_1020 hl (by decide) rfl (fun ls hl => ?_)
  refine lv_aload_n hx hb dL_law_1022 rfl (lv_at hl 3 rfl) ?_
  refine lv_aload_n hx hb dL_law_1023 rfl (lv_at hl 1 rfl) ?_
  refine lv_iload hx hb dL_law_1024 (lv_at hl 6 rfl) ?_
  refine lv_iconst (v := nI 1) hx hb dL_law_1026 (by decide) ?_
  refine lv_iadd hx hb dL_law_1027 ?_
  refine b_top (y := nI (4 * t + 1)) (nI_add _ _) ?_
  refine va_sld hx hb hXs hbl hbA hS (vp_in_nI (by omega) (by omega)) dL_law_1028 ?_
  refine b_top (y := xs (4 * t + 1)) (by rw [nI_clamp (by omega)]) ?_
  refine y_ci (y_runV B hT hX hW hS (σ := fun k => 110 + k) (ad' := fun k => ad (110 + k)) (n9 := 13) (fun k hk => by omega) (fun k _ => rfl) (fun k hk => lE_m hk) (k := 0) (As := [.int (xs (4 * t + 1))]) (rest := []) (fun sz => mm_balance hI13 th nP nH rN nf pn sp sk ag V T pd py du mA mC mH mG mS mI mT mP ((xs (4 * t + 1))) so rfl rfl hInv sz) (cwL_172 B.2.2.2.2.1 ⟨Nat.le_of_ble_eq_true rfl, Nat.le_of_ble_eq_true rfl⟩) (b_recv B hW (by omega) ((lE_m (k := 0) (by omega)).trans mE_0) rfl) rfl hl.1 (Nat.le_of_ble_eq_true rfl) dL_law_1029 ⟨by show _ ≤ 603072; omega, by show _ ≤ 7194730; omega⟩) hI hW hS (fun k hk => by omega) (fun k _ => rfl) (fun E1 => lE cJ cF Ec E1 o od) (fun E1 k hk => lE_m hk) (fun E1 j hj hno => lE_out hno) (fun r_2 Em H locs hq hW hS => ?_)
  rw [← hr_] at hq
  by_cases hK : r_1 = 0
  · skip
    have hp := hp.resolve_right (fun q => q.1 hK)
    obtain ⟨-, ho, hC⟩ := hp
    obtain ⟨hr2, hM⟩ := hq
    have hr2 := hr2 hK
    refine lv_istore (lv' := [(7, .int r_2), (6, .int r_1), (0, .ref b), (1, .ref (ad 0)), (2, .ref (ad 110)), (3, .ref (ad 109)), (4, .ref (ad 123)), (5, .int (nI (4 * t)))]) hx hb dL_law_1032 hl (by decide) rfl (fun ls hl => ?_)
    refine lv_aload_n hx hb dL_law_1034 rfl (lv_at hl 4 rfl) ?_
    obtain ⟨du, mA, mC, mH, mG, mS, mI, mT, mP, hEm⟩ := id hM
    subst hEm
    refine y_ci (y_runV B hT hX hW hS (σ := fun k => 110 + k) (ad' := fun k => ad (110 + k)) (n9 := 13) (fun k hk => by omega) (fun k _ => rfl) (fun k hk => lE_m hk) (k := 0) (As := []) (rest := []) (fun sz => mm_thrown hI13 _ _ _ _ _ _ _ _ _ _ _ _ _ _ _ _ _ _ _ _ _ _ rfl rfl sz) (cwL_125 B.2.2.2.2.1 ⟨Nat.le_of_ble_eq_true rfl, Nat.le_of_ble_eq_true rfl⟩) (b_recv B hW (by omega) ((lE_m (k := 0) (by omega)).trans mE_0) rfl) rfl hl.1 (Nat.le_of_ble_eq_true rfl) dL_law_1035 ⟨by show _ ≤ 603072; omega, by show _ ≤ 7194730; omega⟩) hI hW hS (fun k hk => by omega) (fun k _ => rfl) (fun E1 => lE cJ cF Ec E1 o od) (fun E1 k hk => lE_m hk) (fun E1 j hj hno => lE_out hno) (fun r_3 Em H locs hq hW hS => ?_)
    obtain ⟨hr3, hE_⟩ := hq
    rw [hE_] at hW
    refine lv_iload hx hb dL_law_1038 (lv_at hl 1 rfl) ?_
    refine lv_icmp_eq (tgt := 1045) hx hb dL_law_1040 (by decide) (fun c_1040 => ?_) (fun c_1040 => ?_)
    rotate_left
    · exact absurd hr3 c_1040
    refine lv_iload hx hb dL_law_1045 (lv_at hl 1 rfl) ?_
    refine lv_if_ne (tgt := 1062) hx hb dL_law_1047 (by decide) (fun c_1047 => ?_) (fun c_1047 => ?_)
    · exact absurd hK c_1047
    refine lv_aload_n hx hb dL_law_1050 rfl (lv_at hl 5 rfl) ?_
    refine lv_iconst (v := nI 0) hx hb dL_law_1051 (by decide) ?_
    refine b_lald B hW rfl (j := 0) (by omega) lE_109 (vp_in_nI (by omega) (by omega)) rfl dL_law_1052 ?_
    refine lv_iload hx hb dL_law_1053 (lv_at hl 0 rfl) ?_
    refine lv_i2l hx hb dL_law_1055 rfl ?_
    refine b_lcmp hx hb dL_law_1056 ?_
    refine lv_if_eq (tgt := 1062) hx hb dL_law_1057 (by decide) (fun c_1057 => ?_) (fun c_1057 => ?_)
    rotate_left
    · exact absurd (lcm_0.mpr (by rw [ho, hr2])) c_1057
    refine lv_goto (tgt := 2118) hx hb dL_law_1062 (by decide) ?_
    exact K _ _ _ _ _ _ _ _ _ _ _ _ _ _ _ _ _ _ _ _ hC hM hW hS (lv_sub hl [2, 3, 4, 5, 6, 7] rfl)
  · skip
    have hp := hp.resolve_left (fun q => hK q.1)
    obtain ⟨-, hC⟩ := hp
    obtain ⟨-, hM⟩ := hq
    refine lv_istore (lv' := [(7, .int r_2), (6, .int r_1), (0, .ref b), (1, .ref (ad 0)), (2, .ref (ad 110)), (3, .ref (ad 109)), (4, .ref (ad 123)), (5, .int (nI (4 * t)))]) hx hb dL_law_1032 hl (by decide) rfl (fun ls hl => ?_)
    refine lv_aload_n hx hb dL_law_1034 rfl (lv_at hl 4 rfl) ?_
    obtain ⟨du, mA, mC, mH, mG, mS, mI, mT, mP, hEm⟩ := id hM
    subst hEm
    refine y_ci (y_runV B hT hX hW hS (σ := fun k => 110 + k) (ad' := fun k => ad (110 + k)) (n9 := 13) (fun k hk => by omega) (fun k _ => rfl) (fun k hk => lE_m hk) (k := 0) (As := []) (rest := []) (fun sz => mm_thrown hI13 _ _ _ _ _ _ _ _ _ _ _ _ _ _ _ _ _ _ _ _ _ _ rfl rfl sz) (cwL_125 B.2.2.2.2.1 ⟨Nat.le_of_ble_eq_true rfl, Nat.le_of_ble_eq_true rfl⟩) (b_recv B hW (by omega) ((lE_m (k := 0) (by omega)).trans mE_0) rfl) rfl hl.1 (Nat.le_of_ble_eq_true rfl) dL_law_1035 ⟨by show _ ≤ 603072; omega, by show _ ≤ 7194730; omega⟩) hI hW hS (fun k hk => by omega) (fun k _ => rfl) (fun E1 => lE cJ cF Ec E1 o od) (fun E1 k hk => lE_m hk) (fun E1 j hj hno => lE_out hno) (fun r_3 Em H locs hq hW hS => ?_)
    obtain ⟨hr3, hE_⟩ := hq
    rw [hE_] at hW
    refine lv_iload hx hb dL_law_1038 (lv_at hl 1 rfl) ?_
    refine lv_icmp_eq (tgt := 1045) hx hb dL_law_1040 (by decide) (fun c_1040 => ?_) (fun c_1040 => ?_)
    rotate_left
    · exact absurd hr3 c_1040
    refine lv_iload hx hb dL_law_1045 (lv_at hl 1 rfl) ?_
    refine lv_if_ne (tgt := 1062) hx hb dL_law_1047 (by decide) (fun c_1047 => ?_) (fun c_1047 => ?_)
    rotate_left
    · exact absurd c_1047 hK
    refine lv_goto (tgt := 2118) hx hb dL_law_1062 (by decide) ?_
    exact K _ _ _ _ _ _ _ _ _ _ _ _ _ _ _ _ _ _ _ _ hC hM hW hS (lv_sub hl [2, 3, 4, 5, 6, 7] rfl)
set_option maxHeartbeats 4000000 in
set_option maxRecDepth 100000 in
theorem lc_14 {p : Program} {l : Launch} {e : Env} {s : State} {m : MethodId} {args : Array Value} {below : List Frame} {meth : Method} {c : Code} {Q : State → Prop} {D : va_G} {ad : Nat → Nat} {cI cZ cH cP cT cJ cF : ClassId} {b L : Nat} {xs : Nat → Int32} (C : LC p l s m args c D ad cI cZ cH cP cT cJ cF b L xs) {t cells slots : Nat} (ht : 4 * t + 4 ≤ L) (hc : cells + 8 ≤ 603072) (hs : slots + 48 ≤ 7194730) (K : LK p l e s m args below meth c Q D ad cI cZ cH cP cT cJ cF b t (cells + 8) (slots + 48)) {V T : Nat → Nat → Int32} {ag : Nat → Int32} {nP nH rN : Nat} {nf pn : Int32} {sp sk : Int64} {py pd : Nat → Nat → Int32} {th : Int32} {Ec Em : Nat → va_E} {o : Nat → Int64} {od : Nat → UInt64} {H : Heap} {locs : List Loc} {ls : Array Slot} (hC : CW cI cZ cH cP cT ad V T ag nP nH rN nf pn sp sk py pd Ec) (hM : MW cI cZ (fun k => ad (110 + k)) th V T ag nP nH rN nf pn sp sk py pd Em) (hW : hH D ad 124 (lE cJ cF Ec Em o od) H) (hS : va_S (cA ad 124 s.heap.size) s.heap H locs) (hl : lv_has ls 9 [(0, .ref b), (1, .ref (ad 0)), (2, .ref (ad 110)), (3, .ref (ad 109)), (4, .ref (ad 123)), (5, .int (nI (4 * t)))]) : W p l e room_1 s m args below meth c H locs cells slots Q (F0 m 1065 ls []) := by
  obtain ⟨B, ⟨hlf, hT, hN, hX, hI⟩, hXs, hbl, hbA, hL⟩ := C
  have hx := B.1
  have hb := B.2.1
  have hI109 : aI ad 109 := hI.subw (σ := fun k => k) (fun k hk => by omega) (fun k _ => rfl) (fun i j _ _ e => e)
  have hI110 : aI ad 110 := hI.subw (σ := fun k => k) (fun k hk => by omega) (fun k _ => rfl) (fun i j _ _ e => e)
  have hI110d : aI (fun k => ad (sD k)) 110 := hI.subw (σ := sD) (fun k hk => sD_lt k hk) (fun k _ => rfl) sD_inj
  have hI13 : aI (fun k => ad (110 + k)) 13 := hI.subw (σ := fun k => 110 + k) (fun k hk => by omega) (fun k _ => rfl) (fun i j _ _ e => by have e : 110 + i = 110 + j := e; omega)
  obtain ⟨so, en, rA, rC, rI, aA, aC, aH, aT, aP, hEc, hInv⟩ := hC
  subst hEc
  obtain ⟨du, mA, mC, mH, mG, mS, mI, mT, mP, hEm⟩ := hM
  subst hEm
  refine lv_aload_n hx hb dL_law_1065 rfl (lv_at hl 1 rfl) ?_
  refine lv_aload_n hx hb dL_law_1066 rfl (lv_at hl 0 rfl) ?_
  refine lv_iload hx hb dL_law_1067 (lv_at hl 5 rfl) ?_
  refine lv_iconst (v := nI 1) hx hb dL_law_1069 (by decide) ?_
  refine lv_iadd hx hb dL_law_1070 ?_
  refine b_top (y := nI (4 * t + 1)) (nI_add _ _) ?_
  refine va_sld hx hb hXs hbl hbA hS (vp_in_nI (by omega) (by omega)) dL_law_1071 ?_
  refine b_top (y := xs (4 * t + 1)) (by rw [nI_clamp (by omega)]) ?_
  refine lv_aload_n hx hb dL_law_1072 rfl (lv_at hl 3 rfl) ?_
  refine y_ci (y_runSW B hT hX hN hW hS (σ := fun k => k) (ad' := ad) (n9 := 110) (fun k hk => by omega) (fun k _ => rfl) (fun k hk => lE_h hk) (As := [.ref (ad 0), .int (xs (4 * t + 1)), .ref (ad 109)]) (rest := []) (fun sz => lh_isSettled hlf hI110 o V T ag nP nH rN nf pn sp sk py pd so en rA rC rI aA aC aH aT aP ((xs (4 * t + 1))) rfl rfl rfl rfl rfl rfl rfl hInv (ad := ad) sz) (cwL_173 B.2.2.2.2.1 ⟨Nat.le_of_ble_eq_true rfl, Nat.le_of_ble_eq_true rfl⟩) rfl hl.1 (Nat.le_of_ble_eq_true rfl) dL_law_1073 ⟨by show _ ≤ 603072; omega, by show _ ≤ 7194730; omega⟩) hI hW hS (fun k hk => by omega) (fun k _ => rfl) (fun E1 => gH cF E1 (mE cI cZ (fun k => ad (110 + k)) th nP nH rN nf pn sp sk ag (RV V) (RV T) (FL pd) (FL py) du mA mC mH mG mS mI mT mP) od) (fun E1 k hk => gH_in hk) (fun E1 j hj hno => gH_out hno) (fun r_1 E1 H locs hp hW hS => ?_)
  obtain ⟨hr_, Ec, o, hE_, hp⟩ := hp
  have hW : hH D ad 124 (lE cJ cF Ec (mE cI cZ (fun k => ad (110 + k)) th nP nH rN nf pn sp sk ag (RV V) (RV T) (FL pd) (FL py) du mA mC mH mG mS mI mT mP) o od) H := hW.eq (by rw [hE_, gH_eq])
  rw [← hr_] at hp
  refine lv_istore (lv' := [(6, .int r_1), (0, .ref b), (1, .ref (ad 0)), (2, .ref (ad 110)), (3, .ref (ad 109)), (4, .ref (ad 123)), (5, .int (nI (4 * t)))]) hx hb dL_law_1076 hl (by decide) rfl (fun ls hl => ?_)
  refine lv_aload_n hx hb dL_law_1078 rfl (lv_at hl 3 rfl) ?_
  refine lv_aload_n hx hb dL_law_1079 rfl (lv_at hl 1 rfl) ?_
  refine lv_iload hx hb dL_law_1080 (lv_at hl 6 rfl) ?_
  refine lv_iconst (v := nI 1) hx hb dL_law_1082 (by decide) ?_
  refine lv_iadd hx hb dL_law_1083 ?_
  refine b_top (y := nI (4 * t + 1)) (nI_add _ _) ?_
  refine va_sld hx hb hXs hbl hbA hS (vp_in_nI (by omega) (by omega)) dL_law_1084 ?_
  refine b_top (y := xs (4 * t + 1)) (by rw [nI_clamp (by omega)]) ?_
  refine y_ci (y_runV B hT hX hW hS (σ := fun k => 110 + k) (ad' := fun k => ad (110 + k)) (n9 := 13) (fun k hk => by omega) (fun k _ => rfl) (fun k hk => lE_m hk) (k := 0) (As := [.int (xs (4 * t + 1))]) (rest := []) (fun sz => mm_isSettled hI13 th nP nH rN nf pn sp sk ag V T pd py du mA mC mH mG mS mI mT mP ((xs (4 * t + 1))) so rfl rfl hInv sz) (cwL_175 B.2.2.2.2.1 ⟨Nat.le_of_ble_eq_true rfl, Nat.le_of_ble_eq_true rfl⟩) (b_recv B hW (by omega) ((lE_m (k := 0) (by omega)).trans mE_0) rfl) rfl hl.1 (Nat.le_of_ble_eq_true rfl) dL_law_1085 ⟨by show _ ≤ 603072; omega, by show _ ≤ 7194730; omega⟩) hI hW hS (fun k hk => by omega) (fun k _ => rfl) (fun E1 => lE cJ cF Ec E1 o od) (fun E1 k hk => lE_m hk) (fun E1 j hj hno => lE_out hno) (fun r_2 Em H locs hq hW hS => ?_)
  rw [← hr_] at hq
  by_cases hK : r_1 = 0
  · skip
    have hp := hp.resolve_right (fun q => q.1 hK)
    obtain ⟨-, ho, hC⟩ := hp
    obtain ⟨hr2, hM⟩ := hq
    have hr2 := hr2 hK
    refine lv_istore (lv' := [(7, .int r_2), (6, .int r_1), (0, .ref b), (1, .ref (ad 0)), (2, .ref (ad 110)), (3, .ref (ad 109)), (4, .ref (ad 123)), (5, .int (nI (4 * t)))]) hx hb dL_law_1088 hl (by decide) rfl (fun ls hl => ?_)
    refine lv_aload_n hx hb dL_law_1090 rfl (lv_at hl 4 rfl) ?_
    obtain ⟨du, mA, mC, mH, mG, mS, mI, mT, mP, hEm⟩ := id hM
    subst hEm
    refine y_ci (y_runV B hT hX hW hS (σ := fun k => 110 + k) (ad' := fun k => ad (110 + k)) (n9 := 13) (fun k hk => by omega) (fun k _ => rfl) (fun k hk => lE_m hk) (k := 0) (As := []) (rest := []) (fun sz => mm_thrown hI13 _ _ _ _ _ _ _ _ _ _ _ _ _ _ _ _ _ _ _ _ _ _ rfl rfl sz) (cwL_125 B.2.2.2.2.1 ⟨Nat.le_of_ble_eq_true rfl, Nat.le_of_ble_eq_true rfl⟩) (b_recv B hW (by omega) ((lE_m (k := 0) (by omega)).trans mE_0) rfl) rfl hl.1 (Nat.le_of_ble_eq_true rfl) dL_law_1091 ⟨by show _ ≤ 603072; omega, by show _ ≤ 7194730; omega⟩) hI hW hS (fun k hk => by omega) (fun k _ => rfl) (fun E1 => lE cJ cF Ec E1 o od) (fun E1 k hk => lE_m hk) (fun E1 j hj hno => lE_out hno) (fun r_3 Em H locs hq hW hS => ?_)
    obtain ⟨hr3, hE_⟩ := hq
    rw [hE_] at hW
    refine lv_iload hx hb dL_law_1094 (lv_at hl 1 rfl) ?_
    refine lv_icmp_eq (tgt := 1101) hx hb dL_law_1096 (by decide) (fun c_1096 => ?_) (fun c_1096 => ?_)
    rotate_left
    · exact absurd hr3 c_1096
    refine lv_iload hx hb dL_law_1101 (lv_at hl 1 rfl) ?_
    refine lv_if_ne (tgt := 1125) hx hb dL_law_1103 (by decide) (fun c_1103 => ?_) (fun c_1103 => ?_)
    · exact absurd hK c_1103
    refine lv_aload_n hx hb dL_law_1106 rfl (lv_at hl 5 rfl) ?_
    refine lv_iconst (v := nI 0) hx hb dL_law_1107 (by decide) ?_
    refine b_lald B hW rfl (j := 0) (by omega) lE_109 (vp_in_nI (by omega) (by omega)) rfl dL_law_1108 ?_
    refine lv_iload hx hb dL_law_1109 (lv_at hl 0 rfl) ?_
    refine lv_if_eq (tgt := 1118) hx hb dL_law_1111 (by decide) (fun c_1111 => ?_) (fun c_1111 => ?_)
    · have hb2 : r_2 = 0 := c_1111
      refine lv_lconst (v := 0) hx hb dL_law_1118 (by decide) ?_
      refine b_lcmp hx hb dL_law_1119 ?_
      refine lv_if_eq (tgt := 1125) hx hb dL_law_1120 (by decide) (fun c_1120 => ?_) (fun c_1120 => ?_)
      rotate_left
      · exact absurd (lcm_0.mpr (by rw [ho, ← hr2, hb2]; rfl)) c_1120
      refine lv_goto (tgt := 2118) hx hb dL_law_1125 (by decide) ?_
      exact K _ _ _ _ _ _ _ _ _ _ _ _ _ _ _ _ _ _ _ _ hC hM hW hS (lv_sub hl [2, 3, 4, 5, 6, 7] rfl)
    · have hb2 : r_2 = 1 := by rcases (show r_2 = 0 ∨ r_2 = 1 by rw [hr2]; exact stl_01 _) with q | q; exact absurd q c_1111; exact q
      refine lv_lconst (v := 1) hx hb dL_law_1114 (by decide) ?_
      refine lv_goto (tgt := 1119) hx hb dL_law_1115 (by decide) ?_
      refine b_lcmp hx hb dL_law_1119 ?_
      refine lv_if_eq (tgt := 1125) hx hb dL_law_1120 (by decide) (fun c_1120 => ?_) (fun c_1120 => ?_)
      rotate_left
      · exact absurd (lcm_0.mpr (by rw [ho, ← hr2, hb2]; rfl)) c_1120
      refine lv_goto (tgt := 2118) hx hb dL_law_1125 (by decide) ?_
      exact K _ _ _ _ _ _ _ _ _ _ _ _ _ _ _ _ _ _ _ _ hC hM hW hS (lv_sub hl [2, 3, 4, 5, 6, 7] rfl)
  · skip
    have hp := hp.resolve_left (fun q => hK q.1)
    obtain ⟨-, hC⟩ := hp
    obtain ⟨-, hM⟩ := hq
    refine lv_istore (lv' := [(7, .int r_2), (6, .int r_1), (0, .ref b), (1, .ref (ad 0)), (2, .ref (ad 110)), (3, .ref (ad 109)), (4, .ref (ad 123)), (5, .int (nI (4 * t)))]) hx hb dL_law_1088 hl (by decide) rfl (fun ls hl => ?_)
    refine lv_aload_n hx hb dL_law_1090 rfl (lv_at hl 4 rfl) ?_
    obtain ⟨du, mA, mC, mH, mG, mS, mI, mT, mP, hEm⟩ := id hM
    subst hEm
    refine y_ci (y_runV B hT hX hW hS (σ := fun k => 110 + k) (ad' := fun k => ad (110 + k)) (n9 := 13) (fun k hk => by omega) (fun k _ => rfl) (fun k hk => lE_m hk) (k := 0) (As := []) (rest := []) (fun sz => mm_thrown hI13 _ _ _ _ _ _ _ _ _ _ _ _ _ _ _ _ _ _ _ _ _ _ rfl rfl sz) (cwL_125 B.2.2.2.2.1 ⟨Nat.le_of_ble_eq_true rfl, Nat.le_of_ble_eq_true rfl⟩) (b_recv B hW (by omega) ((lE_m (k := 0) (by omega)).trans mE_0) rfl) rfl hl.1 (Nat.le_of_ble_eq_true rfl) dL_law_1091 ⟨by show _ ≤ 603072; omega, by show _ ≤ 7194730; omega⟩) hI hW hS (fun k hk => by omega) (fun k _ => rfl) (fun E1 => lE cJ cF Ec E1 o od) (fun E1 k hk => lE_m hk) (fun E1 j hj hno => lE_out hno) (fun r_3 Em H locs hq hW hS => ?_)
    obtain ⟨hr3, hE_⟩ := hq
    rw [hE_] at hW
    refine lv_iload hx hb dL_law_1094 (lv_at hl 1 rfl) ?_
    refine lv_icmp_eq (tgt := 1101) hx hb dL_law_1096 (by decide) (fun c_1096 => ?_) (fun c_1096 => ?_)
    rotate_left
    · exact absurd hr3 c_1096
    refine lv_iload hx hb dL_law_1101 (lv_at hl 1 rfl) ?_
    refine lv_if_ne (tgt := 1125) hx hb dL_law_1103 (by decide) (fun c_1103 => ?_) (fun c_1103 => ?_)
    rotate_left
    · exact absurd c_1103 hK
    refine lv_goto (tgt := 2118) hx hb dL_law_1125 (by decide) ?_
    exact K _ _ _ _ _ _ _ _ _ _ _ _ _ _ _ _ _ _ _ _ hC hM hW hS (lv_sub hl [2, 3, 4, 5, 6, 7] rfl)
set_option maxHeartbeats 4000000 in
set_option maxRecDepth 100000 in
theorem lc_15 {p : Program} {l : Launch} {e : Env} {s : State} {m : MethodId} {args : Array Value} {below : List Frame} {meth : Method} {c : Code} {Q : State → Prop} {D : va_G} {ad : Nat → Nat} {cI cZ cH cP cT cJ cF : ClassId} {b L : Nat} {xs : Nat → Int32} (C : LC p l s m args c D ad cI cZ cH cP cT cJ cF b L xs) {t cells slots : Nat} (ht : 4 * t + 4 ≤ L) (hc : cells + 8 ≤ 603072) (hs : slots + 48 ≤ 7194730) (K : LK p l e s m args below meth c Q D ad cI cZ cH cP cT cJ cF b t (cells + 8) (slots + 48)) {V T : Nat → Nat → Int32} {ag : Nat → Int32} {nP nH rN : Nat} {nf pn : Int32} {sp sk : Int64} {py pd : Nat → Nat → Int32} {th : Int32} {Ec Em : Nat → va_E} {o : Nat → Int64} {od : Nat → UInt64} {H : Heap} {locs : List Loc} {ls : Array Slot} (hC : CW cI cZ cH cP cT ad V T ag nP nH rN nf pn sp sk py pd Ec) (hM : MW cI cZ (fun k => ad (110 + k)) th V T ag nP nH rN nf pn sp sk py pd Em) (hW : hH D ad 124 (lE cJ cF Ec Em o od) H) (hS : va_S (cA ad 124 s.heap.size) s.heap H locs) (hl : lv_has ls 9 [(0, .ref b), (1, .ref (ad 0)), (2, .ref (ad 110)), (3, .ref (ad 109)), (4, .ref (ad 123)), (5, .int (nI (4 * t)))]) : W p l e room_1 s m args below meth c H locs cells slots Q (F0 m 1128 ls []) := by
  obtain ⟨B, ⟨hlf, hT, hN, hX, hI⟩, hXs, hbl, hbA, hL⟩ := C
  have hx := B.1
  have hb := B.2.1
  have hI109 : aI ad 109 := hI.subw (σ := fun k => k) (fun k hk => by omega) (fun k _ => rfl) (fun i j _ _ e => e)
  have hI110 : aI ad 110 := hI.subw (σ := fun k => k) (fun k hk => by omega) (fun k _ => rfl) (fun i j _ _ e => e)
  have hI110d : aI (fun k => ad (sD k)) 110 := hI.subw (σ := sD) (fun k hk => sD_lt k hk) (fun k _ => rfl) sD_inj
  have hI13 : aI (fun k => ad (110 + k)) 13 := hI.subw (σ := fun k => 110 + k) (fun k hk => by omega) (fun k _ => rfl) (fun i j _ _ e => by have e : 110 + i = 110 + j := e; omega)
  obtain ⟨so, en, rA, rC, rI, aA, aC, aH, aT, aP, hEc, hInv⟩ := hC
  subst hEc
  obtain ⟨du, mA, mC, mH, mG, mS, mI, mT, mP, hEm⟩ := hM
  subst hEm
  refine W.widen (k := cells + 8) (n := slots + 48) (by omega) (by omega) ?_
  refine lv_aload_n hx hb dL_law_1128 rfl (lv_at hl 1 rfl) ?_
  refine y_cl (y_runV B hT hX hW hS (σ := fun k => k) (ad' := ad) (n9 := 109) (fun k hk => by omega) (fun k _ => rfl) (fun k hk => lE_c hk) (k := 0) (As := []) (rest := []) (fun sz => mt_totalPaid hI109 V T ag nP nH rN nf pn sp sk py pd so en rA rC rI aA aC aH aT aP rfl rfl rfl rfl rfl hInv (ad := ad) sz) (cwL_176 B.2.2.2.2.1 ⟨Nat.le_of_ble_eq_true rfl, Nat.le_of_ble_eq_true rfl⟩) (b_recv B hW (k := 0) (by omega) ((lE_c (k := 0) (by omega)).trans cE_0) rfl) rfl hl.1 (Nat.le_of_ble_eq_true rfl) dL_law_1129 ⟨by show _ ≤ 603072; omega, by show _ ≤ 7194730; omega⟩) hI hW hS (fun k hk => by omega) (fun k _ => rfl) (fun E1 => lE cJ cF E1 (mE cI cZ (fun k => ad (110 + k)) th nP nH rN nf pn sp sk ag (RV V) (RV T) (FL pd) (FL py) du mA mC mH mG mS mI mT mP) o od) (fun E1 k hk => lE_c hk) (fun E1 j hj hno => lE_co hno) (fun r_1 Ec H locs hp hW hS => ?_)
  obtain ⟨hr1, hC⟩ := hp
  refine lv_aload_n hx hb dL_law_1132 rfl (lv_at hl 2 rfl) ?_
  refine y_cl (y_runV B hT hX hW hS (σ := fun k => 110 + k) (ad' := fun k => ad (110 + k)) (n9 := 13) (fun k hk => by omega) (fun k _ => rfl) (fun k hk => lE_m hk) (k := 0) (As := []) (rest := [.long r_1]) (fun sz => mm_totalPaid hI13 th nP nH rN nf pn sp sk ag V T pd py du mA mC mH mG mS mI mT mP rfl rfl sz) (cwL_180 B.2.2.2.2.1 ⟨Nat.le_of_ble_eq_true rfl, Nat.le_of_ble_eq_true rfl⟩) (b_recv B hW (by omega) ((lE_m (k := 0) (by omega)).trans mE_0) rfl) rfl hl.1 (Nat.le_of_ble_eq_true rfl) dL_law_1133 ⟨by show _ ≤ 603072; omega, by show _ ≤ 7194730; omega⟩) hI hW hS (fun k hk => by omega) (fun k _ => rfl) (fun E1 => lE cJ cF Ec E1 o od) (fun E1 k hk => lE_m hk) (fun E1 j hj hno => lE_out hno) (fun r_2 Em H locs hq hW hS => ?_)
  obtain ⟨hr2, hM⟩ := hq
  refine b_lcmp hx hb dL_law_1136 ?_
  refine lv_if_eq (tgt := 2118) hx hb dL_law_1137 (by decide) (fun c_1137 => ?_) (fun c_1137 => ?_)
  rotate_left
  · exact absurd (lcm_0.mpr (hr1.trans hr2.symm)) c_1137
  exact K _ _ _ _ _ _ _ _ _ _ _ _ _ _ _ _ _ _ _ _ hC hM hW hS (lv_sub hl [0, 1, 2, 3, 4, 5] rfl)
