set_option maxHeartbeats 4000000 in
set_option maxRecDepth 100000 in
theorem lh_pay {l : Launch} (hlf : l.stackTraces = false) {D : va_G} {tys : List (ClassId × FieldType)} {ad : Nat → Nat} (hI : aI ad 110) {cJ cF : ClassId} (o : Nat → Int64) {cI cZ cH cP cT : ClassId} (V T : Nat → Nat → Int32) (ag : Nat → Int32) (nP nH rN : Nat) (nf pn : Int32) (sp sk : Int64) (py pd : Nat → Nat → Int32) (so en : Nat → Int32) (rA rC rI aA aC aH aT aP : Int32) (hti : tys[0]? = some (cI, .int)) (htz : tys[1]? = some (cZ, .boolean)) (hth : tys[2]? = some (cH, .object RX1)) (htp : tys[3]? = some (cP, .object RX2)) (htt : tys[4]? = some (cT, .object RX4)) (htj : tys[5]? = some (cJ, .long)) (htf : tys[6]? = some (cF, .double)) (hInv : Inv V T ag nP nH rN so pd)  (sz : Nat) : Met l yL_pay (Cond.codeWith yL_pay cL_pay 3 (some .int) [(0, 8, 11, 15)] :: wsL_law) (rmk 7 8 48) (va_Pc [.ref (ad 0), .ref (ad 109)] (PN D tys ad 110 (hE cJ (cE cI cZ cH cP cT ad V T ag nP nH rN nf pn sp sk py pd so en rA rC rI aA aC aH aT aP) o) sz)) (Qi D ad 110 (fun r E1 => r = kPay rN ∧ ∃ Ec o1, E1 = hE cJ Ec o1 ∧ ((kPay rN = 0 ∧ o1 0 = ((runS (due V ag nP) rN py pd sk nH).1).toInt64 ∧ CW cI cZ cH cP cT ad V T ag nP nH (rN + 1) nf (pn + nI nH) (sp + (runS (due V ag nP) rN py pd sk nH).1.toInt64) ((runS (due V ag nP) rN py pd sk nH).2.2.2) ((runS (due V ag nP) rN py pd sk nH).2.1) ((runS (due V ag nP) rN py pd sk nH).2.2.1) Ec) ∨ (¬ kPay rN = 0 ∧ CW cI cZ cH cP cT ad V T ag nP nH rN nf pn sp sk py pd Ec))) (cA ad 110 sz)) 8 48 (cA ad 110 sz) := by
  refine ch_of (own := RL) (Qc := Qi D ad 110 (fun r E1 => r = kPay rN ∧ ∃ Ec o1, E1 = hE cJ Ec o1 ∧ ((kPay rN = 0 ∧ o1 0 = ((runS (due V ag nP) rN py pd sk nH).1).toInt64 ∧ CW cI cZ cH cP cT ad V T ag nP nH (rN + 1) nf (pn + nI nH) (sp + (runS (due V ag nP) rN py pd sk nH).1.toInt64) ((runS (due V ag nP) rN py pd sk nH).2.2.2) ((runS (due V ag nP) rN py pd sk nH).2.1) ((runS (due V ag nP) rN py pd sk nH).2.2.1) Ec) ∨ (¬ kPay rN = 0 ∧ CW cI cZ cH cP cT ad V T ag nP nH rN nf pn sp sk py pd Ec)))) rfl (by decide +kernel) (Nat.le_of_ble_eq_true rfl) ?_ sz
  intro p e s m args below meth c ls Q B hT hX hN hW hr hlk htab hl hS hA hQ
  have hx := B.1
  have hb := B.2.1
  have hl : lv_has ls 3 [(0, .ref (ad 0)), (1, .ref (ad 109))] := hl
  refine lv_aload_n hx hb dL_pay_0 rfl (lv_at hl 1 rfl) ?_
  refine lv_iconst (v := 0) hx hb dL_pay_1 (by decide) ?_
  refine lv_aload_n hx hb dL_pay_2 rfl (lv_at hl 0 rfl) ?_
  refine y_xci (y_xrunV (ad' := ad) (σ := fun k => k) (n9 := 109) (E' := cE cI cZ cH cP cT ad V T ag nP nH rN nf pn sp sk py pd so en rA rC rI aA aC aH aT aP) (k := 0) B hT hX hW hS (fun k h => Nat.lt_of_lt_of_le h (by decide)) (fun _ _ => rfl) (fun k h => if_pos h) (As := []) (rest := [.int 0, .ref (ad 109)]) (fun sz => mt_pay hlf (fun i j hi hj => hI i j (by omega) (by omega)) V T ag nP nH rN nf pn sp sk py pd so en rA rC rI aA aC aH aT aP  hti htz hth htp htt hInv sz) (cwL_52 B.2.2.2.2.1 ⟨Nat.le_of_ble_eq_true rfl, Nat.le_of_ble_eq_true rfl⟩) (b_recv B (hW.subw (n := 109) (σ := fun k => k) (fun k h => Nat.lt_of_lt_of_le h (by decide)) (fun _ _ => rfl) (fun k h => if_pos h)) (by decide) cE_0 rfl) rfl hl.1 (Nat.le_of_ble_eq_true rfl) dL_pay_3 ⟨Nat.le_of_ble_eq_true rfl, Nat.le_of_ble_eq_true rfl⟩) hI hW hS (fun k h => Nat.lt_of_lt_of_le h (by decide)) (fun _ _ => rfl) (fun E1 => hE cJ E1 o) (fun E1 k h => if_pos h) h_out (fun Ex ce q9 E1 H locs hx9 hW hS hce hcv hcl => ?_) (fun r E1 H locs hp hW hS => ?_)
  · obtain ⟨hx9, hC⟩ := hx9
    obtain ⟨rfl, hk⟩ := hx9
    refine h_catch B hT hN htab (pre := []) (suf := []) (a := 0) (b := 8) (h := 11) (ct := 15) rfl (fun z hz => nomatch hz) (by decide) (by decide) (r6_in _ (List.mem_of_getElem? (i := 1) rfl)) (List.mem_of_getElem? (i := 23) rfl) hce hcv hcl ?_
    refine lv_astore_n (lv' := [(2, .ref q9), (0, .ref (ad 0)), (1, .ref (ad 109))]) hx hb dL_pay_11 rfl hl (by decide) rfl (fun ls hl => ?_)
    refine lv_iconst (v := 1) hx hb dL_pay_12 (by decide) ?_
    exact e_i hQ B hr hlk hS hW dL_pay_13 (Nat.le_of_ble_eq_true rfl) (Nat.le_of_ble_eq_true rfl) (⟨hk.symm, _, _, rfl, Or.inr ⟨by rw [hk]; decide, hC⟩⟩)
  · skip
    refine lv_i2l hx hb dL_pay_6 rfl ?_
    refine b_last B hI hA hW hS htj (j := 0) (by decide) rfl in_01 rfl dL_pay_7 (fun H locs hW hS => ?_)
    have hW := hE_w hW
    refine lv_goto (tgt := 14) hx hb dL_pay_8 (by decide) ?_
    refine lv_iconst (v := 0) hx hb dL_pay_14 (by decide) ?_
    exact e_i hQ B hr hlk hS hW dL_pay_15 (Nat.le_of_ble_eq_true rfl) (Nat.le_of_ble_eq_true rfl) (⟨hp.1.1.symm, _, _, rfl, Or.inl ⟨hp.1.1, by rw [updL_0, hp.1.2], hp.2⟩⟩)
set_option maxHeartbeats 4000000 in
set_option maxRecDepth 100000 in
theorem lh_payment {l : Launch} (hlf : l.stackTraces = false) {D : va_G} {tys : List (ClassId × FieldType)} {ad : Nat → Nat} (hI : aI ad 110) {cJ cF : ClassId} (o : Nat → Int64) {cI cZ cH cP cT : ClassId} (V T : Nat → Nat → Int32) (ag : Nat → Int32) (nP nH rN : Nat) (nf pn : Int32) (sp sk : Int64) (py pd : Nat → Nat → Int32) (so en : Nat → Int32) (rA rC rI aA aC aH aT aP : Int32) (x y : Int32) (hti : tys[0]? = some (cI, .int)) (htz : tys[1]? = some (cZ, .boolean)) (hth : tys[2]? = some (cH, .object RX1)) (htp : tys[3]? = some (cP, .object RX2)) (htt : tys[4]? = some (cT, .object RX4)) (htj : tys[5]? = some (cJ, .long)) (htf : tys[6]? = some (cF, .double)) (hInv : Inv V T ag nP nH rN so pd)  (sz : Nat) : Met l yL_payment (Cond.codeWith yL_payment cL_payment 5 (some .int) [(0, 10, 13, 25), (0, 10, 17, 37)] :: wsL_law) (rmk 7 8 48) (va_Pc [.ref (ad 0), .int x, .int y, .ref (ad 109)] (PN D tys ad 110 (hE cJ (cE cI cZ cH cP cT ad V T ag nP nH rN nf pn sp sk py pd so en rA rC rI aA aC aH aT aP) o) sz)) (Qi D ad 110 (fun r E1 => r = kPaym nH rN x y ∧ ∃ Ec o1, E1 = hE cJ Ec o1 ∧ ((kPaym nH rN x y = 0 ∧ o1 0 = (py (ix x) (ix y)).toInt64 ∧ CW cI cZ cH cP cT ad V T ag nP nH rN nf pn sp sk py pd Ec) ∨ (¬ kPaym nH rN x y = 0 ∧ CW cI cZ cH cP cT ad V T ag nP nH rN nf pn sp sk py pd Ec))) (cA ad 110 sz)) 8 48 (cA ad 110 sz) := by
  refine ch_of (own := RL) (Qc := Qi D ad 110 (fun r E1 => r = kPaym nH rN x y ∧ ∃ Ec o1, E1 = hE cJ Ec o1 ∧ ((kPaym nH rN x y = 0 ∧ o1 0 = (py (ix x) (ix y)).toInt64 ∧ CW cI cZ cH cP cT ad V T ag nP nH rN nf pn sp sk py pd Ec) ∨ (¬ kPaym nH rN x y = 0 ∧ CW cI cZ cH cP cT ad V T ag nP nH rN nf pn sp sk py pd Ec)))) rfl (by decide +kernel) (Nat.le_of_ble_eq_true rfl) ?_ sz
  intro p e s m args below meth c ls Q B hT hX hN hW hr hlk htab hl hS hA hQ
  have hx := B.1
  have hb := B.2.1
  have hl : lv_has ls 5 [(0, .ref (ad 0)), (1, .int x), (2, .int y), (3, .ref (ad 109))] := hl
  refine lv_aload_n hx hb dL_payment_0 rfl (lv_at hl 3 rfl) ?_
  refine lv_iconst (v := 0) hx hb dL_payment_1 (by decide) ?_
  refine lv_aload_n hx hb dL_payment_2 rfl (lv_at hl 0 rfl) ?_
  refine lv_iload_n hx hb dL_payment_3 rfl (lv_at hl 1 rfl) ?_
  refine lv_iload_n hx hb dL_payment_4 rfl (lv_at hl 2 rfl) ?_
  refine y_xci (y_xrunV (ad' := ad) (σ := fun k => k) (n9 := 109) (E' := cE cI cZ cH cP cT ad V T ag nP nH rN nf pn sp sk py pd so en rA rC rI aA aC aH aT aP) (k := 0) B hT hX hW hS (fun k h => Nat.lt_of_lt_of_le h (by decide)) (fun _ _ => rfl) (fun k h => if_pos h) (As := [.int x, .int y]) (rest := [.int 0, .ref (ad 109)]) (fun sz => mt_payment hlf (fun i j hi hj => hI i j (by omega) (by omega)) V T ag nP nH rN nf pn sp sk py pd so en rA rC rI aA aC aH aT aP x y hti htz hth htp htt hInv sz) (cwL_55 B.2.2.2.2.1 ⟨Nat.le_of_ble_eq_true rfl, Nat.le_of_ble_eq_true rfl⟩) (b_recv B (hW.subw (n := 109) (σ := fun k => k) (fun k h => Nat.lt_of_lt_of_le h (by decide)) (fun _ _ => rfl) (fun k h => if_pos h)) (by decide) cE_0 rfl) rfl hl.1 (Nat.le_of_ble_eq_true rfl) dL_payment_5 ⟨Nat.le_of_ble_eq_true rfl, Nat.le_of_ble_eq_true rfl⟩) hI hW hS (fun k h => Nat.lt_of_lt_of_le h (by decide)) (fun _ _ => rfl) (fun E1 => hE cJ E1 o) (fun E1 k h => if_pos h) h_out (fun Ex ce q9 E1 H locs hx9 hW hS hce hcv hcl => ?_) (fun r E1 H locs hp hW hS => ?_)
  · obtain ⟨hx9, hC⟩ := hx9
    rcases hx9 with ⟨rfl, hk⟩ | ⟨rfl, hk⟩
    · skip
      refine h_catch B hT hN htab (pre := []) (suf := [(0, 10, 17, 37)]) (a := 0) (b := 10) (h := 13) (ct := 25) rfl (fun z hz => nomatch hz) (by decide) (by decide) (r7_in _ (List.mem_of_getElem? (i := 23) rfl)) (List.mem_of_getElem? (i := 25) rfl) hce hcv hcl ?_
      refine lv_astore (lv' := [(4, .ref q9), (0, .ref (ad 0)), (1, .int x), (2, .int y), (3, .ref (ad 109))]) hx hb dL_payment_13 hl (by decide) rfl (fun ls hl => ?_)
      refine lv_iconst (v := 1) hx hb dL_payment_15 (by decide) ?_
      exact e_i hQ B hr hlk hS hW dL_payment_16 (Nat.le_of_ble_eq_true rfl) (Nat.le_of_ble_eq_true rfl) (⟨hk.symm, _, _, rfl, Or.inr ⟨by rw [hk]; decide, hC⟩⟩)
    · skip
      refine h_catch B hT hN htab (pre := [(0, 10, 13, 25)]) (suf := []) (a := 0) (b := 10) (h := 17) (ct := 37) rfl (List.forall_mem_cons.mpr ⟨⟨by decide, "java/lang/IndexOutOfBoundsException", (r7_in _ (List.mem_of_getElem? (i := 23) rfl)), List.mem_of_getElem? (i := 3) rfl⟩, (fun z hz => nomatch hz)⟩) (by decide) (by decide) (r10_in _ (List.mem_of_getElem? (i := 20) rfl)) (List.mem_of_getElem? (i := 26) rfl) hce hcv hcl ?_
      refine lv_astore (lv' := [(4, .ref q9), (0, .ref (ad 0)), (1, .int x), (2, .int y), (3, .ref (ad 109))]) hx hb dL_payment_17 hl (by decide) rfl (fun ls hl => ?_)
      refine lv_iconst (v := 2) hx hb dL_payment_19 (by decide) ?_
      exact e_i hQ B hr hlk hS hW dL_payment_20 (Nat.le_of_ble_eq_true rfl) (Nat.le_of_ble_eq_true rfl) (⟨hk.symm, _, _, rfl, Or.inr ⟨by rw [hk]; decide, hC⟩⟩)
  · skip
    refine lv_i2l hx hb dL_payment_8 rfl ?_
    refine b_last B hI hA hW hS htj (j := 0) (by decide) rfl in_01 rfl dL_payment_9 (fun H locs hW hS => ?_)
    have hW := hE_w hW
    refine lv_goto (tgt := 21) hx hb dL_payment_10 (by decide) ?_
    refine lv_iconst (v := 0) hx hb dL_payment_21 (by decide) ?_
    exact e_i hQ B hr hlk hS hW dL_payment_22 (Nat.le_of_ble_eq_true rfl) (Nat.le_of_ble_eq_true rfl) (⟨hp.1.1.symm, _, _, rfl, Or.inl ⟨hp.1.1, by rw [updL_0, hp.1.2], hp.2⟩⟩)
set_option maxHeartbeats 4000000 in
set_option maxRecDepth 100000 in
theorem lh_paidFor {l : Launch} (hlf : l.stackTraces = false) {D : va_G} {tys : List (ClassId × FieldType)} {ad : Nat → Nat} (hI : aI ad 110) {cJ cF : ClassId} (o : Nat → Int64) {cI cZ cH cP cT : ClassId} (V T : Nat → Nat → Int32) (ag : Nat → Int32) (nP nH rN : Nat) (nf pn : Int32) (sp sk : Int64) (py pd : Nat → Nat → Int32) (so en : Nat → Int32) (rA rC rI aA aC aH aT aP : Int32) (x y : Int32) (hti : tys[0]? = some (cI, .int)) (htz : tys[1]? = some (cZ, .boolean)) (hth : tys[2]? = some (cH, .object RX1)) (htp : tys[3]? = some (cP, .object RX2)) (htt : tys[4]? = some (cT, .object RX4)) (htj : tys[5]? = some (cJ, .long)) (htf : tys[6]? = some (cF, .double)) (hInv : Inv V T ag nP nH rN so pd)  (sz : Nat) : Met l yL_paidFor (Cond.codeWith yL_paidFor cL_paidFor 5 (some .int) [(0, 10, 13, 25)] :: wsL_law) (rmk 7 8 48) (va_Pc [.ref (ad 0), .int x, .int y, .ref (ad 109)] (PN D tys ad 110 (hE cJ (cE cI cZ cH cP cT ad V T ag nP nH rN nf pn sp sk py pd so en rA rC rI aA aC aH aT aP) o) sz)) (Qi D ad 110 (fun r E1 => r = kMon nH x y ∧ ∃ Ec o1, E1 = hE cJ Ec o1 ∧ ((kMon nH x y = 0 ∧ o1 0 = (pd (ix x) (ix y)).toInt64 ∧ CW cI cZ cH cP cT ad V T ag nP nH rN nf pn sp sk py pd Ec) ∨ (¬ kMon nH x y = 0 ∧ CW cI cZ cH cP cT ad V T ag nP nH rN nf pn sp sk py pd Ec))) (cA ad 110 sz)) 8 48 (cA ad 110 sz) := by
  refine ch_of (own := RL) (Qc := Qi D ad 110 (fun r E1 => r = kMon nH x y ∧ ∃ Ec o1, E1 = hE cJ Ec o1 ∧ ((kMon nH x y = 0 ∧ o1 0 = (pd (ix x) (ix y)).toInt64 ∧ CW cI cZ cH cP cT ad V T ag nP nH rN nf pn sp sk py pd Ec) ∨ (¬ kMon nH x y = 0 ∧ CW cI cZ cH cP cT ad V T ag nP nH rN nf pn sp sk py pd Ec)))) rfl (by decide +kernel) (Nat.le_of_ble_eq_true rfl) ?_ sz
  intro p e s m args below meth c ls Q B hT hX hN hW hr hlk htab hl hS hA hQ
  have hx := B.1
  have hb := B.2.1
  have hl : lv_has ls 5 [(0, .ref (ad 0)), (1, .int x), (2, .int y), (3, .ref (ad 109))] := hl
  refine lv_aload_n hx hb dL_paidFor_0 rfl (lv_at hl 3 rfl) ?_
  refine lv_iconst (v := 0) hx hb dL_paidFor_1 (by decide) ?_
  refine lv_aload_n hx hb dL_paidFor_2 rfl (lv_at hl 0 rfl) ?_
  refine lv_iload_n hx hb dL_paidFor_3 rfl (lv_at hl 1 rfl) ?_
  refine lv_iload_n hx hb dL_paidFor_4 rfl (lv_at hl 2 rfl) ?_
  refine y_xci (y_xrunV (ad' := ad) (σ := fun k => k) (n9 := 109) (E' := cE cI cZ cH cP cT ad V T ag nP nH rN nf pn sp sk py pd so en rA rC rI aA aC aH aT aP) (k := 0) B hT hX hW hS (fun k h => Nat.lt_of_lt_of_le h (by decide)) (fun _ _ => rfl) (fun k h => if_pos h) (As := [.int x, .int y]) (rest := [.int 0, .ref (ad 109)]) (fun sz => mt_paidFor hlf (fun i j hi hj => hI i j (by omega) (by omega)) V T ag nP nH rN nf pn sp sk py pd so en rA rC rI aA aC aH aT aP x y hti htz hth htp htt hInv sz) (cwL_58 B.2.2.2.2.1 ⟨Nat.le_of_ble_eq_true rfl, Nat.le_of_ble_eq_true rfl⟩) (b_recv B (hW.subw (n := 109) (σ := fun k => k) (fun k h => Nat.lt_of_lt_of_le h (by decide)) (fun _ _ => rfl) (fun k h => if_pos h)) (by decide) cE_0 rfl) rfl hl.1 (Nat.le_of_ble_eq_true rfl) dL_paidFor_5 ⟨Nat.le_of_ble_eq_true rfl, Nat.le_of_ble_eq_true rfl⟩) hI hW hS (fun k h => Nat.lt_of_lt_of_le h (by decide)) (fun _ _ => rfl) (fun E1 => hE cJ E1 o) (fun E1 k h => if_pos h) h_out (fun Ex ce q9 E1 H locs hx9 hW hS hce hcv hcl => ?_) (fun r E1 H locs hp hW hS => ?_)
  · obtain ⟨hx9, hC⟩ := hx9
    obtain ⟨rfl, hk⟩ := hx9
    refine h_catch B hT hN htab (pre := []) (suf := []) (a := 0) (b := 10) (h := 13) (ct := 25) rfl (fun z hz => nomatch hz) (by decide) (by decide) (r7_in _ (List.mem_of_getElem? (i := 23) rfl)) (List.mem_of_getElem? (i := 25) rfl) hce hcv hcl ?_
    refine lv_astore (lv' := [(4, .ref q9), (0, .ref (ad 0)), (1, .int x), (2, .int y), (3, .ref (ad 109))]) hx hb dL_paidFor_13 hl (by decide) rfl (fun ls hl => ?_)
    refine lv_iconst (v := 1) hx hb dL_paidFor_15 (by decide) ?_
    exact e_i hQ B hr hlk hS hW dL_paidFor_16 (Nat.le_of_ble_eq_true rfl) (Nat.le_of_ble_eq_true rfl) (⟨hk.symm, _, _, rfl, Or.inr ⟨by rw [hk]; decide, hC⟩⟩)
  · skip
    refine lv_i2l hx hb dL_paidFor_8 rfl ?_
    refine b_last B hI hA hW hS htj (j := 0) (by decide) rfl in_01 rfl dL_paidFor_9 (fun H locs hW hS => ?_)
    have hW := hE_w hW
    refine lv_goto (tgt := 17) hx hb dL_paidFor_10 (by decide) ?_
    refine lv_iconst (v := 0) hx hb dL_paidFor_17 (by decide) ?_
    exact e_i hQ B hr hlk hS hW dL_paidFor_18 (Nat.le_of_ble_eq_true rfl) (Nat.le_of_ble_eq_true rfl) (⟨hp.1.1.symm, _, _, rfl, Or.inl ⟨hp.1.1, by rw [updL_0, hp.1.2], hp.2⟩⟩)
set_option maxHeartbeats 4000000 in
set_option maxRecDepth 100000 in
theorem lh_balance {l : Launch} (hlf : l.stackTraces = false) {D : va_G} {tys : List (ClassId × FieldType)} {ad : Nat → Nat} (hI : aI ad 110) {cJ cF : ClassId} (o : Nat → Int64) {cI cZ cH cP cT : ClassId} (V T : Nat → Nat → Int32) (ag : Nat → Int32) (nP nH rN : Nat) (nf pn : Int32) (sp sk : Int64) (py pd : Nat → Nat → Int32) (so en : Nat → Int32) (rA rC rI aA aC aH aT aP : Int32) (x : Int32) (hti : tys[0]? = some (cI, .int)) (htz : tys[1]? = some (cZ, .boolean)) (hth : tys[2]? = some (cH, .object RX1)) (htp : tys[3]? = some (cP, .object RX2)) (htt : tys[4]? = some (cT, .object RX4)) (htj : tys[5]? = some (cJ, .long)) (htf : tys[6]? = some (cF, .double)) (hInv : Inv V T ag nP nH rN so pd)  (sz : Nat) : Met l yL_balance (Cond.codeWith yL_balance cL_balance 4 (some .int) [(0, 9, 12, 25)] :: wsL_law) (rmk 7 8 48) (va_Pc [.ref (ad 0), .int x, .ref (ad 109)] (PN D tys ad 110 (hE cJ (cE cI cZ cH cP cT ad V T ag nP nH rN nf pn sp sk py pd so en rA rC rI aA aC aH aT aP) o) sz)) (Qi D ad 110 (fun r E1 => r = kHou nH x ∧ ∃ Ec o1, E1 = hE cJ Ec o1 ∧ ((kHou nH x = 0 ∧ o1 0 = (bal (due V ag nP (ix x)) (pd (ix x)) rN).toInt64 ∧ CW cI cZ cH cP cT ad V T ag nP nH rN nf pn sp sk py pd Ec) ∨ (¬ kHou nH x = 0 ∧ CW cI cZ cH cP cT ad V T ag nP nH rN nf pn sp sk py pd Ec))) (cA ad 110 sz)) 8 48 (cA ad 110 sz) := by
  refine ch_of (own := RL) (Qc := Qi D ad 110 (fun r E1 => r = kHou nH x ∧ ∃ Ec o1, E1 = hE cJ Ec o1 ∧ ((kHou nH x = 0 ∧ o1 0 = (bal (due V ag nP (ix x)) (pd (ix x)) rN).toInt64 ∧ CW cI cZ cH cP cT ad V T ag nP nH rN nf pn sp sk py pd Ec) ∨ (¬ kHou nH x = 0 ∧ CW cI cZ cH cP cT ad V T ag nP nH rN nf pn sp sk py pd Ec)))) rfl (by decide +kernel) (Nat.le_of_ble_eq_true rfl) ?_ sz
  intro p e s m args below meth c ls Q B hT hX hN hW hr hlk htab hl hS hA hQ
  have hx := B.1
  have hb := B.2.1
  have hl : lv_has ls 4 [(0, .ref (ad 0)), (1, .int x), (2, .ref (ad 109))] := hl
  refine lv_aload_n hx hb dL_balance_0 rfl (lv_at hl 2 rfl) ?_
  refine lv_iconst (v := 0) hx hb dL_balance_1 (by decide) ?_
  refine lv_aload_n hx hb dL_balance_2 rfl (lv_at hl 0 rfl) ?_
  refine lv_iload_n hx hb dL_balance_3 rfl (lv_at hl 1 rfl) ?_
  refine y_xci (y_xrunV (ad' := ad) (σ := fun k => k) (n9 := 109) (E' := cE cI cZ cH cP cT ad V T ag nP nH rN nf pn sp sk py pd so en rA rC rI aA aC aH aT aP) (k := 0) B hT hX hW hS (fun k h => Nat.lt_of_lt_of_le h (by decide)) (fun _ _ => rfl) (fun k h => if_pos h) (As := [.int x]) (rest := [.int 0, .ref (ad 109)]) (fun sz => mt_balance hlf (fun i j hi hj => hI i j (by omega) (by omega)) V T ag nP nH rN nf pn sp sk py pd so en rA rC rI aA aC aH aT aP x hti htz hth htp htt hInv sz) (cwL_61 B.2.2.2.2.1 ⟨Nat.le_of_ble_eq_true rfl, Nat.le_of_ble_eq_true rfl⟩) (b_recv B (hW.subw (n := 109) (σ := fun k => k) (fun k h => Nat.lt_of_lt_of_le h (by decide)) (fun _ _ => rfl) (fun k h => if_pos h)) (by decide) cE_0 rfl) rfl hl.1 (Nat.le_of_ble_eq_true rfl) dL_balance_4 ⟨Nat.le_of_ble_eq_true rfl, Nat.le_of_ble_eq_true rfl⟩) hI hW hS (fun k h => Nat.lt_of_lt_of_le h (by decide)) (fun _ _ => rfl) (fun E1 => hE cJ E1 o) (fun E1 k h => if_pos h) h_out (fun Ex ce q9 E1 H locs hx9 hW hS hce hcv hcl => ?_) (fun r E1 H locs hp hW hS => ?_)
  · obtain ⟨hx9, hC⟩ := hx9
    obtain ⟨rfl, hk⟩ := hx9
    refine h_catch B hT hN htab (pre := []) (suf := []) (a := 0) (b := 9) (h := 12) (ct := 25) rfl (fun z hz => nomatch hz) (by decide) (by decide) (r7_in _ (List.mem_of_getElem? (i := 23) rfl)) (List.mem_of_getElem? (i := 25) rfl) hce hcv hcl ?_
    refine lv_astore_n (lv' := [(3, .ref q9), (0, .ref (ad 0)), (1, .int x), (2, .ref (ad 109))]) hx hb dL_balance_12 rfl hl (by decide) rfl (fun ls hl => ?_)
    refine lv_iconst (v := 1) hx hb dL_balance_13 (by decide) ?_
    exact e_i hQ B hr hlk hS hW dL_balance_14 (Nat.le_of_ble_eq_true rfl) (Nat.le_of_ble_eq_true rfl) (⟨hk.symm, _, _, rfl, Or.inr ⟨by rw [hk]; decide, hC⟩⟩)
  · skip
    refine lv_i2l hx hb dL_balance_7 rfl ?_
    refine b_last B hI hA hW hS htj (j := 0) (by decide) rfl in_01 rfl dL_balance_8 (fun H locs hW hS => ?_)
    have hW := hE_w hW
    refine lv_goto (tgt := 15) hx hb dL_balance_9 (by decide) ?_
    refine lv_iconst (v := 0) hx hb dL_balance_15 (by decide) ?_
    exact e_i hQ B hr hlk hS hW dL_balance_16 (Nat.le_of_ble_eq_true rfl) (Nat.le_of_ble_eq_true rfl) (⟨hp.1.1.symm, _, _, rfl, Or.inl ⟨hp.1.1, by rw [updL_0, hp.1.2], hp.2⟩⟩)
set_option maxHeartbeats 4000000 in
set_option maxRecDepth 100000 in
theorem lh_homeOf {l : Launch} (hlf : l.stackTraces = false) {D : va_G} {tys : List (ClassId × FieldType)} {ad : Nat → Nat} (hI : aI ad 110) {cJ cF : ClassId} (o : Nat → Int64) {cI cZ cH cP cT : ClassId} (V T : Nat → Nat → Int32) (ag : Nat → Int32) (nP nH rN : Nat) (nf pn : Int32) (sp sk : Int64) (py pd : Nat → Nat → Int32) (so en : Nat → Int32) (rA rC rI aA aC aH aT aP : Int32) (x dy : Int32) (hti : tys[0]? = some (cI, .int)) (htz : tys[1]? = some (cZ, .boolean)) (hth : tys[2]? = some (cH, .object RX1)) (htp : tys[3]? = some (cP, .object RX2)) (htt : tys[4]? = some (cT, .object RX4)) (htj : tys[5]? = some (cJ, .long)) (htf : tys[6]? = some (cF, .double)) (hInv : Inv V T ag nP nH rN so pd)  (sz : Nat) : Met l yL_homeOf (Cond.codeWith yL_homeOf cL_homeOf 5 (some .int) [(0, 10, 13, 25), (0, 10, 17, 13)] :: wsL_law) (rmk 7 8 48) (va_Pc [.ref (ad 0), .int x, .int dy, .ref (ad 109)] (PN D tys ad 110 (hE cJ (cE cI cZ cH cP cT ad V T ag nP nH rN nf pn sp sk py pd so en rA rC rI aA aC aH aT aP) o) sz)) (Qi D ad 110 (fun r E1 => r = kAsk nP x dy ∧ ∃ Ec o1, E1 = hE cJ Ec o1 ∧ ((kAsk nP x dy = 0 ∧ o1 0 = (V (ix x) (ix dy)).toInt64 ∧ CW cI cZ cH cP cT ad V T ag nP nH rN nf pn sp sk py pd Ec) ∨ (¬ kAsk nP x dy = 0 ∧ CW cI cZ cH cP cT ad V T ag nP nH rN nf pn sp sk py pd Ec))) (cA ad 110 sz)) 8 48 (cA ad 110 sz) := by
  refine ch_of (own := RL) (Qc := Qi D ad 110 (fun r E1 => r = kAsk nP x dy ∧ ∃ Ec o1, E1 = hE cJ Ec o1 ∧ ((kAsk nP x dy = 0 ∧ o1 0 = (V (ix x) (ix dy)).toInt64 ∧ CW cI cZ cH cP cT ad V T ag nP nH rN nf pn sp sk py pd Ec) ∨ (¬ kAsk nP x dy = 0 ∧ CW cI cZ cH cP cT ad V T ag nP nH rN nf pn sp sk py pd Ec)))) rfl (by decide +kernel) (Nat.le_of_ble_eq_true rfl) ?_ sz
  intro p e s m args below meth c ls Q B hT hX hN hW hr hlk htab hl hS hA hQ
  have hx := B.1
  have hb := B.2.1
  have hl : lv_has ls 5 [(0, .ref (ad 0)), (1, .int x), (2, .int dy), (3, .ref (ad 109))] := hl
  refine lv_aload_n hx hb dL_homeOf_0 rfl (lv_at hl 3 rfl) ?_
  refine lv_iconst (v := 0) hx hb dL_homeOf_1 (by decide) ?_
  refine lv_aload_n hx hb dL_homeOf_2 rfl (lv_at hl 0 rfl) ?_
  refine lv_iload_n hx hb dL_homeOf_3 rfl (lv_at hl 1 rfl) ?_
  refine lv_iload_n hx hb dL_homeOf_4 rfl (lv_at hl 2 rfl) ?_
  refine y_xci (y_xrunV (ad' := ad) (σ := fun k => k) (n9 := 109) (E' := cE cI cZ cH cP cT ad V T ag nP nH rN nf pn sp sk py pd so en rA rC rI aA aC aH aT aP) (k := 0) B hT hX hW hS (fun k h => Nat.lt_of_lt_of_le h (by decide)) (fun _ _ => rfl) (fun k h => if_pos h) (As := [.int x, .int dy]) (rest := [.int 0, .ref (ad 109)]) (fun sz => mt_homeOf hlf (fun i j hi hj => hI i j (by omega) (by omega)) V T ag nP nH rN nf pn sp sk py pd so en rA rC rI aA aC aH aT aP x dy hti htz hth htp htt hInv sz) (cwL_68 B.2.2.2.2.1 ⟨Nat.le_of_ble_eq_true rfl, Nat.le_of_ble_eq_true rfl⟩) (b_recv B (hW.subw (n := 109) (σ := fun k => k) (fun k h => Nat.lt_of_lt_of_le h (by decide)) (fun _ _ => rfl) (fun k h => if_pos h)) (by decide) cE_0 rfl) rfl hl.1 (Nat.le_of_ble_eq_true rfl) dL_homeOf_5 ⟨Nat.le_of_ble_eq_true rfl, Nat.le_of_ble_eq_true rfl⟩) hI hW hS (fun k h => Nat.lt_of_lt_of_le h (by decide)) (fun _ _ => rfl) (fun E1 => hE cJ E1 o) (fun E1 k h => if_pos h) h_out (fun Ex ce q9 E1 H locs hx9 hW hS hce hcv hcl => ?_) (fun r E1 H locs hp hW hS => ?_)
  · obtain ⟨hx9, hC⟩ := hx9
    rcases hx9 with ⟨rfl, hk⟩ | ⟨rfl, hk⟩
    · skip
      refine h_catch B hT hN htab (pre := []) (suf := [(0, 10, 17, 13)]) (a := 0) (b := 10) (h := 13) (ct := 25) rfl (fun z hz => nomatch hz) (by decide) (by decide) (r7_in _ (List.mem_of_getElem? (i := 23) rfl)) (List.mem_of_getElem? (i := 25) rfl) hce hcv hcl ?_
      refine lv_astore (lv' := [(4, .ref q9), (0, .ref (ad 0)), (1, .int x), (2, .int dy), (3, .ref (ad 109))]) hx hb dL_homeOf_13 hl (by decide) rfl (fun ls hl => ?_)
      refine lv_iconst (v := 1) hx hb dL_homeOf_15 (by decide) ?_
      exact e_i hQ B hr hlk hS hW dL_homeOf_16 (Nat.le_of_ble_eq_true rfl) (Nat.le_of_ble_eq_true rfl) (⟨hk.symm, _, _, rfl, Or.inr ⟨by rw [hk]; decide, hC⟩⟩)
    · skip
      refine h_catch B hT hN htab (pre := [(0, 10, 13, 25)]) (suf := []) (a := 0) (b := 10) (h := 17) (ct := 13) rfl (List.forall_mem_cons.mpr ⟨⟨by decide, "java/lang/IndexOutOfBoundsException", (r7_in _ (List.mem_of_getElem? (i := 23) rfl)), List.mem_of_getElem? (i := 1) rfl⟩, (fun z hz => nomatch hz)⟩) (by decide) (by decide) (r6_in _ (List.mem_of_getElem? (i := 0) rfl)) (List.mem_of_getElem? (i := 24) rfl) hce hcv hcl ?_
      refine lv_astore (lv' := [(4, .ref q9), (0, .ref (ad 0)), (1, .int x), (2, .int dy), (3, .ref (ad 109))]) hx hb dL_homeOf_17 hl (by decide) rfl (fun ls hl => ?_)
      refine lv_iconst (v := 2) hx hb dL_homeOf_19 (by decide) ?_
      exact e_i hQ B hr hlk hS hW dL_homeOf_20 (Nat.le_of_ble_eq_true rfl) (Nat.le_of_ble_eq_true rfl) (⟨hk.symm, _, _, rfl, Or.inr ⟨by rw [hk]; decide, hC⟩⟩)
  · skip
    refine lv_i2l hx hb dL_homeOf_8 rfl ?_
    refine b_last B hI hA hW hS htj (j := 0) (by decide) rfl in_01 rfl dL_homeOf_9 (fun H locs hW hS => ?_)
    have hW := hE_w hW
    refine lv_goto (tgt := 21) hx hb dL_homeOf_10 (by decide) ?_
    refine lv_iconst (v := 0) hx hb dL_homeOf_21 (by decide) ?_
    exact e_i hQ B hr hlk hS hW dL_homeOf_22 (Nat.le_of_ble_eq_true rfl) (Nat.le_of_ble_eq_true rfl) (⟨hp.1.1.symm, _, _, rfl, Or.inl ⟨hp.1.1, by rw [updL_0, hp.1.2], hp.2⟩⟩)
set_option maxHeartbeats 4000000 in
set_option maxRecDepth 100000 in
theorem lh_ruleAt {l : Launch} (hlf : l.stackTraces = false) {D : va_G} {tys : List (ClassId × FieldType)} {ad : Nat → Nat} (hI : aI ad 110) {cJ cF : ClassId} (o : Nat → Int64) {cI cZ cH cP cT : ClassId} (V T : Nat → Nat → Int32) (ag : Nat → Int32) (nP nH rN : Nat) (nf pn : Int32) (sp sk : Int64) (py pd : Nat → Nat → Int32) (so en : Nat → Int32) (rA rC rI aA aC aH aT aP : Int32) (x dy : Int32) (hti : tys[0]? = some (cI, .int)) (htz : tys[1]? = some (cZ, .boolean)) (hth : tys[2]? = some (cH, .object RX1)) (htp : tys[3]? = some (cP, .object RX2)) (htt : tys[4]? = some (cT, .object RX4)) (htj : tys[5]? = some (cJ, .long)) (htf : tys[6]? = some (cF, .double)) (hInv : Inv V T ag nP nH rN so pd)  (sz : Nat) : Met l yL_ruleAt (Cond.codeWith yL_ruleAt cL_ruleAt 5 (some .int) [(0, 10, 13, 37), (0, 10, 17, 13)] :: wsL_law) (rmk 7 8 48) (va_Pc [.ref (ad 0), .int x, .int dy, .ref (ad 109)] (PN D tys ad 110 (hE cJ (cE cI cZ cH cP cT ad V T ag nP nH rN nf pn sp sk py pd so en rA rC rI aA aC aH aT aP) o) sz)) (Qi D ad 110 (fun r E1 => r = kRat x dy ∧ ∃ Ec o1, E1 = hE cJ Ec o1 ∧ ((kRat x dy = 0 ∧ o1 0 = (V (20 + rIx x) (ix dy)).toInt64 ∧ CW cI cZ cH cP cT ad V T ag nP nH rN nf pn sp sk py pd Ec) ∨ (¬ kRat x dy = 0 ∧ CW cI cZ cH cP cT ad V T ag nP nH rN nf pn sp sk py pd Ec))) (cA ad 110 sz)) 8 48 (cA ad 110 sz) := by
  refine ch_of (own := RL) (Qc := Qi D ad 110 (fun r E1 => r = kRat x dy ∧ ∃ Ec o1, E1 = hE cJ Ec o1 ∧ ((kRat x dy = 0 ∧ o1 0 = (V (20 + rIx x) (ix dy)).toInt64 ∧ CW cI cZ cH cP cT ad V T ag nP nH rN nf pn sp sk py pd Ec) ∨ (¬ kRat x dy = 0 ∧ CW cI cZ cH cP cT ad V T ag nP nH rN nf pn sp sk py pd Ec)))) rfl (by decide +kernel) (Nat.le_of_ble_eq_true rfl) ?_ sz
  intro p e s m args below meth c ls Q B hT hX hN hW hr hlk htab hl hS hA hQ
  have hx := B.1
  have hb := B.2.1
  have hl : lv_has ls 5 [(0, .ref (ad 0)), (1, .int x), (2, .int dy), (3, .ref (ad 109))] := hl
  refine lv_aload_n hx hb dL_ruleAt_0 rfl (lv_at hl 3 rfl) ?_
  refine lv_iconst (v := 0) hx hb dL_ruleAt_1 (by decide) ?_
  refine lv_aload_n hx hb dL_ruleAt_2 rfl (lv_at hl 0 rfl) ?_
  refine lv_iload_n hx hb dL_ruleAt_3 rfl (lv_at hl 1 rfl) ?_
  refine lv_iload_n hx hb dL_ruleAt_4 rfl (lv_at hl 2 rfl) ?_
  refine y_xci (y_xrunV (ad' := ad) (σ := fun k => k) (n9 := 109) (E' := cE cI cZ cH cP cT ad V T ag nP nH rN nf pn sp sk py pd so en rA rC rI aA aC aH aT aP) (k := 0) B hT hX hW hS (fun k h => Nat.lt_of_lt_of_le h (by decide)) (fun _ _ => rfl) (fun k h => if_pos h) (As := [.int x, .int dy]) (rest := [.int 0, .ref (ad 109)]) (fun sz => mt_ruleAt hlf (fun i j hi hj => hI i j (by omega) (by omega)) V T ag nP nH rN nf pn sp sk py pd so en rA rC rI aA aC aH aT aP x dy hti htz hth htp htt hInv sz) (cwL_71 B.2.2.2.2.1 ⟨Nat.le_of_ble_eq_true rfl, Nat.le_of_ble_eq_true rfl⟩) (b_recv B (hW.subw (n := 109) (σ := fun k => k) (fun k h => Nat.lt_of_lt_of_le h (by decide)) (fun _ _ => rfl) (fun k h => if_pos h)) (by decide) cE_0 rfl) rfl hl.1 (Nat.le_of_ble_eq_true rfl) dL_ruleAt_5 ⟨Nat.le_of_ble_eq_true rfl, Nat.le_of_ble_eq_true rfl⟩) hI hW hS (fun k h => Nat.lt_of_lt_of_le h (by decide)) (fun _ _ => rfl) (fun E1 => hE cJ E1 o) (fun E1 k h => if_pos h) h_out (fun Ex ce q9 E1 H locs hx9 hW hS hce hcv hcl => ?_) (fun r E1 H locs hp hW hS => ?_)
  · obtain ⟨hx9, hC⟩ := hx9
    rcases hx9 with ⟨rfl, hk⟩ | ⟨rfl, hk⟩
    · skip
      refine h_catch B hT hN htab (pre := []) (suf := [(0, 10, 17, 13)]) (a := 0) (b := 10) (h := 13) (ct := 37) rfl (fun z hz => nomatch hz) (by decide) (by decide) (r10_in _ (List.mem_of_getElem? (i := 20) rfl)) (List.mem_of_getElem? (i := 26) rfl) hce hcv hcl ?_
      refine lv_astore (lv' := [(4, .ref q9), (0, .ref (ad 0)), (1, .int x), (2, .int dy), (3, .ref (ad 109))]) hx hb dL_ruleAt_13 hl (by decide) rfl (fun ls hl => ?_)
      refine lv_iconst (v := 1) hx hb dL_ruleAt_15 (by decide) ?_
      exact e_i hQ B hr hlk hS hW dL_ruleAt_16 (Nat.le_of_ble_eq_true rfl) (Nat.le_of_ble_eq_true rfl) (⟨hk.symm, _, _, rfl, Or.inr ⟨by rw [hk]; decide, hC⟩⟩)
    · skip
      refine h_catch B hT hN htab (pre := [(0, 10, 13, 37)]) (suf := []) (a := 0) (b := 10) (h := 17) (ct := 13) rfl (List.forall_mem_cons.mpr ⟨⟨by decide, "java/util/NoSuchElementException", (r10_in _ (List.mem_of_getElem? (i := 20) rfl)), List.mem_of_getElem? (i := 2) rfl⟩, (fun z hz => nomatch hz)⟩) (by decide) (by decide) (r6_in _ (List.mem_of_getElem? (i := 0) rfl)) (List.mem_of_getElem? (i := 24) rfl) hce hcv hcl ?_
      refine lv_astore (lv' := [(4, .ref q9), (0, .ref (ad 0)), (1, .int x), (2, .int dy), (3, .ref (ad 109))]) hx hb dL_ruleAt_17 hl (by decide) rfl (fun ls hl => ?_)
      refine lv_iconst (v := 2) hx hb dL_ruleAt_19 (by decide) ?_
      exact e_i hQ B hr hlk hS hW dL_ruleAt_20 (Nat.le_of_ble_eq_true rfl) (Nat.le_of_ble_eq_true rfl) (⟨hk.symm, _, _, rfl, Or.inr ⟨by rw [hk]; decide, hC⟩⟩)
  · skip
    refine lv_i2l hx hb dL_ruleAt_8 rfl ?_
    refine b_last B hI hA hW hS htj (j := 0) (by decide) rfl in_01 rfl dL_ruleAt_9 (fun H locs hW hS => ?_)
    have hW := hE_w hW
    refine lv_goto (tgt := 21) hx hb dL_ruleAt_10 (by decide) ?_
    refine lv_iconst (v := 0) hx hb dL_ruleAt_21 (by decide) ?_
    exact e_i hQ B hr hlk hS hW dL_ruleAt_22 (Nat.le_of_ble_eq_true rfl) (Nat.le_of_ble_eq_true rfl) (⟨hp.1.1.symm, _, _, rfl, Or.inl ⟨hp.1.1, by rw [updL_0, hp.1.2], hp.2⟩⟩)
set_option maxHeartbeats 4000000 in
set_option maxRecDepth 100000 in
theorem lh_adults {l : Launch} (hlf : l.stackTraces = false) {D : va_G} {tys : List (ClassId × FieldType)} {ad : Nat → Nat} (hI : aI ad 110) {cJ cF : ClassId} (o : Nat → Int64) {cI cZ cH cP cT : ClassId} (V T : Nat → Nat → Int32) (ag : Nat → Int32) (nP nH rN : Nat) (nf pn : Int32) (sp sk : Int64) (py pd : Nat → Nat → Int32) (so en : Nat → Int32) (rA rC rI aA aC aH aT aP : Int32) (x dy : Int32) (hti : tys[0]? = some (cI, .int)) (htz : tys[1]? = some (cZ, .boolean)) (hth : tys[2]? = some (cH, .object RX1)) (htp : tys[3]? = some (cP, .object RX2)) (htt : tys[4]? = some (cT, .object RX4)) (htj : tys[5]? = some (cJ, .long)) (htf : tys[6]? = some (cF, .double)) (hInv : Inv V T ag nP nH rN so pd)  (sz : Nat) : Met l yL_adults (Cond.codeWith yL_adults cL_adults 5 (some .int) [(0, 10, 13, 25), (0, 10, 17, 13)] :: wsL_law) (rmk 7 8 48) (va_Pc [.ref (ad 0), .int x, .int dy, .ref (ad 109)] (PN D tys ad 110 (hE cJ (cE cI cZ cH cP cT ad V T ag nP nH rN nf pn sp sk py pd so en rA rC rI aA aC aH aT aP) o) sz)) (Qi D ad 110 (fun r E1 => r = kAsk nH x dy ∧ ∃ Ec o1, E1 = hE cJ Ec o1 ∧ ((kAsk nH x dy = 0 ∧ o1 0 = ((cnt V ag (nI (ix x)) (ix dy) nP).1).toInt64 ∧ CW cI cZ cH cP cT ad V T ag nP nH rN nf pn sp sk py pd Ec) ∨ (¬ kAsk nH x dy = 0 ∧ CW cI cZ cH cP cT ad V T ag nP nH rN nf pn sp sk py pd Ec))) (cA ad 110 sz)) 8 48 (cA ad 110 sz) := by
  refine ch_of (own := RL) (Qc := Qi D ad 110 (fun r E1 => r = kAsk nH x dy ∧ ∃ Ec o1, E1 = hE cJ Ec o1 ∧ ((kAsk nH x dy = 0 ∧ o1 0 = ((cnt V ag (nI (ix x)) (ix dy) nP).1).toInt64 ∧ CW cI cZ cH cP cT ad V T ag nP nH rN nf pn sp sk py pd Ec) ∨ (¬ kAsk nH x dy = 0 ∧ CW cI cZ cH cP cT ad V T ag nP nH rN nf pn sp sk py pd Ec)))) rfl (by decide +kernel) (Nat.le_of_ble_eq_true rfl) ?_ sz
  intro p e s m args below meth c ls Q B hT hX hN hW hr hlk htab hl hS hA hQ
  have hx := B.1
  have hb := B.2.1
  have hl : lv_has ls 5 [(0, .ref (ad 0)), (1, .int x), (2, .int dy), (3, .ref (ad 109))] := hl
  refine lv_aload_n hx hb dL_adults_0 rfl (lv_at hl 3 rfl) ?_
  refine lv_iconst (v := 0) hx hb dL_adults_1 (by decide) ?_
  refine lv_aload_n hx hb dL_adults_2 rfl (lv_at hl 0 rfl) ?_
  refine lv_iload_n hx hb dL_adults_3 rfl (lv_at hl 1 rfl) ?_
  refine lv_iload_n hx hb dL_adults_4 rfl (lv_at hl 2 rfl) ?_
  refine y_xci (y_xrunV (ad' := ad) (σ := fun k => k) (n9 := 109) (E' := cE cI cZ cH cP cT ad V T ag nP nH rN nf pn sp sk py pd so en rA rC rI aA aC aH aT aP) (k := 0) B hT hX hW hS (fun k h => Nat.lt_of_lt_of_le h (by decide)) (fun _ _ => rfl) (fun k h => if_pos h) (As := [.int x, .int dy]) (rest := [.int 0, .ref (ad 109)]) (fun sz => mt_adults hlf (fun i j hi hj => hI i j (by omega) (by omega)) V T ag nP nH rN nf pn sp sk py pd so en rA rC rI aA aC aH aT aP x dy hti htz hth htp htt hInv sz) (cwL_74 B.2.2.2.2.1 ⟨Nat.le_of_ble_eq_true rfl, Nat.le_of_ble_eq_true rfl⟩) (b_recv B (hW.subw (n := 109) (σ := fun k => k) (fun k h => Nat.lt_of_lt_of_le h (by decide)) (fun _ _ => rfl) (fun k h => if_pos h)) (by decide) cE_0 rfl) rfl hl.1 (Nat.le_of_ble_eq_true rfl) dL_adults_5 ⟨Nat.le_of_ble_eq_true rfl, Nat.le_of_ble_eq_true rfl⟩) hI hW hS (fun k h => Nat.lt_of_lt_of_le h (by decide)) (fun _ _ => rfl) (fun E1 => hE cJ E1 o) (fun E1 k h => if_pos h) h_out (fun Ex ce q9 E1 H locs hx9 hW hS hce hcv hcl => ?_) (fun r E1 H locs hp hW hS => ?_)
  · obtain ⟨hx9, hC⟩ := hx9
    rcases hx9 with ⟨rfl, hk⟩ | ⟨rfl, hk⟩
    · skip
      refine h_catch B hT hN htab (pre := []) (suf := [(0, 10, 17, 13)]) (a := 0) (b := 10) (h := 13) (ct := 25) rfl (fun z hz => nomatch hz) (by decide) (by decide) (r7_in _ (List.mem_of_getElem? (i := 23) rfl)) (List.mem_of_getElem? (i := 25) rfl) hce hcv hcl ?_
      refine lv_astore (lv' := [(4, .ref q9), (0, .ref (ad 0)), (1, .int x), (2, .int dy), (3, .ref (ad 109))]) hx hb dL_adults_13 hl (by decide) rfl (fun ls hl => ?_)
      refine lv_iconst (v := 1) hx hb dL_adults_15 (by decide) ?_
      exact e_i hQ B hr hlk hS hW dL_adults_16 (Nat.le_of_ble_eq_true rfl) (Nat.le_of_ble_eq_true rfl) (⟨hk.symm, _, _, rfl, Or.inr ⟨by rw [hk]; decide, hC⟩⟩)
    · skip
      refine h_catch B hT hN htab (pre := [(0, 10, 13, 25)]) (suf := []) (a := 0) (b := 10) (h := 17) (ct := 13) rfl (List.forall_mem_cons.mpr ⟨⟨by decide, "java/lang/IndexOutOfBoundsException", (r7_in _ (List.mem_of_getElem? (i := 23) rfl)), List.mem_of_getElem? (i := 1) rfl⟩, (fun z hz => nomatch hz)⟩) (by decide) (by decide) (r6_in _ (List.mem_of_getElem? (i := 0) rfl)) (List.mem_of_getElem? (i := 24) rfl) hce hcv hcl ?_
      refine lv_astore (lv' := [(4, .ref q9), (0, .ref (ad 0)), (1, .int x), (2, .int dy), (3, .ref (ad 109))]) hx hb dL_adults_17 hl (by decide) rfl (fun ls hl => ?_)
      refine lv_iconst (v := 2) hx hb dL_adults_19 (by decide) ?_
      exact e_i hQ B hr hlk hS hW dL_adults_20 (Nat.le_of_ble_eq_true rfl) (Nat.le_of_ble_eq_true rfl) (⟨hk.symm, _, _, rfl, Or.inr ⟨by rw [hk]; decide, hC⟩⟩)
  · skip
    refine lv_i2l hx hb dL_adults_8 rfl ?_
    refine b_last B hI hA hW hS htj (j := 0) (by decide) rfl in_01 rfl dL_adults_9 (fun H locs hW hS => ?_)
    have hW := hE_w hW
    refine lv_goto (tgt := 21) hx hb dL_adults_10 (by decide) ?_
    refine lv_iconst (v := 0) hx hb dL_adults_21 (by decide) ?_
    exact e_i hQ B hr hlk hS hW dL_adults_22 (Nat.le_of_ble_eq_true rfl) (Nat.le_of_ble_eq_true rfl) (⟨hp.1.1.symm, _, _, rfl, Or.inl ⟨hp.1.1, by rw [updL_0, hp.1.2], hp.2⟩⟩)
set_option maxHeartbeats 4000000 in
set_option maxRecDepth 100000 in
theorem lh_children {l : Launch} (hlf : l.stackTraces = false) {D : va_G} {tys : List (ClassId × FieldType)} {ad : Nat → Nat} (hI : aI ad 110) {cJ cF : ClassId} (o : Nat → Int64) {cI cZ cH cP cT : ClassId} (V T : Nat → Nat → Int32) (ag : Nat → Int32) (nP nH rN : Nat) (nf pn : Int32) (sp sk : Int64) (py pd : Nat → Nat → Int32) (so en : Nat → Int32) (rA rC rI aA aC aH aT aP : Int32) (x dy : Int32) (hti : tys[0]? = some (cI, .int)) (htz : tys[1]? = some (cZ, .boolean)) (hth : tys[2]? = some (cH, .object RX1)) (htp : tys[3]? = some (cP, .object RX2)) (htt : tys[4]? = some (cT, .object RX4)) (htj : tys[5]? = some (cJ, .long)) (htf : tys[6]? = some (cF, .double)) (hInv : Inv V T ag nP nH rN so pd)  (sz : Nat) : Met l yL_children (Cond.codeWith yL_children cL_children 5 (some .int) [(0, 10, 13, 25), (0, 10, 17, 13)] :: wsL_law) (rmk 7 8 48) (va_Pc [.ref (ad 0), .int x, .int dy, .ref (ad 109)] (PN D tys ad 110 (hE cJ (cE cI cZ cH cP cT ad V T ag nP nH rN nf pn sp sk py pd so en rA rC rI aA aC aH aT aP) o) sz)) (Qi D ad 110 (fun r E1 => r = kAsk nH x dy ∧ ∃ Ec o1, E1 = hE cJ Ec o1 ∧ ((kAsk nH x dy = 0 ∧ o1 0 = ((cnt V ag (nI (ix x)) (ix dy) nP).2.1).toInt64 ∧ CW cI cZ cH cP cT ad V T ag nP nH rN nf pn sp sk py pd Ec) ∨ (¬ kAsk nH x dy = 0 ∧ CW cI cZ cH cP cT ad V T ag nP nH rN nf pn sp sk py pd Ec))) (cA ad 110 sz)) 8 48 (cA ad 110 sz) := by
  refine ch_of (own := RL) (Qc := Qi D ad 110 (fun r E1 => r = kAsk nH x dy ∧ ∃ Ec o1, E1 = hE cJ Ec o1 ∧ ((kAsk nH x dy = 0 ∧ o1 0 = ((cnt V ag (nI (ix x)) (ix dy) nP).2.1).toInt64 ∧ CW cI cZ cH cP cT ad V T ag nP nH rN nf pn sp sk py pd Ec) ∨ (¬ kAsk nH x dy = 0 ∧ CW cI cZ cH cP cT ad V T ag nP nH rN nf pn sp sk py pd Ec)))) rfl (by decide +kernel) (Nat.le_of_ble_eq_true rfl) ?_ sz
  intro p e s m args below meth c ls Q B hT hX hN hW hr hlk htab hl hS hA hQ
  have hx := B.1
  have hb := B.2.1
  have hl : lv_has ls 5 [(0, .ref (ad 0)), (1, .int x), (2, .int dy), (3, .ref (ad 109))] := hl
  refine lv_aload_n hx hb dL_children_0 rfl (lv_at hl 3 rfl) ?_
  refine lv_iconst (v := 0) hx hb dL_children_1 (by decide) ?_
  refine lv_aload_n hx hb dL_children_2 rfl (lv_at hl 0 rfl) ?_
  refine lv_iload_n hx hb dL_children_3 rfl (lv_at hl 1 rfl) ?_
  refine lv_iload_n hx hb dL_children_4 rfl (lv_at hl 2 rfl) ?_
  refine y_xci (y_xrunV (ad' := ad) (σ := fun k => k) (n9 := 109) (E' := cE cI cZ cH cP cT ad V T ag nP nH rN nf pn sp sk py pd so en rA rC rI aA aC aH aT aP) (k := 0) B hT hX hW hS (fun k h => Nat.lt_of_lt_of_le h (by decide)) (fun _ _ => rfl) (fun k h => if_pos h) (As := [.int x, .int dy]) (rest := [.int 0, .ref (ad 109)]) (fun sz => mt_children hlf (fun i j hi hj => hI i j (by omega) (by omega)) V T ag nP nH rN nf pn sp sk py pd so en rA rC rI aA aC aH aT aP x dy hti htz hth htp htt hInv sz) (cwL_77 B.2.2.2.2.1 ⟨Nat.le_of_ble_eq_true rfl, Nat.le_of_ble_eq_true rfl⟩) (b_recv B (hW.subw (n := 109) (σ := fun k => k) (fun k h => Nat.lt_of_lt_of_le h (by decide)) (fun _ _ => rfl) (fun k h => if_pos h)) (by decide) cE_0 rfl) rfl hl.1 (Nat.le_of_ble_eq_true rfl) dL_children_5 ⟨Nat.le_of_ble_eq_true rfl, Nat.le_of_ble_eq_true rfl⟩) hI hW hS (fun k h => Nat.lt_of_lt_of_le h (by decide)) (fun _ _ => rfl) (fun E1 => hE cJ E1 o) (fun E1 k h => if_pos h) h_out (fun Ex ce q9 E1 H locs hx9 hW hS hce hcv hcl => ?_) (fun r E1 H locs hp hW hS => ?_)
  · obtain ⟨hx9, hC⟩ := hx9
    rcases hx9 with ⟨rfl, hk⟩ | ⟨rfl, hk⟩
    · skip
      refine h_catch B hT hN htab (pre := []) (suf := [(0, 10, 17, 13)]) (a := 0) (b := 10) (h := 13) (ct := 25) rfl (fun z hz => nomatch hz) (by decide) (by decide) (r7_in _ (List.mem_of_getElem? (i := 23) rfl)) (List.mem_of_getElem? (i := 25) rfl) hce hcv hcl ?_
      refine lv_astore (lv' := [(4, .ref q9), (0, .ref (ad 0)), (1, .int x), (2, .int dy), (3, .ref (ad 109))]) hx hb dL_children_13 hl (by decide) rfl (fun ls hl => ?_)
      refine lv_iconst (v := 1) hx hb dL_children_15 (by decide) ?_
      exact e_i hQ B hr hlk hS hW dL_children_16 (Nat.le_of_ble_eq_true rfl) (Nat.le_of_ble_eq_true rfl) (⟨hk.symm, _, _, rfl, Or.inr ⟨by rw [hk]; decide, hC⟩⟩)
    · skip
      refine h_catch B hT hN htab (pre := [(0, 10, 13, 25)]) (suf := []) (a := 0) (b := 10) (h := 17) (ct := 13) rfl (List.forall_mem_cons.mpr ⟨⟨by decide, "java/lang/IndexOutOfBoundsException", (r7_in _ (List.mem_of_getElem? (i := 23) rfl)), List.mem_of_getElem? (i := 1) rfl⟩, (fun z hz => nomatch hz)⟩) (by decide) (by decide) (r6_in _ (List.mem_of_getElem? (i := 0) rfl)) (List.mem_of_getElem? (i := 24) rfl) hce hcv hcl ?_
      refine lv_astore (lv' := [(4, .ref q9), (0, .ref (ad 0)), (1, .int x), (2, .int dy), (3, .ref (ad 109))]) hx hb dL_children_17 hl (by decide) rfl (fun ls hl => ?_)
      refine lv_iconst (v := 2) hx hb dL_children_19 (by decide) ?_
      exact e_i hQ B hr hlk hS hW dL_children_20 (Nat.le_of_ble_eq_true rfl) (Nat.le_of_ble_eq_true rfl) (⟨hk.symm, _, _, rfl, Or.inr ⟨by rw [hk]; decide, hC⟩⟩)
  · skip
    refine lv_i2l hx hb dL_children_8 rfl ?_
    refine b_last B hI hA hW hS htj (j := 0) (by decide) rfl in_01 rfl dL_children_9 (fun H locs hW hS => ?_)
    have hW := hE_w hW
    refine lv_goto (tgt := 21) hx hb dL_children_10 (by decide) ?_
    refine lv_iconst (v := 0) hx hb dL_children_21 (by decide) ?_
    exact e_i hQ B hr hlk hS hW dL_children_22 (Nat.le_of_ble_eq_true rfl) (Nat.le_of_ble_eq_true rfl) (⟨hp.1.1.symm, _, _, rfl, Or.inl ⟨hp.1.1, by rw [updL_0, hp.1.2], hp.2⟩⟩)
set_option maxHeartbeats 4000000 in
set_option maxRecDepth 100000 in
theorem lh_incomeOf {l : Launch} (hlf : l.stackTraces = false) {D : va_G} {tys : List (ClassId × FieldType)} {ad : Nat → Nat} (hI : aI ad 110) {cJ cF : ClassId} (o : Nat → Int64) {cI cZ cH cP cT : ClassId} (V T : Nat → Nat → Int32) (ag : Nat → Int32) (nP nH rN : Nat) (nf pn : Int32) (sp sk : Int64) (py pd : Nat → Nat → Int32) (so en : Nat → Int32) (rA rC rI aA aC aH aT aP : Int32) (x dy : Int32) (hti : tys[0]? = some (cI, .int)) (htz : tys[1]? = some (cZ, .boolean)) (hth : tys[2]? = some (cH, .object RX1)) (htp : tys[3]? = some (cP, .object RX2)) (htt : tys[4]? = some (cT, .object RX4)) (htj : tys[5]? = some (cJ, .long)) (htf : tys[6]? = some (cF, .double)) (hInv : Inv V T ag nP nH rN so pd)  (sz : Nat) : Met l yL_incomeOf (Cond.codeWith yL_incomeOf cL_incomeOf 5 (some .int) [(0, 10, 13, 25), (0, 10, 17, 13)] :: wsL_law) (rmk 7 8 48) (va_Pc [.ref (ad 0), .int x, .int dy, .ref (ad 109)] (PN D tys ad 110 (hE cJ (cE cI cZ cH cP cT ad V T ag nP nH rN nf pn sp sk py pd so en rA rC rI aA aC aH aT aP) o) sz)) (Qi D ad 110 (fun r E1 => r = kAsk nH x dy ∧ ∃ Ec o1, E1 = hE cJ Ec o1 ∧ ((kAsk nH x dy = 0 ∧ o1 0 = ((cnt V ag (nI (ix x)) (ix dy) nP).2.2).toInt64 ∧ CW cI cZ cH cP cT ad V T ag nP nH rN nf pn sp sk py pd Ec) ∨ (¬ kAsk nH x dy = 0 ∧ CW cI cZ cH cP cT ad V T ag nP nH rN nf pn sp sk py pd Ec))) (cA ad 110 sz)) 8 48 (cA ad 110 sz) := by
  refine ch_of (own := RL) (Qc := Qi D ad 110 (fun r E1 => r = kAsk nH x dy ∧ ∃ Ec o1, E1 = hE cJ Ec o1 ∧ ((kAsk nH x dy = 0 ∧ o1 0 = ((cnt V ag (nI (ix x)) (ix dy) nP).2.2).toInt64 ∧ CW cI cZ cH cP cT ad V T ag nP nH rN nf pn sp sk py pd Ec) ∨ (¬ kAsk nH x dy = 0 ∧ CW cI cZ cH cP cT ad V T ag nP nH rN nf pn sp sk py pd Ec)))) rfl (by decide +kernel) (Nat.le_of_ble_eq_true rfl) ?_ sz
  intro p e s m args below meth c ls Q B hT hX hN hW hr hlk htab hl hS hA hQ
  have hx := B.1
  have hb := B.2.1
  have hl : lv_has ls 5 [(0, .ref (ad 0)), (1, .int x), (2, .int dy), (3, .ref (ad 109))] := hl
  refine lv_aload_n hx hb dL_incomeOf_0 rfl (lv_at hl 3 rfl) ?_
  refine lv_iconst (v := 0) hx hb dL_incomeOf_1 (by decide) ?_
  refine lv_aload_n hx hb dL_incomeOf_2 rfl (lv_at hl 0 rfl) ?_
  refine lv_iload_n hx hb dL_incomeOf_3 rfl (lv_at hl 1 rfl) ?_
  refine lv_iload_n hx hb dL_incomeOf_4 rfl (lv_at hl 2 rfl) ?_
  refine y_xci (y_xrunV (ad' := ad) (σ := fun k => k) (n9 := 109) (E' := cE cI cZ cH cP cT ad V T ag nP nH rN nf pn sp sk py pd so en rA rC rI aA aC aH aT aP) (k := 0) B hT hX hW hS (fun k h => Nat.lt_of_lt_of_le h (by decide)) (fun _ _ => rfl) (fun k h => if_pos h) (As := [.int x, .int dy]) (rest := [.int 0, .ref (ad 109)]) (fun sz => mt_incomeOf hlf (fun i j hi hj => hI i j (by omega) (by omega)) V T ag nP nH rN nf pn sp sk py pd so en rA rC rI aA aC aH aT aP x dy hti htz hth htp htt hInv sz) (cwL_80 B.2.2.2.2.1 ⟨Nat.le_of_ble_eq_true rfl, Nat.le_of_ble_eq_true rfl⟩) (b_recv B (hW.subw (n := 109) (σ := fun k => k) (fun k h => Nat.lt_of_lt_of_le h (by decide)) (fun _ _ => rfl) (fun k h => if_pos h)) (by decide) cE_0 rfl) rfl hl.1 (Nat.le_of_ble_eq_true rfl) dL_incomeOf_5 ⟨Nat.le_of_ble_eq_true rfl, Nat.le_of_ble_eq_true rfl⟩) hI hW hS (fun k h => Nat.lt_of_lt_of_le h (by decide)) (fun _ _ => rfl) (fun E1 => hE cJ E1 o) (fun E1 k h => if_pos h) h_out (fun Ex ce q9 E1 H locs hx9 hW hS hce hcv hcl => ?_) (fun r E1 H locs hp hW hS => ?_)
  · obtain ⟨hx9, hC⟩ := hx9
    rcases hx9 with ⟨rfl, hk⟩ | ⟨rfl, hk⟩
    · skip
      refine h_catch B hT hN htab (pre := []) (suf := [(0, 10, 17, 13)]) (a := 0) (b := 10) (h := 13) (ct := 25) rfl (fun z hz => nomatch hz) (by decide) (by decide) (r7_in _ (List.mem_of_getElem? (i := 23) rfl)) (List.mem_of_getElem? (i := 25) rfl) hce hcv hcl ?_
      refine lv_astore (lv' := [(4, .ref q9), (0, .ref (ad 0)), (1, .int x), (2, .int dy), (3, .ref (ad 109))]) hx hb dL_incomeOf_13 hl (by decide) rfl (fun ls hl => ?_)
      refine lv_iconst (v := 1) hx hb dL_incomeOf_15 (by decide) ?_
      exact e_i hQ B hr hlk hS hW dL_incomeOf_16 (Nat.le_of_ble_eq_true rfl) (Nat.le_of_ble_eq_true rfl) (⟨hk.symm, _, _, rfl, Or.inr ⟨by rw [hk]; decide, hC⟩⟩)
    · skip
      refine h_catch B hT hN htab (pre := [(0, 10, 13, 25)]) (suf := []) (a := 0) (b := 10) (h := 17) (ct := 13) rfl (List.forall_mem_cons.mpr ⟨⟨by decide, "java/lang/IndexOutOfBoundsException", (r7_in _ (List.mem_of_getElem? (i := 23) rfl)), List.mem_of_getElem? (i := 1) rfl⟩, (fun z hz => nomatch hz)⟩) (by decide) (by decide) (r6_in _ (List.mem_of_getElem? (i := 0) rfl)) (List.mem_of_getElem? (i := 24) rfl) hce hcv hcl ?_
      refine lv_astore (lv' := [(4, .ref q9), (0, .ref (ad 0)), (1, .int x), (2, .int dy), (3, .ref (ad 109))]) hx hb dL_incomeOf_17 hl (by decide) rfl (fun ls hl => ?_)
      refine lv_iconst (v := 2) hx hb dL_incomeOf_19 (by decide) ?_
      exact e_i hQ B hr hlk hS hW dL_incomeOf_20 (Nat.le_of_ble_eq_true rfl) (Nat.le_of_ble_eq_true rfl) (⟨hk.symm, _, _, rfl, Or.inr ⟨by rw [hk]; decide, hC⟩⟩)
  · skip
    refine lv_i2l hx hb dL_incomeOf_8 rfl ?_
    refine b_last B hI hA hW hS htj (j := 0) (by decide) rfl in_01 rfl dL_incomeOf_9 (fun H locs hW hS => ?_)
    have hW := hE_w hW
    refine lv_goto (tgt := 21) hx hb dL_incomeOf_10 (by decide) ?_
    refine lv_iconst (v := 0) hx hb dL_incomeOf_21 (by decide) ?_
    exact e_i hQ B hr hlk hS hW dL_incomeOf_22 (Nat.le_of_ble_eq_true rfl) (Nat.le_of_ble_eq_true rfl) (⟨hp.1.1.symm, _, _, rfl, Or.inl ⟨hp.1.1, by rw [updL_0, hp.1.2], hp.2⟩⟩)
set_option maxHeartbeats 4000000 in
set_option maxRecDepth 100000 in
theorem lh_adultAmount {l : Launch} (hlf : l.stackTraces = false) {D : va_G} {tys : List (ClassId × FieldType)} {ad : Nat → Nat} (hI : aI ad 110) {cJ cF : ClassId} (o : Nat → Int64) {cI cZ cH cP cT : ClassId} (V T : Nat → Nat → Int32) (ag : Nat → Int32) (nP nH rN : Nat) (nf pn : Int32) (sp sk : Int64) (py pd : Nat → Nat → Int32) (so en : Nat → Int32) (rA rC rI aA aC aH aT aP : Int32) (x dy : Int32) (hti : tys[0]? = some (cI, .int)) (htz : tys[1]? = some (cZ, .boolean)) (hth : tys[2]? = some (cH, .object RX1)) (htp : tys[3]? = some (cP, .object RX2)) (htt : tys[4]? = some (cT, .object RX4)) (htj : tys[5]? = some (cJ, .long)) (htf : tys[6]? = some (cF, .double)) (hInv : Inv V T ag nP nH rN so pd)  (sz : Nat) : Met l yL_adultAmount (Cond.codeWith yL_adultAmount cL_adultAmount 5 (some .int) [(0, 10, 13, 25), (0, 10, 17, 13)] :: wsL_law) (rmk 7 8 48) (va_Pc [.ref (ad 0), .int x, .int dy, .ref (ad 109)] (PN D tys ad 110 (hE cJ (cE cI cZ cH cP cT ad V T ag nP nH rN nf pn sp sk py pd so en rA rC rI aA aC aH aT aP) o) sz)) (Qi D ad 110 (fun r E1 => r = kAsk nH x dy ∧ ∃ Ec o1, E1 = hE cJ Ec o1 ∧ ((kAsk nH x dy = 0 ∧ o1 0 = ((amt V ag nP (ix x) (ix dy)).1).toInt64 ∧ CW cI cZ cH cP cT ad V T ag nP nH rN nf pn sp sk py pd Ec) ∨ (¬ kAsk nH x dy = 0 ∧ CW cI cZ cH cP cT ad V T ag nP nH rN nf pn sp sk py pd Ec))) (cA ad 110 sz)) 8 48 (cA ad 110 sz) := by
  refine ch_of (own := RL) (Qc := Qi D ad 110 (fun r E1 => r = kAsk nH x dy ∧ ∃ Ec o1, E1 = hE cJ Ec o1 ∧ ((kAsk nH x dy = 0 ∧ o1 0 = ((amt V ag nP (ix x) (ix dy)).1).toInt64 ∧ CW cI cZ cH cP cT ad V T ag nP nH rN nf pn sp sk py pd Ec) ∨ (¬ kAsk nH x dy = 0 ∧ CW cI cZ cH cP cT ad V T ag nP nH rN nf pn sp sk py pd Ec)))) rfl (by decide +kernel) (Nat.le_of_ble_eq_true rfl) ?_ sz
  intro p e s m args below meth c ls Q B hT hX hN hW hr hlk htab hl hS hA hQ
  have hx := B.1
  have hb := B.2.1
  have hl : lv_has ls 5 [(0, .ref (ad 0)), (1, .int x), (2, .int dy), (3, .ref (ad 109))] := hl
  refine lv_aload_n hx hb dL_adultAmount_0 rfl (lv_at hl 3 rfl) ?_
  refine lv_iconst (v := 0) hx hb dL_adultAmount_1 (by decide) ?_
  refine lv_aload_n hx hb dL_adultAmount_2 rfl (lv_at hl 0 rfl) ?_
  refine lv_iload_n hx hb dL_adultAmount_3 rfl (lv_at hl 1 rfl) ?_
  refine lv_iload_n hx hb dL_adultAmount_4 rfl (lv_at hl 2 rfl) ?_
  refine y_xci (y_xrunV (ad' := ad) (σ := fun k => k) (n9 := 109) (E' := cE cI cZ cH cP cT ad V T ag nP nH rN nf pn sp sk py pd so en rA rC rI aA aC aH aT aP) (k := 0) B hT hX hW hS (fun k h => Nat.lt_of_lt_of_le h (by decide)) (fun _ _ => rfl) (fun k h => if_pos h) (As := [.int x, .int dy]) (rest := [.int 0, .ref (ad 109)]) (fun sz => mt_adultAmount hlf (fun i j hi hj => hI i j (by omega) (by omega)) V T ag nP nH rN nf pn sp sk py pd so en rA rC rI aA aC aH aT aP x dy hti htz hth htp htt hInv sz) (cwL_83 B.2.2.2.2.1 ⟨Nat.le_of_ble_eq_true rfl, Nat.le_of_ble_eq_true rfl⟩) (b_recv B (hW.subw (n := 109) (σ := fun k => k) (fun k h => Nat.lt_of_lt_of_le h (by decide)) (fun _ _ => rfl) (fun k h => if_pos h)) (by decide) cE_0 rfl) rfl hl.1 (Nat.le_of_ble_eq_true rfl) dL_adultAmount_5 ⟨Nat.le_of_ble_eq_true rfl, Nat.le_of_ble_eq_true rfl⟩) hI hW hS (fun k h => Nat.lt_of_lt_of_le h (by decide)) (fun _ _ => rfl) (fun E1 => hE cJ E1 o) (fun E1 k h => if_pos h) h_out (fun Ex ce q9 E1 H locs hx9 hW hS hce hcv hcl => ?_) (fun r E1 H locs hp hW hS => ?_)
  · obtain ⟨hx9, hC⟩ := hx9
    rcases hx9 with ⟨rfl, hk⟩ | ⟨rfl, hk⟩
    · skip
      refine h_catch B hT hN htab (pre := []) (suf := [(0, 10, 17, 13)]) (a := 0) (b := 10) (h := 13) (ct := 25) rfl (fun z hz => nomatch hz) (by decide) (by decide) (r7_in _ (List.mem_of_getElem? (i := 23) rfl)) (List.mem_of_getElem? (i := 25) rfl) hce hcv hcl ?_
      refine lv_astore (lv' := [(4, .ref q9), (0, .ref (ad 0)), (1, .int x), (2, .int dy), (3, .ref (ad 109))]) hx hb dL_adultAmount_13 hl (by decide) rfl (fun ls hl => ?_)
      refine lv_iconst (v := 1) hx hb dL_adultAmount_15 (by decide) ?_
      exact e_i hQ B hr hlk hS hW dL_adultAmount_16 (Nat.le_of_ble_eq_true rfl) (Nat.le_of_ble_eq_true rfl) (⟨hk.symm, _, _, rfl, Or.inr ⟨by rw [hk]; decide, hC⟩⟩)
    · skip
      refine h_catch B hT hN htab (pre := [(0, 10, 13, 25)]) (suf := []) (a := 0) (b := 10) (h := 17) (ct := 13) rfl (List.forall_mem_cons.mpr ⟨⟨by decide, "java/lang/IndexOutOfBoundsException", (r7_in _ (List.mem_of_getElem? (i := 23) rfl)), List.mem_of_getElem? (i := 1) rfl⟩, (fun z hz => nomatch hz)⟩) (by decide) (by decide) (r6_in _ (List.mem_of_getElem? (i := 0) rfl)) (List.mem_of_getElem? (i := 24) rfl) hce hcv hcl ?_
      refine lv_astore (lv' := [(4, .ref q9), (0, .ref (ad 0)), (1, .int x), (2, .int dy), (3, .ref (ad 109))]) hx hb dL_adultAmount_17 hl (by decide) rfl (fun ls hl => ?_)
      refine lv_iconst (v := 2) hx hb dL_adultAmount_19 (by decide) ?_
      exact e_i hQ B hr hlk hS hW dL_adultAmount_20 (Nat.le_of_ble_eq_true rfl) (Nat.le_of_ble_eq_true rfl) (⟨hk.symm, _, _, rfl, Or.inr ⟨by rw [hk]; decide, hC⟩⟩)
  · skip
    refine lv_i2l hx hb dL_adultAmount_8 rfl ?_
    refine b_last B hI hA hW hS htj (j := 0) (by decide) rfl in_01 rfl dL_adultAmount_9 (fun H locs hW hS => ?_)
    have hW := hE_w hW
    refine lv_goto (tgt := 21) hx hb dL_adultAmount_10 (by decide) ?_
    refine lv_iconst (v := 0) hx hb dL_adultAmount_21 (by decide) ?_
    exact e_i hQ B hr hlk hS hW dL_adultAmount_22 (Nat.le_of_ble_eq_true rfl) (Nat.le_of_ble_eq_true rfl) (⟨hp.1.1.symm, _, _, rfl, Or.inl ⟨hp.1.1, by rw [updL_0, hp.1.2], hp.2⟩⟩)
set_option maxHeartbeats 4000000 in
set_option maxRecDepth 100000 in
theorem lh_childAmount {l : Launch} (hlf : l.stackTraces = false) {D : va_G} {tys : List (ClassId × FieldType)} {ad : Nat → Nat} (hI : aI ad 110) {cJ cF : ClassId} (o : Nat → Int64) {cI cZ cH cP cT : ClassId} (V T : Nat → Nat → Int32) (ag : Nat → Int32) (nP nH rN : Nat) (nf pn : Int32) (sp sk : Int64) (py pd : Nat → Nat → Int32) (so en : Nat → Int32) (rA rC rI aA aC aH aT aP : Int32) (x dy : Int32) (hti : tys[0]? = some (cI, .int)) (htz : tys[1]? = some (cZ, .boolean)) (hth : tys[2]? = some (cH, .object RX1)) (htp : tys[3]? = some (cP, .object RX2)) (htt : tys[4]? = some (cT, .object RX4)) (htj : tys[5]? = some (cJ, .long)) (htf : tys[6]? = some (cF, .double)) (hInv : Inv V T ag nP nH rN so pd)  (sz : Nat) : Met l yL_childAmount (Cond.codeWith yL_childAmount cL_childAmount 5 (some .int) [(0, 10, 13, 25), (0, 10, 17, 13)] :: wsL_law) (rmk 7 8 48) (va_Pc [.ref (ad 0), .int x, .int dy, .ref (ad 109)] (PN D tys ad 110 (hE cJ (cE cI cZ cH cP cT ad V T ag nP nH rN nf pn sp sk py pd so en rA rC rI aA aC aH aT aP) o) sz)) (Qi D ad 110 (fun r E1 => r = kAsk nH x dy ∧ ∃ Ec o1, E1 = hE cJ Ec o1 ∧ ((kAsk nH x dy = 0 ∧ o1 0 = ((amt V ag nP (ix x) (ix dy)).2.1).toInt64 ∧ CW cI cZ cH cP cT ad V T ag nP nH rN nf pn sp sk py pd Ec) ∨ (¬ kAsk nH x dy = 0 ∧ CW cI cZ cH cP cT ad V T ag nP nH rN nf pn sp sk py pd Ec))) (cA ad 110 sz)) 8 48 (cA ad 110 sz) := by
  refine ch_of (own := RL) (Qc := Qi D ad 110 (fun r E1 => r = kAsk nH x dy ∧ ∃ Ec o1, E1 = hE cJ Ec o1 ∧ ((kAsk nH x dy = 0 ∧ o1 0 = ((amt V ag nP (ix x) (ix dy)).2.1).toInt64 ∧ CW cI cZ cH cP cT ad V T ag nP nH rN nf pn sp sk py pd Ec) ∨ (¬ kAsk nH x dy = 0 ∧ CW cI cZ cH cP cT ad V T ag nP nH rN nf pn sp sk py pd Ec)))) rfl (by decide +kernel) (Nat.le_of_ble_eq_true rfl) ?_ sz
  intro p e s m args below meth c ls Q B hT hX hN hW hr hlk htab hl hS hA hQ
  have hx := B.1
  have hb := B.2.1
  have hl : lv_has ls 5 [(0, .ref (ad 0)), (1, .int x), (2, .int dy), (3, .ref (ad 109))] := hl
  refine lv_aload_n hx hb dL_childAmount_0 rfl (lv_at hl 3 rfl) ?_
  refine lv_iconst (v := 0) hx hb dL_childAmount_1 (by decide) ?_
  refine lv_aload_n hx hb dL_childAmount_2 rfl (lv_at hl 0 rfl) ?_
  refine lv_iload_n hx hb dL_childAmount_3 rfl (lv_at hl 1 rfl) ?_
  refine lv_iload_n hx hb dL_childAmount_4 rfl (lv_at hl 2 rfl) ?_
  refine y_xci (y_xrunV (ad' := ad) (σ := fun k => k) (n9 := 109) (E' := cE cI cZ cH cP cT ad V T ag nP nH rN nf pn sp sk py pd so en rA rC rI aA aC aH aT aP) (k := 0) B hT hX hW hS (fun k h => Nat.lt_of_lt_of_le h (by decide)) (fun _ _ => rfl) (fun k h => if_pos h) (As := [.int x, .int dy]) (rest := [.int 0, .ref (ad 109)]) (fun sz => mt_childAmount hlf (fun i j hi hj => hI i j (by omega) (by omega)) V T ag nP nH rN nf pn sp sk py pd so en rA rC rI aA aC aH aT aP x dy hti htz hth htp htt hInv sz) (cwL_86 B.2.2.2.2.1 ⟨Nat.le_of_ble_eq_true rfl, Nat.le_of_ble_eq_true rfl⟩) (b_recv B (hW.subw (n := 109) (σ := fun k => k) (fun k h => Nat.lt_of_lt_of_le h (by decide)) (fun _ _ => rfl) (fun k h => if_pos h)) (by decide) cE_0 rfl) rfl hl.1 (Nat.le_of_ble_eq_true rfl) dL_childAmount_5 ⟨Nat.le_of_ble_eq_true rfl, Nat.le_of_ble_eq_true rfl⟩) hI hW hS (fun k h => Nat.lt_of_lt_of_le h (by decide)) (fun _ _ => rfl) (fun E1 => hE cJ E1 o) (fun E1 k h => if_pos h) h_out (fun Ex ce q9 E1 H locs hx9 hW hS hce hcv hcl => ?_) (fun r E1 H locs hp hW hS => ?_)
  · obtain ⟨hx9, hC⟩ := hx9
    rcases hx9 with ⟨rfl, hk⟩ | ⟨rfl, hk⟩
    · skip
      refine h_catch B hT hN htab (pre := []) (suf := [(0, 10, 17, 13)]) (a := 0) (b := 10) (h := 13) (ct := 25) rfl (fun z hz => nomatch hz) (by decide) (by decide) (r7_in _ (List.mem_of_getElem? (i := 23) rfl)) (List.mem_of_getElem? (i := 25) rfl) hce hcv hcl ?_
      refine lv_astore (lv' := [(4, .ref q9), (0, .ref (ad 0)), (1, .int x), (2, .int dy), (3, .ref (ad 109))]) hx hb dL_childAmount_13 hl (by decide) rfl (fun ls hl => ?_)
      refine lv_iconst (v := 1) hx hb dL_childAmount_15 (by decide) ?_
      exact e_i hQ B hr hlk hS hW dL_childAmount_16 (Nat.le_of_ble_eq_true rfl) (Nat.le_of_ble_eq_true rfl) (⟨hk.symm, _, _, rfl, Or.inr ⟨by rw [hk]; decide, hC⟩⟩)
    · skip
      refine h_catch B hT hN htab (pre := [(0, 10, 13, 25)]) (suf := []) (a := 0) (b := 10) (h := 17) (ct := 13) rfl (List.forall_mem_cons.mpr ⟨⟨by decide, "java/lang/IndexOutOfBoundsException", (r7_in _ (List.mem_of_getElem? (i := 23) rfl)), List.mem_of_getElem? (i := 1) rfl⟩, (fun z hz => nomatch hz)⟩) (by decide) (by decide) (r6_in _ (List.mem_of_getElem? (i := 0) rfl)) (List.mem_of_getElem? (i := 24) rfl) hce hcv hcl ?_
      refine lv_astore (lv' := [(4, .ref q9), (0, .ref (ad 0)), (1, .int x), (2, .int dy), (3, .ref (ad 109))]) hx hb dL_childAmount_17 hl (by decide) rfl (fun ls hl => ?_)
      refine lv_iconst (v := 2) hx hb dL_childAmount_19 (by decide) ?_
      exact e_i hQ B hr hlk hS hW dL_childAmount_20 (Nat.le_of_ble_eq_true rfl) (Nat.le_of_ble_eq_true rfl) (⟨hk.symm, _, _, rfl, Or.inr ⟨by rw [hk]; decide, hC⟩⟩)
  · skip
    refine lv_i2l hx hb dL_childAmount_8 rfl ?_
    refine b_last B hI hA hW hS htj (j := 0) (by decide) rfl in_01 rfl dL_childAmount_9 (fun H locs hW hS => ?_)
    have hW := hE_w hW
    refine lv_goto (tgt := 21) hx hb dL_childAmount_10 (by decide) ?_
    refine lv_iconst (v := 0) hx hb dL_childAmount_21 (by decide) ?_
    exact e_i hQ B hr hlk hS hW dL_childAmount_22 (Nat.le_of_ble_eq_true rfl) (Nat.le_of_ble_eq_true rfl) (⟨hp.1.1.symm, _, _, rfl, Or.inl ⟨hp.1.1, by rw [updL_0, hp.1.2], hp.2⟩⟩)
set_option maxHeartbeats 4000000 in
set_option maxRecDepth 100000 in
theorem lh_housingAmount {l : Launch} (hlf : l.stackTraces = false) {D : va_G} {tys : List (ClassId × FieldType)} {ad : Nat → Nat} (hI : aI ad 110) {cJ cF : ClassId} (o : Nat → Int64) {cI cZ cH cP cT : ClassId} (V T : Nat → Nat → Int32) (ag : Nat → Int32) (nP nH rN : Nat) (nf pn : Int32) (sp sk : Int64) (py pd : Nat → Nat → Int32) (so en : Nat → Int32) (rA rC rI aA aC aH aT aP : Int32) (x dy : Int32) (hti : tys[0]? = some (cI, .int)) (htz : tys[1]? = some (cZ, .boolean)) (hth : tys[2]? = some (cH, .object RX1)) (htp : tys[3]? = some (cP, .object RX2)) (htt : tys[4]? = some (cT, .object RX4)) (htj : tys[5]? = some (cJ, .long)) (htf : tys[6]? = some (cF, .double)) (hInv : Inv V T ag nP nH rN so pd)  (sz : Nat) : Met l yL_housingAmount (Cond.codeWith yL_housingAmount cL_housingAmount 5 (some .int) [(0, 10, 13, 25), (0, 10, 17, 13)] :: wsL_law) (rmk 7 8 48) (va_Pc [.ref (ad 0), .int x, .int dy, .ref (ad 109)] (PN D tys ad 110 (hE cJ (cE cI cZ cH cP cT ad V T ag nP nH rN nf pn sp sk py pd so en rA rC rI aA aC aH aT aP) o) sz)) (Qi D ad 110 (fun r E1 => r = kAsk nH x dy ∧ ∃ Ec o1, E1 = hE cJ Ec o1 ∧ ((kAsk nH x dy = 0 ∧ o1 0 = ((amt V ag nP (ix x) (ix dy)).2.2.1).toInt64 ∧ CW cI cZ cH cP cT ad V T ag nP nH rN nf pn sp sk py pd Ec) ∨ (¬ kAsk nH x dy = 0 ∧ CW cI cZ cH cP cT ad V T ag nP nH rN nf pn sp sk py pd Ec))) (cA ad 110 sz)) 8 48 (cA ad 110 sz) := by
  refine ch_of (own := RL) (Qc := Qi D ad 110 (fun r E1 => r = kAsk nH x dy ∧ ∃ Ec o1, E1 = hE cJ Ec o1 ∧ ((kAsk nH x dy = 0 ∧ o1 0 = ((amt V ag nP (ix x) (ix dy)).2.2.1).toInt64 ∧ CW cI cZ cH cP cT ad V T ag nP nH rN nf pn sp sk py pd Ec) ∨ (¬ kAsk nH x dy = 0 ∧ CW cI cZ cH cP cT ad V T ag nP nH rN nf pn sp sk py pd Ec)))) rfl (by decide +kernel) (Nat.le_of_ble_eq_true rfl) ?_ sz
  intro p e s m args below meth c ls Q B hT hX hN hW hr hlk htab hl hS hA hQ
  have hx := B.1
  have hb := B.2.1
  have hl : lv_has ls 5 [(0, .ref (ad 0)), (1, .int x), (2, .int dy), (3, .ref (ad 109))] := hl
  refine lv_aload_n hx hb dL_housingAmount_0 rfl (lv_at hl 3 rfl) ?_
  refine lv_iconst (v := 0) hx hb dL_housingAmount_1 (by decide) ?_
  refine lv_aload_n hx hb dL_housingAmount_2 rfl (lv_at hl 0 rfl) ?_
  refine lv_iload_n hx hb dL_housingAmount_3 rfl (lv_at hl 1 rfl) ?_
  refine lv_iload_n hx hb dL_housingAmount_4 rfl (lv_at hl 2 rfl) ?_
  refine y_xci (y_xrunV (ad' := ad) (σ := fun k => k) (n9 := 109) (E' := cE cI cZ cH cP cT ad V T ag nP nH rN nf pn sp sk py pd so en rA rC rI aA aC aH aT aP) (k := 0) B hT hX hW hS (fun k h => Nat.lt_of_lt_of_le h (by decide)) (fun _ _ => rfl) (fun k h => if_pos h) (As := [.int x, .int dy]) (rest := [.int 0, .ref (ad 109)]) (fun sz => mt_housingAmount hlf (fun i j hi hj => hI i j (by omega) (by omega)) V T ag nP nH rN nf pn sp sk py pd so en rA rC rI aA aC aH aT aP x dy hti htz hth htp htt hInv sz) (cwL_89 B.2.2.2.2.1 ⟨Nat.le_of_ble_eq_true rfl, Nat.le_of_ble_eq_true rfl⟩) (b_recv B (hW.subw (n := 109) (σ := fun k => k) (fun k h => Nat.lt_of_lt_of_le h (by decide)) (fun _ _ => rfl) (fun k h => if_pos h)) (by decide) cE_0 rfl) rfl hl.1 (Nat.le_of_ble_eq_true rfl) dL_housingAmount_5 ⟨Nat.le_of_ble_eq_true rfl, Nat.le_of_ble_eq_true rfl⟩) hI hW hS (fun k h => Nat.lt_of_lt_of_le h (by decide)) (fun _ _ => rfl) (fun E1 => hE cJ E1 o) (fun E1 k h => if_pos h) h_out (fun Ex ce q9 E1 H locs hx9 hW hS hce hcv hcl => ?_) (fun r E1 H locs hp hW hS => ?_)
  · obtain ⟨hx9, hC⟩ := hx9
    rcases hx9 with ⟨rfl, hk⟩ | ⟨rfl, hk⟩
    · skip
      refine h_catch B hT hN htab (pre := []) (suf := [(0, 10, 17, 13)]) (a := 0) (b := 10) (h := 13) (ct := 25) rfl (fun z hz => nomatch hz) (by decide) (by decide) (r7_in _ (List.mem_of_getElem? (i := 23) rfl)) (List.mem_of_getElem? (i := 25) rfl) hce hcv hcl ?_
      refine lv_astore (lv' := [(4, .ref q9), (0, .ref (ad 0)), (1, .int x), (2, .int dy), (3, .ref (ad 109))]) hx hb dL_housingAmount_13 hl (by decide) rfl (fun ls hl => ?_)
      refine lv_iconst (v := 1) hx hb dL_housingAmount_15 (by decide) ?_
      exact e_i hQ B hr hlk hS hW dL_housingAmount_16 (Nat.le_of_ble_eq_true rfl) (Nat.le_of_ble_eq_true rfl) (⟨hk.symm, _, _, rfl, Or.inr ⟨by rw [hk]; decide, hC⟩⟩)
    · skip
      refine h_catch B hT hN htab (pre := [(0, 10, 13, 25)]) (suf := []) (a := 0) (b := 10) (h := 17) (ct := 13) rfl (List.forall_mem_cons.mpr ⟨⟨by decide, "java/lang/IndexOutOfBoundsException", (r7_in _ (List.mem_of_getElem? (i := 23) rfl)), List.mem_of_getElem? (i := 1) rfl⟩, (fun z hz => nomatch hz)⟩) (by decide) (by decide) (r6_in _ (List.mem_of_getElem? (i := 0) rfl)) (List.mem_of_getElem? (i := 24) rfl) hce hcv hcl ?_
      refine lv_astore (lv' := [(4, .ref q9), (0, .ref (ad 0)), (1, .int x), (2, .int dy), (3, .ref (ad 109))]) hx hb dL_housingAmount_17 hl (by decide) rfl (fun ls hl => ?_)
      refine lv_iconst (v := 2) hx hb dL_housingAmount_19 (by decide) ?_
      exact e_i hQ B hr hlk hS hW dL_housingAmount_20 (Nat.le_of_ble_eq_true rfl) (Nat.le_of_ble_eq_true rfl) (⟨hk.symm, _, _, rfl, Or.inr ⟨by rw [hk]; decide, hC⟩⟩)
  · skip
    refine lv_i2l hx hb dL_housingAmount_8 rfl ?_
    refine b_last B hI hA hW hS htj (j := 0) (by decide) rfl in_01 rfl dL_housingAmount_9 (fun H locs hW hS => ?_)
    have hW := hE_w hW
    refine lv_goto (tgt := 21) hx hb dL_housingAmount_10 (by decide) ?_
    refine lv_iconst (v := 0) hx hb dL_housingAmount_21 (by decide) ?_
    exact e_i hQ B hr hlk hS hW dL_housingAmount_22 (Nat.le_of_ble_eq_true rfl) (Nat.le_of_ble_eq_true rfl) (⟨hp.1.1.symm, _, _, rfl, Or.inl ⟨hp.1.1, by rw [updL_0, hp.1.2], hp.2⟩⟩)
set_option maxHeartbeats 4000000 in
set_option maxRecDepth 100000 in
theorem lh_reason {l : Launch} (hlf : l.stackTraces = false) {D : va_G} {tys : List (ClassId × FieldType)} {ad : Nat → Nat} (hI : aI ad 110) {cJ cF : ClassId} (o : Nat → Int64) {cI cZ cH cP cT : ClassId} (V T : Nat → Nat → Int32) (ag : Nat → Int32) (nP nH rN : Nat) (nf pn : Int32) (sp sk : Int64) (py pd : Nat → Nat → Int32) (so en : Nat → Int32) (rA rC rI aA aC aH aT aP : Int32) (x dy : Int32) (hti : tys[0]? = some (cI, .int)) (htz : tys[1]? = some (cZ, .boolean)) (hth : tys[2]? = some (cH, .object RX1)) (htp : tys[3]? = some (cP, .object RX2)) (htt : tys[4]? = some (cT, .object RX4)) (htj : tys[5]? = some (cJ, .long)) (htf : tys[6]? = some (cF, .double)) (hInv : Inv V T ag nP nH rN so pd)  (sz : Nat) : Met l yL_reason (Cond.codeWith yL_reason cL_reason 5 (some .int) [(0, 10, 13, 25), (0, 10, 17, 13)] :: wsL_law) (rmk 7 8 48) (va_Pc [.ref (ad 0), .int x, .int dy, .ref (ad 109)] (PN D tys ad 110 (hE cJ (cE cI cZ cH cP cT ad V T ag nP nH rN nf pn sp sk py pd so en rA rC rI aA aC aH aT aP) o) sz)) (Qi D ad 110 (fun r E1 => r = kAsk nH x dy ∧ ∃ Ec o1, E1 = hE cJ Ec o1 ∧ ((kAsk nH x dy = 0 ∧ o1 0 = (rsn (cnt V ag (nI (ix x)) (ix dy) nP).1 (amt V ag nP (ix x) (ix dy)).2.2.2.1 (amt V ag nP (ix x) (ix dy)).2.2.2.2).toInt64 ∧ CW cI cZ cH cP cT ad V T ag nP nH rN nf pn sp sk py pd Ec) ∨ (¬ kAsk nH x dy = 0 ∧ CW cI cZ cH cP cT ad V T ag nP nH rN nf pn sp sk py pd Ec))) (cA ad 110 sz)) 8 48 (cA ad 110 sz) := by
  refine ch_of (own := RL) (Qc := Qi D ad 110 (fun r E1 => r = kAsk nH x dy ∧ ∃ Ec o1, E1 = hE cJ Ec o1 ∧ ((kAsk nH x dy = 0 ∧ o1 0 = (rsn (cnt V ag (nI (ix x)) (ix dy) nP).1 (amt V ag nP (ix x) (ix dy)).2.2.2.1 (amt V ag nP (ix x) (ix dy)).2.2.2.2).toInt64 ∧ CW cI cZ cH cP cT ad V T ag nP nH rN nf pn sp sk py pd Ec) ∨ (¬ kAsk nH x dy = 0 ∧ CW cI cZ cH cP cT ad V T ag nP nH rN nf pn sp sk py pd Ec)))) rfl (by decide +kernel) (Nat.le_of_ble_eq_true rfl) ?_ sz
  intro p e s m args below meth c ls Q B hT hX hN hW hr hlk htab hl hS hA hQ
  have hx := B.1
  have hb := B.2.1
  have hl : lv_has ls 5 [(0, .ref (ad 0)), (1, .int x), (2, .int dy), (3, .ref (ad 109))] := hl
  refine lv_aload_n hx hb dL_reason_0 rfl (lv_at hl 3 rfl) ?_
  refine lv_iconst (v := 0) hx hb dL_reason_1 (by decide) ?_
  refine lv_aload_n hx hb dL_reason_2 rfl (lv_at hl 0 rfl) ?_
  refine lv_iload_n hx hb dL_reason_3 rfl (lv_at hl 1 rfl) ?_
  refine lv_iload_n hx hb dL_reason_4 rfl (lv_at hl 2 rfl) ?_
  refine y_xci (y_xrunV (ad' := ad) (σ := fun k => k) (n9 := 109) (E' := cE cI cZ cH cP cT ad V T ag nP nH rN nf pn sp sk py pd so en rA rC rI aA aC aH aT aP) (k := 0) B hT hX hW hS (fun k h => Nat.lt_of_lt_of_le h (by decide)) (fun _ _ => rfl) (fun k h => if_pos h) (As := [.int x, .int dy]) (rest := [.int 0, .ref (ad 109)]) (fun sz => mt_reason hlf (fun i j hi hj => hI i j (by omega) (by omega)) V T ag nP nH rN nf pn sp sk py pd so en rA rC rI aA aC aH aT aP x dy hti htz hth htp htt hInv sz) (cwL_92 B.2.2.2.2.1 ⟨Nat.le_of_ble_eq_true rfl, Nat.le_of_ble_eq_true rfl⟩) (b_recv B (hW.subw (n := 109) (σ := fun k => k) (fun k h => Nat.lt_of_lt_of_le h (by decide)) (fun _ _ => rfl) (fun k h => if_pos h)) (by decide) cE_0 rfl) rfl hl.1 (Nat.le_of_ble_eq_true rfl) dL_reason_5 ⟨Nat.le_of_ble_eq_true rfl, Nat.le_of_ble_eq_true rfl⟩) hI hW hS (fun k h => Nat.lt_of_lt_of_le h (by decide)) (fun _ _ => rfl) (fun E1 => hE cJ E1 o) (fun E1 k h => if_pos h) h_out (fun Ex ce q9 E1 H locs hx9 hW hS hce hcv hcl => ?_) (fun r E1 H locs hp hW hS => ?_)
  · obtain ⟨hx9, hC⟩ := hx9
    rcases hx9 with ⟨rfl, hk⟩ | ⟨rfl, hk⟩
    · skip
      refine h_catch B hT hN htab (pre := []) (suf := [(0, 10, 17, 13)]) (a := 0) (b := 10) (h := 13) (ct := 25) rfl (fun z hz => nomatch hz) (by decide) (by decide) (r7_in _ (List.mem_of_getElem? (i := 23) rfl)) (List.mem_of_getElem? (i := 25) rfl) hce hcv hcl ?_
      refine lv_astore (lv' := [(4, .ref q9), (0, .ref (ad 0)), (1, .int x), (2, .int dy), (3, .ref (ad 109))]) hx hb dL_reason_13 hl (by decide) rfl (fun ls hl => ?_)
      refine lv_iconst (v := 1) hx hb dL_reason_15 (by decide) ?_
      exact e_i hQ B hr hlk hS hW dL_reason_16 (Nat.le_of_ble_eq_true rfl) (Nat.le_of_ble_eq_true rfl) (⟨hk.symm, _, _, rfl, Or.inr ⟨by rw [hk]; decide, hC⟩⟩)
    · skip
      refine h_catch B hT hN htab (pre := [(0, 10, 13, 25)]) (suf := []) (a := 0) (b := 10) (h := 17) (ct := 13) rfl (List.forall_mem_cons.mpr ⟨⟨by decide, "java/lang/IndexOutOfBoundsException", (r7_in _ (List.mem_of_getElem? (i := 23) rfl)), List.mem_of_getElem? (i := 1) rfl⟩, (fun z hz => nomatch hz)⟩) (by decide) (by decide) (r6_in _ (List.mem_of_getElem? (i := 0) rfl)) (List.mem_of_getElem? (i := 24) rfl) hce hcv hcl ?_
      refine lv_astore (lv' := [(4, .ref q9), (0, .ref (ad 0)), (1, .int x), (2, .int dy), (3, .ref (ad 109))]) hx hb dL_reason_17 hl (by decide) rfl (fun ls hl => ?_)
      refine lv_iconst (v := 2) hx hb dL_reason_19 (by decide) ?_
      exact e_i hQ B hr hlk hS hW dL_reason_20 (Nat.le_of_ble_eq_true rfl) (Nat.le_of_ble_eq_true rfl) (⟨hk.symm, _, _, rfl, Or.inr ⟨by rw [hk]; decide, hC⟩⟩)
  · skip
    refine lv_i2l hx hb dL_reason_8 rfl ?_
    refine b_last B hI hA hW hS htj (j := 0) (by decide) rfl in_01 rfl dL_reason_9 (fun H locs hW hS => ?_)
    have hW := hE_w hW
    refine lv_goto (tgt := 21) hx hb dL_reason_10 (by decide) ?_
    refine lv_iconst (v := 0) hx hb dL_reason_21 (by decide) ?_
    exact e_i hQ B hr hlk hS hW dL_reason_22 (Nat.le_of_ble_eq_true rfl) (Nat.le_of_ble_eq_true rfl) (⟨hp.1.1.symm, _, _, rfl, Or.inl ⟨hp.1.1, by rw [updL_0, hp.1.2], hp.2⟩⟩)
set_option maxHeartbeats 4000000 in
set_option maxRecDepth 100000 in
theorem lh_nextChange {l : Launch} (hlf : l.stackTraces = false) {D : va_G} {tys : List (ClassId × FieldType)} {ad : Nat → Nat} (hI : aI ad 110) {cJ cF : ClassId} (o : Nat → Int64) {cI cZ cH cP cT : ClassId} (V T : Nat → Nat → Int32) (ag : Nat → Int32) (nP nH rN : Nat) (nf pn : Int32) (sp sk : Int64) (py pd : Nat → Nat → Int32) (so en : Nat → Int32) (rA rC rI aA aC aH aT aP : Int32) (x dy : Int32) (hti : tys[0]? = some (cI, .int)) (htz : tys[1]? = some (cZ, .boolean)) (hth : tys[2]? = some (cH, .object RX1)) (htp : tys[3]? = some (cP, .object RX2)) (htt : tys[4]? = some (cT, .object RX4)) (htj : tys[5]? = some (cJ, .long)) (htf : tys[6]? = some (cF, .double)) (hInv : Inv V T ag nP nH rN so pd)  (sz : Nat) : Met l yL_nextChange (Cond.codeWith yL_nextChange cL_nextChange 5 (some .int) [(0, 10, 13, 25), (0, 10, 17, 13), (0, 10, 21, 37)] :: wsL_law) (rmk 7 8 48) (va_Pc [.ref (ad 0), .int x, .int dy, .ref (ad 109)] (PN D tys ad 110 (hE cJ (cE cI cZ cH cP cT ad V T ag nP nH rN nf pn sp sk py pd so en rA rC rI aA aC aH aT aP) o) sz)) (Qi D ad 110 (fun r E1 => r = kNxt V ag nP nH x dy ∧ ∃ Ec o1, E1 = hE cJ Ec o1 ∧ ((kNxt V ag nP nH x dy = 0 ∧ o1 0 = (nI (nxD V ag nP (ix x) (ix dy))).toInt64 ∧ CW cI cZ cH cP cT ad V T ag nP nH rN nf pn sp sk py pd Ec) ∨ (¬ kNxt V ag nP nH x dy = 0 ∧ CW cI cZ cH cP cT ad V T ag nP nH rN nf pn sp sk py pd Ec))) (cA ad 110 sz)) 8 48 (cA ad 110 sz) := by
  refine ch_of (own := RL) (Qc := Qi D ad 110 (fun r E1 => r = kNxt V ag nP nH x dy ∧ ∃ Ec o1, E1 = hE cJ Ec o1 ∧ ((kNxt V ag nP nH x dy = 0 ∧ o1 0 = (nI (nxD V ag nP (ix x) (ix dy))).toInt64 ∧ CW cI cZ cH cP cT ad V T ag nP nH rN nf pn sp sk py pd Ec) ∨ (¬ kNxt V ag nP nH x dy = 0 ∧ CW cI cZ cH cP cT ad V T ag nP nH rN nf pn sp sk py pd Ec)))) rfl (by decide +kernel) (Nat.le_of_ble_eq_true rfl) ?_ sz
  intro p e s m args below meth c ls Q B hT hX hN hW hr hlk htab hl hS hA hQ
  have hx := B.1
  have hb := B.2.1
  have hl : lv_has ls 5 [(0, .ref (ad 0)), (1, .int x), (2, .int dy), (3, .ref (ad 109))] := hl
  refine lv_aload_n hx hb dL_nextChange_0 rfl (lv_at hl 3 rfl) ?_
  refine lv_iconst (v := 0) hx hb dL_nextChange_1 (by decide) ?_
  refine lv_aload_n hx hb dL_nextChange_2 rfl (lv_at hl 0 rfl) ?_
  refine lv_iload_n hx hb dL_nextChange_3 rfl (lv_at hl 1 rfl) ?_
  refine lv_iload_n hx hb dL_nextChange_4 rfl (lv_at hl 2 rfl) ?_
  refine y_xci (y_xrunV (ad' := ad) (σ := fun k => k) (n9 := 109) (E' := cE cI cZ cH cP cT ad V T ag nP nH rN nf pn sp sk py pd so en rA rC rI aA aC aH aT aP) (k := 0) B hT hX hW hS (fun k h => Nat.lt_of_lt_of_le h (by decide)) (fun _ _ => rfl) (fun k h => if_pos h) (As := [.int x, .int dy]) (rest := [.int 0, .ref (ad 109)]) (fun sz => mt_nextChange hlf (fun i j hi hj => hI i j (by omega) (by omega)) V T ag nP nH rN nf pn sp sk py pd so en rA rC rI aA aC aH aT aP x dy hti htz hth htp htt hInv sz) (cwL_96 B.2.2.2.2.1 ⟨Nat.le_of_ble_eq_true rfl, Nat.le_of_ble_eq_true rfl⟩) (b_recv B (hW.subw (n := 109) (σ := fun k => k) (fun k h => Nat.lt_of_lt_of_le h (by decide)) (fun _ _ => rfl) (fun k h => if_pos h)) (by decide) cE_0 rfl) rfl hl.1 (Nat.le_of_ble_eq_true rfl) dL_nextChange_5 ⟨Nat.le_of_ble_eq_true rfl, Nat.le_of_ble_eq_true rfl⟩) hI hW hS (fun k h => Nat.lt_of_lt_of_le h (by decide)) (fun _ _ => rfl) (fun E1 => hE cJ E1 o) (fun E1 k h => if_pos h) h_out (fun Ex ce q9 E1 H locs hx9 hW hS hce hcv hcl => ?_) (fun r E1 H locs hp hW hS => ?_)
  · obtain ⟨hx9, hC⟩ := hx9
    rcases hx9 with ⟨rfl, hk⟩ | ⟨rfl, hk⟩ | ⟨rfl, hk⟩
    · skip
      refine h_catch B hT hN htab (pre := []) (suf := [(0, 10, 17, 13), (0, 10, 21, 37)]) (a := 0) (b := 10) (h := 13) (ct := 25) rfl (fun z hz => nomatch hz) (by decide) (by decide) (r7_in _ (List.mem_of_getElem? (i := 23) rfl)) (List.mem_of_getElem? (i := 25) rfl) hce hcv hcl ?_
      refine lv_astore (lv' := [(4, .ref q9), (0, .ref (ad 0)), (1, .int x), (2, .int dy), (3, .ref (ad 109))]) hx hb dL_nextChange_13 hl (by decide) rfl (fun ls hl => ?_)
      refine lv_iconst (v := 1) hx hb dL_nextChange_15 (by decide) ?_
      exact e_i hQ B hr hlk hS hW dL_nextChange_16 (Nat.le_of_ble_eq_true rfl) (Nat.le_of_ble_eq_true rfl) (⟨hk.symm, _, _, rfl, Or.inr ⟨by rw [hk]; decide, hC⟩⟩)
    · skip
      refine h_catch B hT hN htab (pre := [(0, 10, 13, 25)]) (suf := [(0, 10, 21, 37)]) (a := 0) (b := 10) (h := 17) (ct := 13) rfl (List.forall_mem_cons.mpr ⟨⟨by decide, "java/lang/IndexOutOfBoundsException", (r7_in _ (List.mem_of_getElem? (i := 23) rfl)), List.mem_of_getElem? (i := 1) rfl⟩, (fun z hz => nomatch hz)⟩) (by decide) (by decide) (r6_in _ (List.mem_of_getElem? (i := 0) rfl)) (List.mem_of_getElem? (i := 24) rfl) hce hcv hcl ?_
      refine lv_astore (lv' := [(4, .ref q9), (0, .ref (ad 0)), (1, .int x), (2, .int dy), (3, .ref (ad 109))]) hx hb dL_nextChange_17 hl (by decide) rfl (fun ls hl => ?_)
      refine lv_iconst (v := 2) hx hb dL_nextChange_19 (by decide) ?_
      exact e_i hQ B hr hlk hS hW dL_nextChange_20 (Nat.le_of_ble_eq_true rfl) (Nat.le_of_ble_eq_true rfl) (⟨hk.symm, _, _, rfl, Or.inr ⟨by rw [hk]; decide, hC⟩⟩)
    · skip
      refine h_catch B hT hN htab (pre := [(0, 10, 13, 25), (0, 10, 17, 13)]) (suf := []) (a := 0) (b := 10) (h := 21) (ct := 37) rfl (List.forall_mem_cons.mpr ⟨⟨by decide, "java/lang/IndexOutOfBoundsException", (r7_in _ (List.mem_of_getElem? (i := 23) rfl)), List.mem_of_getElem? (i := 3) rfl⟩, (List.forall_mem_cons.mpr ⟨⟨by decide, "java/lang/IllegalArgumentException", (r6_in _ (List.mem_of_getElem? (i := 0) rfl)), List.mem_of_getElem? (i := 5) rfl⟩, (fun z hz => nomatch hz)⟩)⟩) (by decide) (by decide) (r10_in _ (List.mem_of_getElem? (i := 20) rfl)) (List.mem_of_getElem? (i := 26) rfl) hce hcv hcl ?_
      refine lv_astore (lv' := [(4, .ref q9), (0, .ref (ad 0)), (1, .int x), (2, .int dy), (3, .ref (ad 109))]) hx hb dL_nextChange_21 hl (by decide) rfl (fun ls hl => ?_)
      refine lv_iconst (v := 3) hx hb dL_nextChange_23 (by decide) ?_
      exact e_i hQ B hr hlk hS hW dL_nextChange_24 (Nat.le_of_ble_eq_true rfl) (Nat.le_of_ble_eq_true rfl) (⟨hk.symm, _, _, rfl, Or.inr ⟨by rw [hk]; decide, hC⟩⟩)
  · skip
    refine lv_i2l hx hb dL_nextChange_8 rfl ?_
    refine b_last B hI hA hW hS htj (j := 0) (by decide) rfl in_01 rfl dL_nextChange_9 (fun H locs hW hS => ?_)
    have hW := hE_w hW
    refine lv_goto (tgt := 25) hx hb dL_nextChange_10 (by decide) ?_
    refine lv_iconst (v := 0) hx hb dL_nextChange_25 (by decide) ?_
    exact e_i hQ B hr hlk hS hW dL_nextChange_26 (Nat.le_of_ble_eq_true rfl) (Nat.le_of_ble_eq_true rfl) (⟨hp.1.1.symm, _, _, rfl, Or.inl ⟨hp.1.1, by rw [updL_0, hp.1.2], hp.2⟩⟩)
set_option maxHeartbeats 4000000 in
set_option maxRecDepth 100000 in
theorem lh_entitlement {l : Launch} (hlf : l.stackTraces = false) {D : va_G} {tys : List (ClassId × FieldType)} {ad : Nat → Nat} (hI : aI ad 110) {cJ cF : ClassId} (o : Nat → Int64) {cI cZ cH cP cT : ClassId} (V T : Nat → Nat → Int32) (ag : Nat → Int32) (nP nH rN : Nat) (nf pn : Int32) (sp sk : Int64) (py pd : Nat → Nat → Int32) (so en : Nat → Int32) (rA rC rI aA aC aH aT aP : Int32) (x y : Int32) (hti : tys[0]? = some (cI, .int)) (htz : tys[1]? = some (cZ, .boolean)) (hth : tys[2]? = some (cH, .object RX1)) (htp : tys[3]? = some (cP, .object RX2)) (htt : tys[4]? = some (cT, .object RX4)) (htj : tys[5]? = some (cJ, .long)) (htf : tys[6]? = some (cF, .double)) (hInv : Inv V T ag nP nH rN so pd)  (sz : Nat) : Met l yL_entitlement (Cond.codeWith yL_entitlement cL_entitlement 5 (some .int) [(0, 10, 13, 25)] :: wsL_law) (rmk 7 8 48) (va_Pc [.ref (ad 0), .int x, .int y, .ref (ad 109)] (PN D tys ad 110 (hE cJ (cE cI cZ cH cP cT ad V T ag nP nH rN nf pn sp sk py pd so en rA rC rI aA aC aH aT aP) o) sz)) (Qi D ad 110 (fun r E1 => r = kMon nH x y ∧ ∃ Ec o1, E1 = hE cJ Ec o1 ∧ ((kMon nH x y = 0 ∧ o1 0 = (due V ag nP (ix x) (ix y)).toInt64 ∧ CW cI cZ cH cP cT ad V T ag nP nH rN nf pn sp sk py pd Ec) ∨ (¬ kMon nH x y = 0 ∧ CW cI cZ cH cP cT ad V T ag nP nH rN nf pn sp sk py pd Ec))) (cA ad 110 sz)) 8 48 (cA ad 110 sz) := by
  refine ch_of (own := RL) (Qc := Qi D ad 110 (fun r E1 => r = kMon nH x y ∧ ∃ Ec o1, E1 = hE cJ Ec o1 ∧ ((kMon nH x y = 0 ∧ o1 0 = (due V ag nP (ix x) (ix y)).toInt64 ∧ CW cI cZ cH cP cT ad V T ag nP nH rN nf pn sp sk py pd Ec) ∨ (¬ kMon nH x y = 0 ∧ CW cI cZ cH cP cT ad V T ag nP nH rN nf pn sp sk py pd Ec)))) rfl (by decide +kernel) (Nat.le_of_ble_eq_true rfl) ?_ sz
  intro p e s m args below meth c ls Q B hT hX hN hW hr hlk htab hl hS hA hQ
  have hx := B.1
  have hb := B.2.1
  have hl : lv_has ls 5 [(0, .ref (ad 0)), (1, .int x), (2, .int y), (3, .ref (ad 109))] := hl
  refine lv_aload_n hx hb dL_entitlement_0 rfl (lv_at hl 3 rfl) ?_
  refine lv_iconst (v := 0) hx hb dL_entitlement_1 (by decide) ?_
  refine lv_aload_n hx hb dL_entitlement_2 rfl (lv_at hl 0 rfl) ?_
  refine lv_iload_n hx hb dL_entitlement_3 rfl (lv_at hl 1 rfl) ?_
  refine lv_iload_n hx hb dL_entitlement_4 rfl (lv_at hl 2 rfl) ?_
  refine y_xci (y_xrunV (ad' := ad) (σ := fun k => k) (n9 := 109) (E' := cE cI cZ cH cP cT ad V T ag nP nH rN nf pn sp sk py pd so en rA rC rI aA aC aH aT aP) (k := 0) B hT hX hW hS (fun k h => Nat.lt_of_lt_of_le h (by decide)) (fun _ _ => rfl) (fun k h => if_pos h) (As := [.int x, .int y]) (rest := [.int 0, .ref (ad 109)]) (fun sz => mt_entitlement hlf (fun i j hi hj => hI i j (by omega) (by omega)) V T ag nP nH rN nf pn sp sk py pd so en rA rC rI aA aC aH aT aP x y hti htz hth htp htt hInv sz) (cwL_99 B.2.2.2.2.1 ⟨Nat.le_of_ble_eq_true rfl, Nat.le_of_ble_eq_true rfl⟩) (b_recv B (hW.subw (n := 109) (σ := fun k => k) (fun k h => Nat.lt_of_lt_of_le h (by decide)) (fun _ _ => rfl) (fun k h => if_pos h)) (by decide) cE_0 rfl) rfl hl.1 (Nat.le_of_ble_eq_true rfl) dL_entitlement_5 ⟨Nat.le_of_ble_eq_true rfl, Nat.le_of_ble_eq_true rfl⟩) hI hW hS (fun k h => Nat.lt_of_lt_of_le h (by decide)) (fun _ _ => rfl) (fun E1 => hE cJ E1 o) (fun E1 k h => if_pos h) h_out (fun Ex ce q9 E1 H locs hx9 hW hS hce hcv hcl => ?_) (fun r E1 H locs hp hW hS => ?_)
  · obtain ⟨hx9, hC⟩ := hx9
    obtain ⟨rfl, hk⟩ := hx9
    refine h_catch B hT hN htab (pre := []) (suf := []) (a := 0) (b := 10) (h := 13) (ct := 25) rfl (fun z hz => nomatch hz) (by decide) (by decide) (r7_in _ (List.mem_of_getElem? (i := 23) rfl)) (List.mem_of_getElem? (i := 25) rfl) hce hcv hcl ?_
    refine lv_astore (lv' := [(4, .ref q9), (0, .ref (ad 0)), (1, .int x), (2, .int y), (3, .ref (ad 109))]) hx hb dL_entitlement_13 hl (by decide) rfl (fun ls hl => ?_)
    refine lv_iconst (v := 1) hx hb dL_entitlement_15 (by decide) ?_
    exact e_i hQ B hr hlk hS hW dL_entitlement_16 (Nat.le_of_ble_eq_true rfl) (Nat.le_of_ble_eq_true rfl) (⟨hk.symm, _, _, rfl, Or.inr ⟨by rw [hk]; decide, hC⟩⟩)
  · skip
    refine lv_i2l hx hb dL_entitlement_8 rfl ?_
    refine b_last B hI hA hW hS htj (j := 0) (by decide) rfl in_01 rfl dL_entitlement_9 (fun H locs hW hS => ?_)
    have hW := hE_w hW
    refine lv_goto (tgt := 17) hx hb dL_entitlement_10 (by decide) ?_
    refine lv_iconst (v := 0) hx hb dL_entitlement_17 (by decide) ?_
    exact e_i hQ B hr hlk hS hW dL_entitlement_18 (Nat.le_of_ble_eq_true rfl) (Nat.le_of_ble_eq_true rfl) (⟨hp.1.1.symm, _, _, rfl, Or.inl ⟨hp.1.1, by rw [updL_0, hp.1.2], hp.2⟩⟩)
set_option maxHeartbeats 4000000 in
set_option maxRecDepth 100000 in
theorem lh_entitlementByDays {l : Launch} (hlf : l.stackTraces = false) {D : va_G} {tys : List (ClassId × FieldType)} {ad : Nat → Nat} (hI : aI ad 110) {cJ cF : ClassId} (o : Nat → Int64) {cI cZ cH cP cT : ClassId} (V T : Nat → Nat → Int32) (ag : Nat → Int32) (nP nH rN : Nat) (nf pn : Int32) (sp sk : Int64) (py pd : Nat → Nat → Int32) (so en : Nat → Int32) (rA rC rI aA aC aH aT aP : Int32) (x y : Int32) (hti : tys[0]? = some (cI, .int)) (htz : tys[1]? = some (cZ, .boolean)) (hth : tys[2]? = some (cH, .object RX1)) (htp : tys[3]? = some (cP, .object RX2)) (htt : tys[4]? = some (cT, .object RX4)) (htj : tys[5]? = some (cJ, .long)) (htf : tys[6]? = some (cF, .double)) (hInv : Inv V T ag nP nH rN so pd)  (sz : Nat) : Met l yL_entitlementByDays (Cond.codeWith yL_entitlementByDays cL_entitlementByDays 5 (some .int) [(0, 10, 13, 25)] :: wsL_law) (rmk 7 8 48) (va_Pc [.ref (ad 0), .int x, .int y, .ref (ad 109)] (PN D tys ad 110 (hE cJ (cE cI cZ cH cP cT ad V T ag nP nH rN nf pn sp sk py pd so en rA rC rI aA aC aH aT aP) o) sz)) (Qi D ad 110 (fun r E1 => r = kMon nH x y ∧ ∃ Ec o1, E1 = hE cJ Ec o1 ∧ ((kMon nH x y = 0 ∧ o1 0 = (due V ag nP (ix x) (ix y)).toInt64 ∧ CW cI cZ cH cP cT ad V T ag nP nH rN nf pn sp sk py pd Ec) ∨ (¬ kMon nH x y = 0 ∧ CW cI cZ cH cP cT ad V T ag nP nH rN nf pn sp sk py pd Ec))) (cA ad 110 sz)) 8 48 (cA ad 110 sz) := by
  refine ch_of (own := RL) (Qc := Qi D ad 110 (fun r E1 => r = kMon nH x y ∧ ∃ Ec o1, E1 = hE cJ Ec o1 ∧ ((kMon nH x y = 0 ∧ o1 0 = (due V ag nP (ix x) (ix y)).toInt64 ∧ CW cI cZ cH cP cT ad V T ag nP nH rN nf pn sp sk py pd Ec) ∨ (¬ kMon nH x y = 0 ∧ CW cI cZ cH cP cT ad V T ag nP nH rN nf pn sp sk py pd Ec)))) rfl (by decide +kernel) (Nat.le_of_ble_eq_true rfl) ?_ sz
  intro p e s m args below meth c ls Q B hT hX hN hW hr hlk htab hl hS hA hQ
  have hx := B.1
  have hb := B.2.1
  have hl : lv_has ls 5 [(0, .ref (ad 0)), (1, .int x), (2, .int y), (3, .ref (ad 109))] := hl
  refine lv_aload_n hx hb dL_entitlementByDays_0 rfl (lv_at hl 3 rfl) ?_
  refine lv_iconst (v := 0) hx hb dL_entitlementByDays_1 (by decide) ?_
  refine lv_aload_n hx hb dL_entitlementByDays_2 rfl (lv_at hl 0 rfl) ?_
  refine lv_iload_n hx hb dL_entitlementByDays_3 rfl (lv_at hl 1 rfl) ?_
  refine lv_iload_n hx hb dL_entitlementByDays_4 rfl (lv_at hl 2 rfl) ?_
  refine y_xci (y_xrunV (ad' := ad) (σ := fun k => k) (n9 := 109) (E' := cE cI cZ cH cP cT ad V T ag nP nH rN nf pn sp sk py pd so en rA rC rI aA aC aH aT aP) (k := 0) B hT hX hW hS (fun k h => Nat.lt_of_lt_of_le h (by decide)) (fun _ _ => rfl) (fun k h => if_pos h) (As := [.int x, .int y]) (rest := [.int 0, .ref (ad 109)]) (fun sz => mt_entitlementByDays hlf (fun i j hi hj => hI i j (by omega) (by omega)) V T ag nP nH rN nf pn sp sk py pd so en rA rC rI aA aC aH aT aP x y hti htz hth htp htt hInv sz) (cwL_102 B.2.2.2.2.1 ⟨Nat.le_of_ble_eq_true rfl, Nat.le_of_ble_eq_true rfl⟩) (b_recv B (hW.subw (n := 109) (σ := fun k => k) (fun k h => Nat.lt_of_lt_of_le h (by decide)) (fun _ _ => rfl) (fun k h => if_pos h)) (by decide) cE_0 rfl) rfl hl.1 (Nat.le_of_ble_eq_true rfl) dL_entitlementByDays_5 ⟨Nat.le_of_ble_eq_true rfl, Nat.le_of_ble_eq_true rfl⟩) hI hW hS (fun k h => Nat.lt_of_lt_of_le h (by decide)) (fun _ _ => rfl) (fun E1 => hE cJ E1 o) (fun E1 k h => if_pos h) h_out (fun Ex ce q9 E1 H locs hx9 hW hS hce hcv hcl => ?_) (fun r E1 H locs hp hW hS => ?_)
  · obtain ⟨hx9, hC⟩ := hx9
    obtain ⟨rfl, hk⟩ := hx9
    refine h_catch B hT hN htab (pre := []) (suf := []) (a := 0) (b := 10) (h := 13) (ct := 25) rfl (fun z hz => nomatch hz) (by decide) (by decide) (r7_in _ (List.mem_of_getElem? (i := 23) rfl)) (List.mem_of_getElem? (i := 25) rfl) hce hcv hcl ?_
    refine lv_astore (lv' := [(4, .ref q9), (0, .ref (ad 0)), (1, .int x), (2, .int y), (3, .ref (ad 109))]) hx hb dL_entitlementByDays_13 hl (by decide) rfl (fun ls hl => ?_)
    refine lv_iconst (v := 1) hx hb dL_entitlementByDays_15 (by decide) ?_
    exact e_i hQ B hr hlk hS hW dL_entitlementByDays_16 (Nat.le_of_ble_eq_true rfl) (Nat.le_of_ble_eq_true rfl) (⟨hk.symm, _, _, rfl, Or.inr ⟨by rw [hk]; decide, hC⟩⟩)
  · skip
    refine lv_i2l hx hb dL_entitlementByDays_8 rfl ?_
    refine b_last B hI hA hW hS htj (j := 0) (by decide) rfl in_01 rfl dL_entitlementByDays_9 (fun H locs hW hS => ?_)
    have hW := hE_w hW
    refine lv_goto (tgt := 17) hx hb dL_entitlementByDays_10 (by decide) ?_
    refine lv_iconst (v := 0) hx hb dL_entitlementByDays_17 (by decide) ?_
    exact e_i hQ B hr hlk hS hW dL_entitlementByDays_18 (Nat.le_of_ble_eq_true rfl) (Nat.le_of_ble_eq_true rfl) (⟨hp.1.1.symm, _, _, rfl, Or.inl ⟨hp.1.1, by rw [updL_0, hp.1.2], hp.2⟩⟩)
