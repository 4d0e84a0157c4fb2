set_option maxHeartbeats 4000000 in
set_option maxRecDepth 100000 in
theorem lh_isSettled {l : Launch} (hlf : l.stackTraces = false) {D : va_G} {tys : List (ClassId × FieldType)} {ad : Nat → Nat} (hI : aI ad 110) {cJ cF : ClassId} (o : Nat → Int64) {cI cZ cH cP cT : ClassId} (V T : Nat → Nat → Int32) (ag : Nat → Int32) (nP nH rN : Nat) (nf pn : Int32) (sp sk : Int64) (py pd : Nat → Nat → Int32) (so en : Nat → Int32) (rA rC rI aA aC aH aT aP : Int32) (x : Int32) (hti : tys[0]? = some (cI, .int)) (htz : tys[1]? = some (cZ, .boolean)) (hth : tys[2]? = some (cH, .object RX1)) (htp : tys[3]? = some (cP, .object RX2)) (htt : tys[4]? = some (cT, .object RX4)) (htj : tys[5]? = some (cJ, .long)) (htf : tys[6]? = some (cF, .double)) (hInv : Inv V T ag nP nH rN so pd)  (sz : Nat) : Met l yL_isSettled (Cond.codeWith yL_isSettled cL_isSettled 4 (some .int) [(0, 16, 19, 25)] :: wsL_law) (rmk 7 8 48) (va_Pc [.ref (ad 0), .int x, .ref (ad 109)] (PN D tys ad 110 (hE cJ (cE cI cZ cH cP cT ad V T ag nP nH rN nf pn sp sk py pd so en rA rC rI aA aC aH aT aP) o) sz)) (Qi D ad 110 (fun r E1 => r = kHou nH x ∧ ∃ Ec o1, E1 = hE cJ Ec o1 ∧ ((kHou nH x = 0 ∧ o1 0 = (stl (due V ag nP (ix x)) (pd (ix x)) rN).toInt64 ∧ CW cI cZ cH cP cT ad V T ag nP nH rN nf pn sp sk py pd Ec) ∨ (¬ kHou nH x = 0 ∧ CW cI cZ cH cP cT ad V T ag nP nH rN nf pn sp sk py pd Ec))) (cA ad 110 sz)) 8 48 (cA ad 110 sz) := by
  refine ch_of (own := RL) (Qc := Qi D ad 110 (fun r E1 => r = kHou nH x ∧ ∃ Ec o1, E1 = hE cJ Ec o1 ∧ ((kHou nH x = 0 ∧ o1 0 = (stl (due V ag nP (ix x)) (pd (ix x)) rN).toInt64 ∧ CW cI cZ cH cP cT ad V T ag nP nH rN nf pn sp sk py pd Ec) ∨ (¬ kHou nH x = 0 ∧ CW cI cZ cH cP cT ad V T ag nP nH rN nf pn sp sk py pd Ec)))) rfl (by decide +kernel) (Nat.le_of_ble_eq_true rfl) ?_ sz
  intro p e s m args below meth c ls Q B hT hX hN hW hr hlk htab hl hS hA hQ
  have hx := B.1
  have hb := B.2.1
  have hl : lv_has ls 4 [(0, .ref (ad 0)), (1, .int x), (2, .ref (ad 109))] := hl
  refine lv_aload_n hx hb dL_isSettled_0 rfl (lv_at hl 2 rfl) ?_
  refine lv_iconst (v := 0) hx hb dL_isSettled_1 (by decide) ?_
  refine lv_aload_n hx hb dL_isSettled_2 rfl (lv_at hl 0 rfl) ?_
  refine lv_iload_n hx hb dL_isSettled_3 rfl (lv_at hl 1 rfl) ?_
  refine y_xci (y_xrunV (ad' := ad) (σ := fun k => k) (n9 := 109) (E' := cE cI cZ cH cP cT ad V T ag nP nH rN nf pn sp sk py pd so en rA rC rI aA aC aH aT aP) (k := 0) B hT hX hW hS (fun k h => Nat.lt_of_lt_of_le h (by decide)) (fun _ _ => rfl) (fun k h => if_pos h) (As := [.int x]) (rest := [.int 0, .ref (ad 109)]) (fun sz => mt_isSettled hlf (fun i j hi hj => hI i j (by omega) (by omega)) V T ag nP nH rN nf pn sp sk py pd so en rA rC rI aA aC aH aT aP x hti htz hth htp htt hInv sz) (cwL_64 B.2.2.2.2.1 ⟨Nat.le_of_ble_eq_true rfl, Nat.le_of_ble_eq_true rfl⟩) (b_recv B (hW.subw (n := 109) (σ := fun k => k) (fun k h => Nat.lt_of_lt_of_le h (by decide)) (fun _ _ => rfl) (fun k h => if_pos h)) (by decide) cE_0 rfl) rfl hl.1 (Nat.le_of_ble_eq_true rfl) dL_isSettled_4 ⟨Nat.le_of_ble_eq_true rfl, Nat.le_of_ble_eq_true rfl⟩) hI hW hS (fun k h => Nat.lt_of_lt_of_le h (by decide)) (fun _ _ => rfl) (fun E1 => hE cJ E1 o) (fun E1 k h => if_pos h) h_out (fun Ex ce q9 E1 H locs hx9 hW hS hce hcv hcl => ?_) (fun r E1 H locs hp hW hS => ?_)
  · obtain ⟨hx9, hC⟩ := hx9
    obtain ⟨rfl, hk⟩ := hx9
    refine h_catch B hT hN htab (pre := []) (suf := []) (a := 0) (b := 16) (h := 19) (ct := 25) rfl (fun z hz => nomatch hz) (by decide) (by decide) (r7_in _ (List.mem_of_getElem? (i := 23) rfl)) (List.mem_of_getElem? (i := 25) rfl) hce hcv hcl ?_
    refine lv_astore_n (lv' := [(3, .ref q9), (0, .ref (ad 0)), (1, .int x), (2, .ref (ad 109))]) hx hb dL_isSettled_19 rfl hl (by decide) rfl (fun ls hl => ?_)
    refine lv_iconst (v := 1) hx hb dL_isSettled_20 (by decide) ?_
    exact e_i hQ B hr hlk hS hW dL_isSettled_21 (Nat.le_of_ble_eq_true rfl) (Nat.le_of_ble_eq_true rfl) (⟨hk.symm, _, _, rfl, Or.inr ⟨by rw [hk]; decide, hC⟩⟩)
  · skip
    refine lv_if_eq (tgt := 14) hx hb dL_isSettled_7 (by decide) (fun c_7 => ?_) (fun c_7 => ?_)
    · skip
      refine lv_lconst (v := 0) hx hb dL_isSettled_14 (by decide) ?_
      refine b_last B hI hA hW hS htj (j := 0) (by decide) rfl in_01 rfl dL_isSettled_15 (fun H locs hW hS => ?_)
      have hW := hE_w hW
      refine lv_goto (tgt := 22) hx hb dL_isSettled_16 (by decide) ?_
      refine lv_iconst (v := 0) hx hb dL_isSettled_22 (by decide) ?_
      exact e_i hQ B hr hlk hS hW dL_isSettled_23 (Nat.le_of_ble_eq_true rfl) (Nat.le_of_ble_eq_true rfl) (⟨hp.1.1.symm, _, _, rfl, Or.inl ⟨hp.1.1, by rw [updL_0, ← hp.1.2, c_7]; rfl, hp.2⟩⟩)
    · skip
      refine lv_lconst (v := 1) hx hb dL_isSettled_10 (by decide) ?_
      refine lv_goto (tgt := 15) hx hb dL_isSettled_11 (by decide) ?_
      refine b_last B hI hA hW hS htj (j := 0) (by decide) rfl in_01 rfl dL_isSettled_15 (fun H locs hW hS => ?_)
      have hW := hE_w hW
      refine lv_goto (tgt := 22) hx hb dL_isSettled_16 (by decide) ?_
      refine lv_iconst (v := 0) hx hb dL_isSettled_22 (by decide) ?_
      exact e_i hQ B hr hlk hS hW dL_isSettled_23 (Nat.le_of_ble_eq_true rfl) (Nat.le_of_ble_eq_true rfl) (⟨hp.1.1.symm, _, _, rfl, Or.inl ⟨hp.1.1, by have z := stl_01 (u := due V ag nP (ix x)) (f := pd (ix x)) rN; rw [← hp.1.2] at z; rw [updL_0, ← hp.1.2, z.resolve_left c_7]; rfl, hp.2⟩⟩)
set_option maxHeartbeats 4000000 in
set_option maxRecDepth 100000 in
theorem lh_keptShare {l : Launch} (hlf : l.stackTraces = false) {D : va_G} {tys : List (ClassId × FieldType)} {ad : Nat → Nat} (hI : aI ad 110) {cJ cF : ClassId} (o : Nat → UInt64) {cI cZ cH cP cT : ClassId} (V T : Nat → Nat → Int32) (ag : Nat → Int32) (nP nH rN : Nat) (nf pn : Int32) (sp sk : Int64) (py pd : Nat → Nat → Int32) (so en : Nat → Int32) (rA rC rI aA aC aH aT aP : Int32) (hti : tys[0]? = some (cI, .int)) (htz : tys[1]? = some (cZ, .boolean)) (hth : tys[2]? = some (cH, .object RX1)) (htp : tys[3]? = some (cP, .object RX2)) (htt : tys[4]? = some (cT, .object RX4)) (htj : tys[5]? = some (cJ, .long)) (htf : tys[6]? = some (cF, .double)) (hInv : Inv V T ag nP nH rN so pd)  (sz : Nat) : Met l yL_keptShare (Cond.codeWith yL_keptShare cL_keptShare 3 (some .int) [(0, 8, 11, 109)] :: wsL_law) (rmk 7 8 48) (va_Pc [.ref (ad 0), .ref (ad 109)] (PN D tys ad 110 (hF9 cF (cE cI cZ cH cP cT ad V T ag nP nH rN nf pn sp sk py pd so en rA rC rI aA aC aH aT aP) o) sz)) (Qi D ad 110 (fun r E1 => r = kShare sk sp ∧ ∃ Ec o1, E1 = hF9 cF Ec o1 ∧ ((kShare sk sp = 0 ∧ o1 0 = FP.f2d (FP.fdiv (FP.l2f sk) (FP.l2f (sk + sp))) ∧ CW cI cZ cH cP cT ad V T ag nP nH rN nf pn sp sk py pd Ec) ∨ (¬ kShare sk sp = 0 ∧ CW cI cZ cH cP cT ad V T ag nP nH rN nf pn sp sk py pd Ec))) (cA ad 110 sz)) 8 48 (cA ad 110 sz) := by
  refine ch_of (own := RL) (Qc := Qi D ad 110 (fun r E1 => r = kShare sk sp ∧ ∃ Ec o1, E1 = hF9 cF Ec o1 ∧ ((kShare sk sp = 0 ∧ o1 0 = FP.f2d (FP.fdiv (FP.l2f sk) (FP.l2f (sk + sp))) ∧ CW cI cZ cH cP cT ad V T ag nP nH rN nf pn sp sk py pd Ec) ∨ (¬ kShare sk sp = 0 ∧ CW cI cZ cH cP cT ad V T ag nP nH rN nf pn sp sk py pd Ec)))) rfl (by decide +kernel) (Nat.le_of_ble_eq_true rfl) ?_ sz
  intro p e s m args below meth c ls Q B hT hX hN hW hr hlk htab hl hS hA hQ
  have hx := B.1
  have hb := B.2.1
  have hl : lv_has ls 3 [(0, .ref (ad 0)), (1, .ref (ad 109))] := hl
  refine lv_aload_n hx hb dL_keptShare_0 rfl (lv_at hl 1 rfl) ?_
  refine lv_iconst (v := 0) hx hb dL_keptShare_1 (by decide) ?_
  refine lv_aload_n hx hb dL_keptShare_2 rfl (lv_at hl 0 rfl) ?_
  refine y_xcf (y_xrunV (ad' := ad) (σ := fun k => k) (n9 := 109) (E' := cE cI cZ cH cP cT ad V T ag nP nH rN nf pn sp sk py pd so en rA rC rI aA aC aH aT aP) (k := 0) B hT hX hW hS (fun k h => Nat.lt_of_lt_of_le h (by decide)) (fun _ _ => rfl) (fun k h => if_pos h) (As := []) (rest := [.int 0, .ref (ad 109)]) (fun sz => mt_keptShare hlf (fun i j hi hj => hI i j (by omega) (by omega)) V T ag nP nH rN nf pn sp sk py pd so en rA rC rI aA aC aH aT aP  hti htz hth htp htt hInv sz) (cwL_105 B.2.2.2.2.1 ⟨Nat.le_of_ble_eq_true rfl, Nat.le_of_ble_eq_true rfl⟩) (b_recv B (hW.subw (n := 109) (σ := fun k => k) (fun k h => Nat.lt_of_lt_of_le h (by decide)) (fun _ _ => rfl) (fun k h => if_pos h)) (by decide) cE_0 rfl) rfl hl.1 (Nat.le_of_ble_eq_true rfl) dL_keptShare_3 ⟨Nat.le_of_ble_eq_true rfl, Nat.le_of_ble_eq_true rfl⟩) hI hW hS (fun k h => Nat.lt_of_lt_of_le h (by decide)) (fun _ _ => rfl) (fun E1 => hF9 cF E1 o) (fun E1 k h => if_pos h) h_outF (fun Ex ce q9 E1 H locs hx9 hW hS hce hcv hcl => ?_) (fun r E1 H locs hp hW hS => ?_)
  · obtain ⟨hx9, hC⟩ := hx9
    obtain ⟨rfl, hk⟩ := hx9
    refine h_catch B hT hN htab (pre := []) (suf := []) (a := 0) (b := 8) (h := 11) (ct := 109) rfl (fun z hz => nomatch hz) (by decide) (by decide) (r28_in _ (List.mem_of_getElem? (i := 14) rfl)) (List.mem_of_getElem? (i := 28) rfl) hce hcv hcl ?_
    refine lv_astore_n (lv' := [(2, .ref q9), (0, .ref (ad 0)), (1, .ref (ad 109))]) hx hb dL_keptShare_11 rfl hl (by decide) rfl (fun ls hl => ?_)
    refine lv_iconst (v := 1) hx hb dL_keptShare_12 (by decide) ?_
    exact e_i hQ B hr hlk hS hW dL_keptShare_13 (Nat.le_of_ble_eq_true rfl) (Nat.le_of_ble_eq_true rfl) (⟨hk.symm, _, _, rfl, Or.inr ⟨by rw [hk]; decide, hC⟩⟩)
  · skip
    refine lv_f2d hx hb dL_keptShare_6 (Jvm.Free.Fl.noNaN_f2d _ |>.mpr (by rw [hp.1.2]; exact n_share (fun q => absurd (hp.1.1.symm.trans (cif_t q)) (by decide)))) ?_
    refine b_dast B hI hA hW hS htf (j := 0) (by decide) rfl in_01 rfl dL_keptShare_7 (fun H locs hW hS => ?_)
    have hW := hF_w hW
    refine lv_goto (tgt := 14) hx hb dL_keptShare_8 (by decide) ?_
    refine lv_iconst (v := 0) hx hb dL_keptShare_14 (by decide) ?_
    exact e_i hQ B hr hlk hS hW dL_keptShare_15 (Nat.le_of_ble_eq_true rfl) (Nat.le_of_ble_eq_true rfl) (⟨hp.1.1.symm, _, _, rfl, Or.inl ⟨hp.1.1, by rw [vfu_0, hp.1.2], hp.2⟩⟩)
set_option maxHeartbeats 4000000 in
set_option maxRecDepth 100000 in
theorem lh_meanPayment {l : Launch} (hlf : l.stackTraces = false) {D : va_G} {tys : List (ClassId × FieldType)} {ad : Nat → Nat} (hI : aI ad 110) {cJ cF : ClassId} (o : Nat → UInt64) {cI cZ cH cP cT : ClassId} (V T : Nat → Nat → Int32) (ag : Nat → Int32) (nP nH rN : Nat) (nf pn : Int32) (sp sk : Int64) (py pd : Nat → Nat → Int32) (so en : Nat → Int32) (rA rC rI aA aC aH aT aP : Int32) (hti : tys[0]? = some (cI, .int)) (htz : tys[1]? = some (cZ, .boolean)) (hth : tys[2]? = some (cH, .object RX1)) (htp : tys[3]? = some (cP, .object RX2)) (htt : tys[4]? = some (cT, .object RX4)) (htj : tys[5]? = some (cJ, .long)) (htf : tys[6]? = some (cF, .double)) (hInv : Inv V T ag nP nH rN so pd)  (sz : Nat) : Met l yL_meanPayment (Cond.codeWith yL_meanPayment cL_meanPayment 3 (some .int) [(0, 7, 10, 109)] :: wsL_law) (rmk 7 8 48) (va_Pc [.ref (ad 0), .ref (ad 109)] (PN D tys ad 110 (hF9 cF (cE cI cZ cH cP cT ad V T ag nP nH rN nf pn sp sk py pd so en rA rC rI aA aC aH aT aP) o) sz)) (Qi D ad 110 (fun r E1 => r = kMean pn ∧ ∃ Ec o1, E1 = hF9 cF Ec o1 ∧ ((kMean pn = 0 ∧ o1 0 = FP.ddiv (FP.l2d sp) (FP.i2d pn) ∧ CW cI cZ cH cP cT ad V T ag nP nH rN nf pn sp sk py pd Ec) ∨ (¬ kMean pn = 0 ∧ CW cI cZ cH cP cT ad V T ag nP nH rN nf pn sp sk py pd Ec))) (cA ad 110 sz)) 8 48 (cA ad 110 sz) := by
  refine ch_of (own := RL) (Qc := Qi D ad 110 (fun r E1 => r = kMean pn ∧ ∃ Ec o1, E1 = hF9 cF Ec o1 ∧ ((kMean pn = 0 ∧ o1 0 = FP.ddiv (FP.l2d sp) (FP.i2d pn) ∧ CW cI cZ cH cP cT ad V T ag nP nH rN nf pn sp sk py pd Ec) ∨ (¬ kMean pn = 0 ∧ CW cI cZ cH cP cT ad V T ag nP nH rN nf pn sp sk py pd Ec)))) rfl (by decide +kernel) (Nat.le_of_ble_eq_true rfl) ?_ sz
  intro p e s m args below meth c ls Q B hT hX hN hW hr hlk htab hl hS hA hQ
  have hx := B.1
  have hb := B.2.1
  have hl : lv_has ls 3 [(0, .ref (ad 0)), (1, .ref (ad 109))] := hl
  refine lv_aload_n hx hb dL_meanPayment_0 rfl (lv_at hl 1 rfl) ?_
  refine lv_iconst (v := 0) hx hb dL_meanPayment_1 (by decide) ?_
  refine lv_aload_n hx hb dL_meanPayment_2 rfl (lv_at hl 0 rfl) ?_
  refine y_xcd (y_xrunV (ad' := ad) (σ := fun k => k) (n9 := 109) (E' := cE cI cZ cH cP cT ad V T ag nP nH rN nf pn sp sk py pd so en rA rC rI aA aC aH aT aP) (k := 0) B hT hX hW hS (fun k h => Nat.lt_of_lt_of_le h (by decide)) (fun _ _ => rfl) (fun k h => if_pos h) (As := []) (rest := [.int 0, .ref (ad 109)]) (fun sz => mt_meanPayment hlf (fun i j hi hj => hI i j (by omega) (by omega)) V T ag nP nH rN nf pn sp sk py pd so en rA rC rI aA aC aH aT aP  hti htz hth htp htt hInv sz) (cwL_111 B.2.2.2.2.1 ⟨Nat.le_of_ble_eq_true rfl, Nat.le_of_ble_eq_true rfl⟩) (b_recv B (hW.subw (n := 109) (σ := fun k => k) (fun k h => Nat.lt_of_lt_of_le h (by decide)) (fun _ _ => rfl) (fun k h => if_pos h)) (by decide) cE_0 rfl) rfl hl.1 (Nat.le_of_ble_eq_true rfl) dL_meanPayment_3 ⟨Nat.le_of_ble_eq_true rfl, Nat.le_of_ble_eq_true rfl⟩) hI hW hS (fun k h => Nat.lt_of_lt_of_le h (by decide)) (fun _ _ => rfl) (fun E1 => hF9 cF E1 o) (fun E1 k h => if_pos h) h_outF (fun Ex ce q9 E1 H locs hx9 hW hS hce hcv hcl => ?_) (fun r E1 H locs hp hW hS => ?_)
  · obtain ⟨hx9, hC⟩ := hx9
    obtain ⟨rfl, hk⟩ := hx9
    refine h_catch B hT hN htab (pre := []) (suf := []) (a := 0) (b := 7) (h := 10) (ct := 109) rfl (fun z hz => nomatch hz) (by decide) (by decide) (r28_in _ (List.mem_of_getElem? (i := 14) rfl)) (List.mem_of_getElem? (i := 28) rfl) hce hcv hcl ?_
    refine lv_astore_n (lv' := [(2, .ref q9), (0, .ref (ad 0)), (1, .ref (ad 109))]) hx hb dL_meanPayment_10 rfl hl (by decide) rfl (fun ls hl => ?_)
    refine lv_iconst (v := 1) hx hb dL_meanPayment_11 (by decide) ?_
    exact e_i hQ B hr hlk hS hW dL_meanPayment_12 (Nat.le_of_ble_eq_true rfl) (Nat.le_of_ble_eq_true rfl) (⟨hk.symm, _, _, rfl, Or.inr ⟨by rw [hk]; decide, hC⟩⟩)
  · skip
    refine b_dast B hI hA hW hS htf (j := 0) (by decide) rfl in_01 rfl dL_meanPayment_6 (fun H locs hW hS => ?_)
    have hW := hF_w hW
    refine lv_goto (tgt := 13) hx hb dL_meanPayment_7 (by decide) ?_
    refine lv_iconst (v := 0) hx hb dL_meanPayment_13 (by decide) ?_
    exact e_i hQ B hr hlk hS hW dL_meanPayment_14 (Nat.le_of_ble_eq_true rfl) (Nat.le_of_ble_eq_true rfl) (⟨hp.1.1.symm, _, _, rfl, Or.inl ⟨hp.1.1, by rw [vfu_0, hp.1.2], hp.2⟩⟩)
