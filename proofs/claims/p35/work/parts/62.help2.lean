set_option maxHeartbeats 4000000 in
set_option maxRecDepth 100000 in
theorem lq_payment {l : Launch} (hlf : l.stackTraces = false) {D : va_G} {tys : List (ClassId × FieldType)} {ad : Nat → Nat} (hI : aI ad 109) {cI cZ cH cP cT : ClassId} {V T : Nat → Nat → Int32} {ag : Nat → Int32} {nP nH rN : Nat} {nf pn : Int32} {sp sk : Int64} {py pd : Nat → Nat → Int32} (hty : TY tys cI cZ cH cP cT) (x y : Int32) {E : Nat → va_E} (hC : CW cI cZ cH cP cT ad V T ag nP nH rN nf pn sp sk py pd E) (sz : Nat) : Met l yL_payment (Cond.codeWith yL_payment cL_payment 4 (some .int) [(0, 6, 7, 32), (0, 6, 11, 44)] :: wsL_law) (rmk 7 8 48) (va_Pc [.ref (ad 0), .int x, .int y] (PN D tys ad 109 E sz)) (Qi D ad 109 (fun r E1 => r = hv (kPaym nH rN x y) (-77) (-75) 0 (py (ix x) (ix y)) ∧ CW cI cZ cH cP cT ad V T ag nP nH rN nf pn sp sk py pd E1) (cA ad 109 sz)) 8 48 (cA ad 109 sz) := by
  obtain ⟨so, en, rA, rC, rI, aA, aC, aH, aT, aP, rfl, hInv⟩ := hC
  obtain ⟨hti, htz, hth, htp, htt⟩ := hty
  refine ch_of (own := RL) (Qc := Qi D ad 109 (fun r E1 => r = hv (kPaym nH rN x y) (-77) (-75) 0 (py (ix x) (ix y)) ∧ CW cI cZ cH cP cT ad V T ag nP nH rN nf pn sp sk py pd E1)) rfl (by decide +kernel) (Nat.le_of_ble_eq_true rfl) ?_ sz
  intro p e s m args below meth c ls Q B hT hX hN hW hr hlk htab hl hS hA hQ
  have hx := B.1
  have hb := B.2.1
  have hl : lv_has ls 4 [(0, .ref (ad 0)), (1, .int x), (2, .int y)] := hl
  refine lv_aload_n hx hb dL_payment_0 rfl (lv_at hl 0 rfl) ?_
  refine lv_iload_n hx hb dL_payment_1 rfl (lv_at hl 1 rfl) ?_
  refine lv_iload_n hx hb dL_payment_2 rfl (lv_at hl 2 rfl) ?_
  refine y_xci (y_xrunV (ad' := ad) (σ := fun k => k) (n9 := 109) (k := 0) B hT hX hW hS (fun k h => h) (fun _ _ => rfl) (fun _ _ => rfl) (As := [.int x, .int y]) (rest := []) (fun sz => mt_payment hlf hI V T ag nP nH rN nf pn sp sk py pd so en rA rC rI aA aC aH aT aP x y hti htz hth htp htt hInv sz) (cwL_62 B.2.2.2.2.1 ⟨Nat.le_of_ble_eq_true rfl, Nat.le_of_ble_eq_true rfl⟩) (b_recv B hW (by decide) cE_0 rfl) rfl hl.1 (Nat.le_of_ble_eq_true rfl) dL_payment_3 ⟨Nat.le_of_ble_eq_true rfl, Nat.le_of_ble_eq_true rfl⟩) hI hW hS (fun k h => h) (fun _ _ => rfl) (fun E1 => E1) (fun _ _ _ => rfl) (fun E1 j hj hno => absurd rfl (hno j hj)) (fun Ex ce q9 E1 H locs hx9 hW hS hce hcv hcl => ?_) (fun r E1 H locs hp hW hS => ?_)
  · obtain ⟨hx9, hC⟩ := hx9
    rcases hx9 with ⟨rfl, hk⟩ | ⟨rfl, hk⟩
    · skip
      refine h_catch B hT hN htab (pre := []) (suf := [(0, 6, 11, 44)]) (a := 0) (b := 6) (h := 7) (ct := 32) rfl (fun z hz => nomatch hz) (by decide) (by decide) (r6_in _ (List.mem_of_getElem? (i := 6) rfl)) (List.mem_of_getElem? (i := 25) rfl) hce hcv hcl ?_
      refine lv_astore_n (lv' := [(3, .ref q9), (0, .ref (ad 0)), (1, .int x), (2, .int y)]) hx hb dL_payment_7 rfl hl (by decide) rfl (fun ls hl => ?_)
      refine lv_bipush (v := (-77)) hx hb dL_payment_8 (by decide) ?_
      exact e_i hQ B hr hlk hS hW dL_payment_10 (Nat.le_of_ble_eq_true rfl) (Nat.le_of_ble_eq_true rfl) (⟨by rw [hk, hv_1], hC⟩)
    · skip
      refine h_catch B hT hN htab (pre := [(0, 6, 7, 32)]) (suf := []) (a := 0) (b := 6) (h := 11) (ct := 44) rfl (List.forall_mem_cons.mpr ⟨⟨by decide, "java/lang/IndexOutOfBoundsException", (r6_in _ (List.mem_of_getElem? (i := 6) rfl)), List.mem_of_getElem? (i := 3) rfl⟩, (fun z hz => nomatch hz)⟩) (by decide) (by decide) (r12_in _ (List.mem_of_getElem? (i := 1) rfl)) (List.mem_of_getElem? (i := 26) rfl) hce hcv hcl ?_
      refine lv_astore_n (lv' := [(3, .ref q9), (0, .ref (ad 0)), (1, .int x), (2, .int y)]) hx hb dL_payment_11 rfl hl (by decide) rfl (fun ls hl => ?_)
      refine lv_bipush (v := (-75)) hx hb dL_payment_12 (by decide) ?_
      exact e_i hQ B hr hlk hS hW dL_payment_14 (Nat.le_of_ble_eq_true rfl) (Nat.le_of_ble_eq_true rfl) (⟨by rw [hk, hv_2], hC⟩)
  · skip
    exact e_i hQ B hr hlk hS hW dL_payment_6 (Nat.le_of_ble_eq_true rfl) (Nat.le_of_ble_eq_true rfl) (⟨by rw [hp.1.1, hv_0, hp.1.2], hp.2⟩)
set_option maxHeartbeats 4000000 in
set_option maxRecDepth 100000 in
theorem lq_paidFor {l : Launch} (hlf : l.stackTraces = false) {D : va_G} {tys : List (ClassId × FieldType)} {ad : Nat → Nat} (hI : aI ad 109) {cI cZ cH cP cT : ClassId} {V T : Nat → Nat → Int32} {ag : Nat → Int32} {nP nH rN : Nat} {nf pn : Int32} {sp sk : Int64} {py pd : Nat → Nat → Int32} (hty : TY tys cI cZ cH cP cT) (x y : Int32) {E : Nat → va_E} (hC : CW cI cZ cH cP cT ad V T ag nP nH rN nf pn sp sk py pd E) (sz : Nat) : Met l yL_paidFor (Cond.codeWith yL_paidFor cL_paidFor 4 (some .int) [(0, 6, 7, 32)] :: wsL_law) (rmk 7 8 48) (va_Pc [.ref (ad 0), .int x, .int y] (PN D tys ad 109 E sz)) (Qi D ad 109 (fun r E1 => r = hv (kMon nH x y) (-77) 0 0 (pd (ix x) (ix y)) ∧ CW cI cZ cH cP cT ad V T ag nP nH rN nf pn sp sk py pd E1) (cA ad 109 sz)) 8 48 (cA ad 109 sz) := by
  obtain ⟨so, en, rA, rC, rI, aA, aC, aH, aT, aP, rfl, hInv⟩ := hC
  obtain ⟨hti, htz, hth, htp, htt⟩ := hty
  refine ch_of (own := RL) (Qc := Qi D ad 109 (fun r E1 => r = hv (kMon nH x y) (-77) 0 0 (pd (ix x) (ix y)) ∧ CW cI cZ cH cP cT ad V T ag nP nH rN nf pn sp sk py pd E1)) rfl (by decide +kernel) (Nat.le_of_ble_eq_true rfl) ?_ sz
  intro p e s m args below meth c ls Q B hT hX hN hW hr hlk htab hl hS hA hQ
  have hx := B.1
  have hb := B.2.1
  have hl : lv_has ls 4 [(0, .ref (ad 0)), (1, .int x), (2, .int y)] := hl
  refine lv_aload_n hx hb dL_paidFor_0 rfl (lv_at hl 0 rfl) ?_
  refine lv_iload_n hx hb dL_paidFor_1 rfl (lv_at hl 1 rfl) ?_
  refine lv_iload_n hx hb dL_paidFor_2 rfl (lv_at hl 2 rfl) ?_
  refine y_xci (y_xrunV (ad' := ad) (σ := fun k => k) (n9 := 109) (k := 0) B hT hX hW hS (fun k h => h) (fun _ _ => rfl) (fun _ _ => rfl) (As := [.int x, .int y]) (rest := []) (fun sz => mt_paidFor hlf hI V T ag nP nH rN nf pn sp sk py pd so en rA rC rI aA aC aH aT aP x y hti htz hth htp htt hInv sz) (cwL_65 B.2.2.2.2.1 ⟨Nat.le_of_ble_eq_true rfl, Nat.le_of_ble_eq_true rfl⟩) (b_recv B hW (by decide) cE_0 rfl) rfl hl.1 (Nat.le_of_ble_eq_true rfl) dL_paidFor_3 ⟨Nat.le_of_ble_eq_true rfl, Nat.le_of_ble_eq_true rfl⟩) hI hW hS (fun k h => h) (fun _ _ => rfl) (fun E1 => E1) (fun _ _ _ => rfl) (fun E1 j hj hno => absurd rfl (hno j hj)) (fun Ex ce q9 E1 H locs hx9 hW hS hce hcv hcl => ?_) (fun r E1 H locs hp hW hS => ?_)
  · obtain ⟨hx9, hC⟩ := hx9
    obtain ⟨rfl, hk⟩ := hx9
    refine h_catch B hT hN htab (pre := []) (suf := []) (a := 0) (b := 6) (h := 7) (ct := 32) rfl (fun z hz => nomatch hz) (by decide) (by decide) (r6_in _ (List.mem_of_getElem? (i := 6) rfl)) (List.mem_of_getElem? (i := 25) rfl) hce hcv hcl ?_
    refine lv_astore_n (lv' := [(3, .ref q9), (0, .ref (ad 0)), (1, .int x), (2, .int y)]) hx hb dL_paidFor_7 rfl hl (by decide) rfl (fun ls hl => ?_)
    refine lv_bipush (v := (-77)) hx hb dL_paidFor_8 (by decide) ?_
    exact e_i hQ B hr hlk hS hW dL_paidFor_10 (Nat.le_of_ble_eq_true rfl) (Nat.le_of_ble_eq_true rfl) (⟨by rw [hk, hv_1], hC⟩)
  · skip
    exact e_i hQ B hr hlk hS hW dL_paidFor_6 (Nat.le_of_ble_eq_true rfl) (Nat.le_of_ble_eq_true rfl) (⟨by rw [hp.1.1, hv_0, hp.1.2], hp.2⟩)
set_option maxHeartbeats 4000000 in
set_option maxRecDepth 100000 in
theorem lq_balance {l : Launch} (hlf : l.stackTraces = false) {D : va_G} {tys : List (ClassId × FieldType)} {ad : Nat → Nat} (hI : aI ad 109) {cI cZ cH cP cT : ClassId} {V T : Nat → Nat → Int32} {ag : Nat → Int32} {nP nH rN : Nat} {nf pn : Int32} {sp sk : Int64} {py pd : Nat → Nat → Int32} (hty : TY tys cI cZ cH cP cT) (x : Int32) {E : Nat → va_E} (hC : CW cI cZ cH cP cT ad V T ag nP nH rN nf pn sp sk py pd E) (sz : Nat) : Met l yL_balance (Cond.codeWith yL_balance cL_balance 3 (some .int) [(0, 5, 6, 32)] :: wsL_law) (rmk 7 8 48) (va_Pc [.ref (ad 0), .int x] (PN D tys ad 109 E sz)) (Qi D ad 109 (fun r E1 => r = hv (kHou nH x) (-77) 0 0 (bal (due V ag nP (ix x)) (pd (ix x)) rN) ∧ CW cI cZ cH cP cT ad V T ag nP nH rN nf pn sp sk py pd E1) (cA ad 109 sz)) 8 48 (cA ad 109 sz) := by
  obtain ⟨so, en, rA, rC, rI, aA, aC, aH, aT, aP, rfl, hInv⟩ := hC
  obtain ⟨hti, htz, hth, htp, htt⟩ := hty
  refine ch_of (own := RL) (Qc := Qi D ad 109 (fun r E1 => r = hv (kHou nH x) (-77) 0 0 (bal (due V ag nP (ix x)) (pd (ix x)) rN) ∧ CW cI cZ cH cP cT ad V T ag nP nH rN nf pn sp sk py pd E1)) rfl (by decide +kernel) (Nat.le_of_ble_eq_true rfl) ?_ sz
  intro p e s m args below meth c ls Q B hT hX hN hW hr hlk htab hl hS hA hQ
  have hx := B.1
  have hb := B.2.1
  have hl : lv_has ls 3 [(0, .ref (ad 0)), (1, .int x)] := hl
  refine lv_aload_n hx hb dL_balance_0 rfl (lv_at hl 0 rfl) ?_
  refine lv_iload_n hx hb dL_balance_1 rfl (lv_at hl 1 rfl) ?_
  refine y_xci (y_xrunV (ad' := ad) (σ := fun k => k) (n9 := 109) (k := 0) B hT hX hW hS (fun k h => h) (fun _ _ => rfl) (fun _ _ => rfl) (As := [.int x]) (rest := []) (fun sz => mt_balance hlf hI V T ag nP nH rN nf pn sp sk py pd so en rA rC rI aA aC aH aT aP x hti htz hth htp htt hInv sz) (cwL_68 B.2.2.2.2.1 ⟨Nat.le_of_ble_eq_true rfl, Nat.le_of_ble_eq_true rfl⟩) (b_recv B hW (by decide) cE_0 rfl) rfl hl.1 (Nat.le_of_ble_eq_true rfl) dL_balance_2 ⟨Nat.le_of_ble_eq_true rfl, Nat.le_of_ble_eq_true rfl⟩) hI hW hS (fun k h => h) (fun _ _ => rfl) (fun E1 => E1) (fun _ _ _ => rfl) (fun E1 j hj hno => absurd rfl (hno j hj)) (fun Ex ce q9 E1 H locs hx9 hW hS hce hcv hcl => ?_) (fun r E1 H locs hp hW hS => ?_)
  · obtain ⟨hx9, hC⟩ := hx9
    obtain ⟨rfl, hk⟩ := hx9
    refine h_catch B hT hN htab (pre := []) (suf := []) (a := 0) (b := 5) (h := 6) (ct := 32) rfl (fun z hz => nomatch hz) (by decide) (by decide) (r6_in _ (List.mem_of_getElem? (i := 6) rfl)) (List.mem_of_getElem? (i := 25) rfl) hce hcv hcl ?_
    refine lv_astore_n (lv' := [(2, .ref q9), (0, .ref (ad 0)), (1, .int x)]) hx hb dL_balance_6 rfl hl (by decide) rfl (fun ls hl => ?_)
    refine lv_bipush (v := (-77)) hx hb dL_balance_7 (by decide) ?_
    exact e_i hQ B hr hlk hS hW dL_balance_9 (Nat.le_of_ble_eq_true rfl) (Nat.le_of_ble_eq_true rfl) (⟨by rw [hk, hv_1], hC⟩)
  · skip
    exact e_i hQ B hr hlk hS hW dL_balance_5 (Nat.le_of_ble_eq_true rfl) (Nat.le_of_ble_eq_true rfl) (⟨by rw [hp.1.1, hv_0, hp.1.2], hp.2⟩)
set_option maxHeartbeats 4000000 in
set_option maxRecDepth 100000 in
theorem lq_homeOf {l : Launch} (hlf : l.stackTraces = false) {D : va_G} {tys : List (ClassId × FieldType)} {ad : Nat → Nat} (hI : aI ad 109) {cI cZ cH cP cT : ClassId} {V T : Nat → Nat → Int32} {ag : Nat → Int32} {nP nH rN : Nat} {nf pn : Int32} {sp sk : Int64} {py pd : Nat → Nat → Int32} (hty : TY tys cI cZ cH cP cT) (x dy : Int32) {E : Nat → va_E} (hC : CW cI cZ cH cP cT ad V T ag nP nH rN nf pn sp sk py pd E) (sz : Nat) : Met l yL_homeOf (Cond.codeWith yL_homeOf cL_homeOf 4 (some .int) [(0, 6, 7, 32), (0, 6, 11, 20)] :: wsL_law) (rmk 7 8 48) (va_Pc [.ref (ad 0), .int x, .int dy] (PN D tys ad 109 E sz)) (Qi D ad 109 (fun r E1 => r = hv (kAsk nP x dy) (-77) (-78) 0 (V (ix x) (ix dy)) ∧ CW cI cZ cH cP cT ad V T ag nP nH rN nf pn sp sk py pd E1) (cA ad 109 sz)) 8 48 (cA ad 109 sz) := by
  obtain ⟨so, en, rA, rC, rI, aA, aC, aH, aT, aP, rfl, hInv⟩ := hC
  obtain ⟨hti, htz, hth, htp, htt⟩ := hty
  refine ch_of (own := RL) (Qc := Qi D ad 109 (fun r E1 => r = hv (kAsk nP x dy) (-77) (-78) 0 (V (ix x) (ix dy)) ∧ CW cI cZ cH cP cT ad V T ag nP nH rN nf pn sp sk py pd E1)) rfl (by decide +kernel) (Nat.le_of_ble_eq_true rfl) ?_ sz
  intro p e s m args below meth c ls Q B hT hX hN hW hr hlk htab hl hS hA hQ
  have hx := B.1
  have hb := B.2.1
  have hl : lv_has ls 4 [(0, .ref (ad 0)), (1, .int x), (2, .int dy)] := hl
  refine lv_aload_n hx hb dL_homeOf_0 rfl (lv_at hl 0 rfl) ?_
  refine lv_iload_n hx hb dL_homeOf_1 rfl (lv_at hl 1 rfl) ?_
  refine lv_iload_n hx hb dL_homeOf_2 rfl (lv_at hl 2 rfl) ?_
  refine y_xci (y_xrunV (ad' := ad) (σ := fun k => k) (n9 := 109) (k := 0) B hT hX hW hS (fun k h => h) (fun _ _ => rfl) (fun _ _ => rfl) (As := [.int x, .int dy]) (rest := []) (fun sz => mt_homeOf hlf hI V T ag nP nH rN nf pn sp sk py pd so en rA rC rI aA aC aH aT aP x dy hti htz hth htp htt hInv sz) (cwL_75 B.2.2.2.2.1 ⟨Nat.le_of_ble_eq_true rfl, Nat.le_of_ble_eq_true rfl⟩) (b_recv B hW (by decide) cE_0 rfl) rfl hl.1 (Nat.le_of_ble_eq_true rfl) dL_homeOf_3 ⟨Nat.le_of_ble_eq_true rfl, Nat.le_of_ble_eq_true rfl⟩) hI hW hS (fun k h => h) (fun _ _ => rfl) (fun E1 => E1) (fun _ _ _ => rfl) (fun E1 j hj hno => absurd rfl (hno j hj)) (fun Ex ce q9 E1 H locs hx9 hW hS hce hcv hcl => ?_) (fun r E1 H locs hp hW hS => ?_)
  · obtain ⟨hx9, hC⟩ := hx9
    rcases hx9 with ⟨rfl, hk⟩ | ⟨rfl, hk⟩
    · skip
      refine h_catch B hT hN htab (pre := []) (suf := [(0, 6, 11, 20)]) (a := 0) (b := 6) (h := 7) (ct := 32) rfl (fun z hz => nomatch hz) (by decide) (by decide) (r6_in _ (List.mem_of_getElem? (i := 6) rfl)) (List.mem_of_getElem? (i := 25) rfl) hce hcv hcl ?_
      refine lv_astore_n (lv' := [(3, .ref q9), (0, .ref (ad 0)), (1, .int x), (2, .int dy)]) hx hb dL_homeOf_7 rfl hl (by decide) rfl (fun ls hl => ?_)
      refine lv_bipush (v := (-77)) hx hb dL_homeOf_8 (by decide) ?_
      exact e_i hQ B hr hlk hS hW dL_homeOf_10 (Nat.le_of_ble_eq_true rfl) (Nat.le_of_ble_eq_true rfl) (⟨by rw [hk, hv_1], hC⟩)
    · skip
      refine h_catch B hT hN htab (pre := [(0, 6, 7, 32)]) (suf := []) (a := 0) (b := 6) (h := 11) (ct := 20) rfl (List.forall_mem_cons.mpr ⟨⟨by decide, "java/lang/IndexOutOfBoundsException", (r6_in _ (List.mem_of_getElem? (i := 6) rfl)), List.mem_of_getElem? (i := 1) rfl⟩, (fun z hz => nomatch hz)⟩) (by decide) (by decide) (r5_in _ (List.mem_of_getElem? (i := 5) rfl)) (List.mem_of_getElem? (i := 24) rfl) hce hcv hcl ?_
      refine lv_astore_n (lv' := [(3, .ref q9), (0, .ref (ad 0)), (1, .int x), (2, .int dy)]) hx hb dL_homeOf_11 rfl hl (by decide) rfl (fun ls hl => ?_)
      refine lv_bipush (v := (-78)) hx hb dL_homeOf_12 (by decide) ?_
      exact e_i hQ B hr hlk hS hW dL_homeOf_14 (Nat.le_of_ble_eq_true rfl) (Nat.le_of_ble_eq_true rfl) (⟨by rw [hk, hv_2], hC⟩)
  · skip
    exact e_i hQ B hr hlk hS hW dL_homeOf_6 (Nat.le_of_ble_eq_true rfl) (Nat.le_of_ble_eq_true rfl) (⟨by rw [hp.1.1, hv_0, hp.1.2], hp.2⟩)
set_option maxHeartbeats 4000000 in
set_option maxRecDepth 100000 in
theorem lq_ruleAt {l : Launch} (hlf : l.stackTraces = false) {D : va_G} {tys : List (ClassId × FieldType)} {ad : Nat → Nat} (hI : aI ad 109) {cI cZ cH cP cT : ClassId} {V T : Nat → Nat → Int32} {ag : Nat → Int32} {nP nH rN : Nat} {nf pn : Int32} {sp sk : Int64} {py pd : Nat → Nat → Int32} (hty : TY tys cI cZ cH cP cT) (x dy : Int32) {E : Nat → va_E} (hC : CW cI cZ cH cP cT ad V T ag nP nH rN nf pn sp sk py pd E) (sz : Nat) : Met l yL_ruleAt (Cond.codeWith yL_ruleAt cL_ruleAt 4 (some .int) [(0, 6, 7, 44), (0, 6, 11, 20)] :: wsL_law) (rmk 7 8 48) (va_Pc [.ref (ad 0), .int x, .int dy] (PN D tys ad 109 E sz)) (Qi D ad 109 (fun r E1 => r = hv (kRat x dy) (-75) (-78) 0 (V (20 + rIx x) (ix dy)) ∧ CW cI cZ cH cP cT ad V T ag nP nH rN nf pn sp sk py pd E1) (cA ad 109 sz)) 8 48 (cA ad 109 sz) := by
  obtain ⟨so, en, rA, rC, rI, aA, aC, aH, aT, aP, rfl, hInv⟩ := hC
  obtain ⟨hti, htz, hth, htp, htt⟩ := hty
  refine ch_of (own := RL) (Qc := Qi D ad 109 (fun r E1 => r = hv (kRat x dy) (-75) (-78) 0 (V (20 + rIx x) (ix dy)) ∧ CW cI cZ cH cP cT ad V T ag nP nH rN nf pn sp sk py pd E1)) rfl (by decide +kernel) (Nat.le_of_ble_eq_true rfl) ?_ sz
  intro p e s m args below meth c ls Q B hT hX hN hW hr hlk htab hl hS hA hQ
  have hx := B.1
  have hb := B.2.1
  have hl : lv_has ls 4 [(0, .ref (ad 0)), (1, .int x), (2, .int dy)] := hl
  refine lv_aload_n hx hb dL_ruleAt_0 rfl (lv_at hl 0 rfl) ?_
  refine lv_iload_n hx hb dL_ruleAt_1 rfl (lv_at hl 1 rfl) ?_
  refine lv_iload_n hx hb dL_ruleAt_2 rfl (lv_at hl 2 rfl) ?_
  refine y_xci (y_xrunV (ad' := ad) (σ := fun k => k) (n9 := 109) (k := 0) B hT hX hW hS (fun k h => h) (fun _ _ => rfl) (fun _ _ => rfl) (As := [.int x, .int dy]) (rest := []) (fun sz => mt_ruleAt hlf hI V T ag nP nH rN nf pn sp sk py pd so en rA rC rI aA aC aH aT aP x dy hti htz hth htp htt hInv sz) (cwL_78 B.2.2.2.2.1 ⟨Nat.le_of_ble_eq_true rfl, Nat.le_of_ble_eq_true rfl⟩) (b_recv B hW (by decide) cE_0 rfl) rfl hl.1 (Nat.le_of_ble_eq_true rfl) dL_ruleAt_3 ⟨Nat.le_of_ble_eq_true rfl, Nat.le_of_ble_eq_true rfl⟩) hI hW hS (fun k h => h) (fun _ _ => rfl) (fun E1 => E1) (fun _ _ _ => rfl) (fun E1 j hj hno => absurd rfl (hno j hj)) (fun Ex ce q9 E1 H locs hx9 hW hS hce hcv hcl => ?_) (fun r E1 H locs hp hW hS => ?_)
  · obtain ⟨hx9, hC⟩ := hx9
    rcases hx9 with ⟨rfl, hk⟩ | ⟨rfl, hk⟩
    · skip
      refine h_catch B hT hN htab (pre := []) (suf := [(0, 6, 11, 20)]) (a := 0) (b := 6) (h := 7) (ct := 44) rfl (fun z hz => nomatch hz) (by decide) (by decide) (r12_in _ (List.mem_of_getElem? (i := 1) rfl)) (List.mem_of_getElem? (i := 26) rfl) hce hcv hcl ?_
      refine lv_astore_n (lv' := [(3, .ref q9), (0, .ref (ad 0)), (1, .int x), (2, .int dy)]) hx hb dL_ruleAt_7 rfl hl (by decide) rfl (fun ls hl => ?_)
      refine lv_bipush (v := (-75)) hx hb dL_ruleAt_8 (by decide) ?_
      exact e_i hQ B hr hlk hS hW dL_ruleAt_10 (Nat.le_of_ble_eq_true rfl) (Nat.le_of_ble_eq_true rfl) (⟨by rw [hk, hv_1], hC⟩)
    · skip
      refine h_catch B hT hN htab (pre := [(0, 6, 7, 44)]) (suf := []) (a := 0) (b := 6) (h := 11) (ct := 20) rfl (List.forall_mem_cons.mpr ⟨⟨by decide, "java/util/NoSuchElementException", (r12_in _ (List.mem_of_getElem? (i := 1) rfl)), List.mem_of_getElem? (i := 2) rfl⟩, (fun z hz => nomatch hz)⟩) (by decide) (by decide) (r5_in _ (List.mem_of_getElem? (i := 5) rfl)) (List.mem_of_getElem? (i := 24) rfl) hce hcv hcl ?_
      refine lv_astore_n (lv' := [(3, .ref q9), (0, .ref (ad 0)), (1, .int x), (2, .int dy)]) hx hb dL_ruleAt_11 rfl hl (by decide) rfl (fun ls hl => ?_)
      refine lv_bipush (v := (-78)) hx hb dL_ruleAt_12 (by decide) ?_
      exact e_i hQ B hr hlk hS hW dL_ruleAt_14 (Nat.le_of_ble_eq_true rfl) (Nat.le_of_ble_eq_true rfl) (⟨by rw [hk, hv_2], hC⟩)
  · skip
    exact e_i hQ B hr hlk hS hW dL_ruleAt_6 (Nat.le_of_ble_eq_true rfl) (Nat.le_of_ble_eq_true rfl) (⟨by rw [hp.1.1, hv_0, hp.1.2], hp.2⟩)
set_option maxHeartbeats 4000000 in
set_option maxRecDepth 100000 in
theorem lq_adults {l : Launch} (hlf : l.stackTraces = false) {D : va_G} {tys : List (ClassId × FieldType)} {ad : Nat → Nat} (hI : aI ad 109) {cI cZ cH cP cT : ClassId} {V T : Nat → Nat → Int32} {ag : Nat → Int32} {nP nH rN : Nat} {nf pn : Int32} {sp sk : Int64} {py pd : Nat → Nat → Int32} (hty : TY tys cI cZ cH cP cT) (x dy : Int32) {E : Nat → va_E} (hC : CW cI cZ cH cP cT ad V T ag nP nH rN nf pn sp sk py pd E) (sz : Nat) : Met l yL_adults (Cond.codeWith yL_adults cL_adults 4 (some .int) [(0, 6, 7, 32), (0, 6, 11, 20)] :: wsL_law) (rmk 7 8 48) (va_Pc [.ref (ad 0), .int x, .int dy] (PN D tys ad 109 E sz)) (Qi D ad 109 (fun r E1 => r = hv (kAsk nH x dy) (-77) (-78) 0 ((cnt V ag (nI (ix x)) (ix dy) nP).1) ∧ CW cI cZ cH cP cT ad V T ag nP nH rN nf pn sp sk py pd E1) (cA ad 109 sz)) 8 48 (cA ad 109 sz) := by
  obtain ⟨so, en, rA, rC, rI, aA, aC, aH, aT, aP, rfl, hInv⟩ := hC
  obtain ⟨hti, htz, hth, htp, htt⟩ := hty
  refine ch_of (own := RL) (Qc := Qi D ad 109 (fun r E1 => r = hv (kAsk nH x dy) (-77) (-78) 0 ((cnt V ag (nI (ix x)) (ix dy) nP).1) ∧ CW cI cZ cH cP cT ad V T ag nP nH rN nf pn sp sk py pd E1)) rfl (by decide +kernel) (Nat.le_of_ble_eq_true rfl) ?_ sz
  intro p e s m args below meth c ls Q B hT hX hN hW hr hlk htab hl hS hA hQ
  have hx := B.1
  have hb := B.2.1
  have hl : lv_has ls 4 [(0, .ref (ad 0)), (1, .int x), (2, .int dy)] := hl
  refine lv_aload_n hx hb dL_adults_0 rfl (lv_at hl 0 rfl) ?_
  refine lv_iload_n hx hb dL_adults_1 rfl (lv_at hl 1 rfl) ?_
  refine lv_iload_n hx hb dL_adults_2 rfl (lv_at hl 2 rfl) ?_
  refine y_xci (y_xrunV (ad' := ad) (σ := fun k => k) (n9 := 109) (k := 0) B hT hX hW hS (fun k h => h) (fun _ _ => rfl) (fun _ _ => rfl) (As := [.int x, .int dy]) (rest := []) (fun sz => mt_adults hlf hI V T ag nP nH rN nf pn sp sk py pd so en rA rC rI aA aC aH aT aP x dy hti htz hth htp htt hInv sz) (cwL_81 B.2.2.2.2.1 ⟨Nat.le_of_ble_eq_true rfl, Nat.le_of_ble_eq_true rfl⟩) (b_recv B hW (by decide) cE_0 rfl) rfl hl.1 (Nat.le_of_ble_eq_true rfl) dL_adults_3 ⟨Nat.le_of_ble_eq_true rfl, Nat.le_of_ble_eq_true rfl⟩) hI hW hS (fun k h => h) (fun _ _ => rfl) (fun E1 => E1) (fun _ _ _ => rfl) (fun E1 j hj hno => absurd rfl (hno j hj)) (fun Ex ce q9 E1 H locs hx9 hW hS hce hcv hcl => ?_) (fun r E1 H locs hp hW hS => ?_)
  · obtain ⟨hx9, hC⟩ := hx9
    rcases hx9 with ⟨rfl, hk⟩ | ⟨rfl, hk⟩
    · skip
      refine h_catch B hT hN htab (pre := []) (suf := [(0, 6, 11, 20)]) (a := 0) (b := 6) (h := 7) (ct := 32) rfl (fun z hz => nomatch hz) (by decide) (by decide) (r6_in _ (List.mem_of_getElem? (i := 6) rfl)) (List.mem_of_getElem? (i := 25) rfl) hce hcv hcl ?_
      refine lv_astore_n (lv' := [(3, .ref q9), (0, .ref (ad 0)), (1, .int x), (2, .int dy)]) hx hb dL_adults_7 rfl hl (by decide) rfl (fun ls hl => ?_)
      refine lv_bipush (v := (-77)) hx hb dL_adults_8 (by decide) ?_
      exact e_i hQ B hr hlk hS hW dL_adults_10 (Nat.le_of_ble_eq_true rfl) (Nat.le_of_ble_eq_true rfl) (⟨by rw [hk, hv_1], hC⟩)
    · skip
      refine h_catch B hT hN htab (pre := [(0, 6, 7, 32)]) (suf := []) (a := 0) (b := 6) (h := 11) (ct := 20) rfl (List.forall_mem_cons.mpr ⟨⟨by decide, "java/lang/IndexOutOfBoundsException", (r6_in _ (List.mem_of_getElem? (i := 6) rfl)), List.mem_of_getElem? (i := 1) rfl⟩, (fun z hz => nomatch hz)⟩) (by decide) (by decide) (r5_in _ (List.mem_of_getElem? (i := 5) rfl)) (List.mem_of_getElem? (i := 24) rfl) hce hcv hcl ?_
      refine lv_astore_n (lv' := [(3, .ref q9), (0, .ref (ad 0)), (1, .int x), (2, .int dy)]) hx hb dL_adults_11 rfl hl (by decide) rfl (fun ls hl => ?_)
      refine lv_bipush (v := (-78)) hx hb dL_adults_12 (by decide) ?_
      exact e_i hQ B hr hlk hS hW dL_adults_14 (Nat.le_of_ble_eq_true rfl) (Nat.le_of_ble_eq_true rfl) (⟨by rw [hk, hv_2], hC⟩)
  · skip
    exact e_i hQ B hr hlk hS hW dL_adults_6 (Nat.le_of_ble_eq_true rfl) (Nat.le_of_ble_eq_true rfl) (⟨by rw [hp.1.1, hv_0, hp.1.2], hp.2⟩)
set_option maxHeartbeats 4000000 in
set_option maxRecDepth 100000 in
theorem lq_children {l : Launch} (hlf : l.stackTraces = false) {D : va_G} {tys : List (ClassId × FieldType)} {ad : Nat → Nat} (hI : aI ad 109) {cI cZ cH cP cT : ClassId} {V T : Nat → Nat → Int32} {ag : Nat → Int32} {nP nH rN : Nat} {nf pn : Int32} {sp sk : Int64} {py pd : Nat → Nat → Int32} (hty : TY tys cI cZ cH cP cT) (x dy : Int32) {E : Nat → va_E} (hC : CW cI cZ cH cP cT ad V T ag nP nH rN nf pn sp sk py pd E) (sz : Nat) : Met l yL_children (Cond.codeWith yL_children cL_children 4 (some .int) [(0, 6, 7, 32), (0, 6, 11, 20)] :: wsL_law) (rmk 7 8 48) (va_Pc [.ref (ad 0), .int x, .int dy] (PN D tys ad 109 E sz)) (Qi D ad 109 (fun r E1 => r = hv (kAsk nH x dy) (-77) (-78) 0 ((cnt V ag (nI (ix x)) (ix dy) nP).2.1) ∧ CW cI cZ cH cP cT ad V T ag nP nH rN nf pn sp sk py pd E1) (cA ad 109 sz)) 8 48 (cA ad 109 sz) := by
  obtain ⟨so, en, rA, rC, rI, aA, aC, aH, aT, aP, rfl, hInv⟩ := hC
  obtain ⟨hti, htz, hth, htp, htt⟩ := hty
  refine ch_of (own := RL) (Qc := Qi D ad 109 (fun r E1 => r = hv (kAsk nH x dy) (-77) (-78) 0 ((cnt V ag (nI (ix x)) (ix dy) nP).2.1) ∧ CW cI cZ cH cP cT ad V T ag nP nH rN nf pn sp sk py pd E1)) rfl (by decide +kernel) (Nat.le_of_ble_eq_true rfl) ?_ sz
  intro p e s m args below meth c ls Q B hT hX hN hW hr hlk htab hl hS hA hQ
  have hx := B.1
  have hb := B.2.1
  have hl : lv_has ls 4 [(0, .ref (ad 0)), (1, .int x), (2, .int dy)] := hl
  refine lv_aload_n hx hb dL_children_0 rfl (lv_at hl 0 rfl) ?_
  refine lv_iload_n hx hb dL_children_1 rfl (lv_at hl 1 rfl) ?_
  refine lv_iload_n hx hb dL_children_2 rfl (lv_at hl 2 rfl) ?_
  refine y_xci (y_xrunV (ad' := ad) (σ := fun k => k) (n9 := 109) (k := 0) B hT hX hW hS (fun k h => h) (fun _ _ => rfl) (fun _ _ => rfl) (As := [.int x, .int dy]) (rest := []) (fun sz => mt_children hlf hI V T ag nP nH rN nf pn sp sk py pd so en rA rC rI aA aC aH aT aP x dy hti htz hth htp htt hInv sz) (cwL_84 B.2.2.2.2.1 ⟨Nat.le_of_ble_eq_true rfl, Nat.le_of_ble_eq_true rfl⟩) (b_recv B hW (by decide) cE_0 rfl) rfl hl.1 (Nat.le_of_ble_eq_true rfl) dL_children_3 ⟨Nat.le_of_ble_eq_true rfl, Nat.le_of_ble_eq_true rfl⟩) hI hW hS (fun k h => h) (fun _ _ => rfl) (fun E1 => E1) (fun _ _ _ => rfl) (fun E1 j hj hno => absurd rfl (hno j hj)) (fun Ex ce q9 E1 H locs hx9 hW hS hce hcv hcl => ?_) (fun r E1 H locs hp hW hS => ?_)
  · obtain ⟨hx9, hC⟩ := hx9
    rcases hx9 with ⟨rfl, hk⟩ | ⟨rfl, hk⟩
    · skip
      refine h_catch B hT hN htab (pre := []) (suf := [(0, 6, 11, 20)]) (a := 0) (b := 6) (h := 7) (ct := 32) rfl (fun z hz => nomatch hz) (by decide) (by decide) (r6_in _ (List.mem_of_getElem? (i := 6) rfl)) (List.mem_of_getElem? (i := 25) rfl) hce hcv hcl ?_
      refine lv_astore_n (lv' := [(3, .ref q9), (0, .ref (ad 0)), (1, .int x), (2, .int dy)]) hx hb dL_children_7 rfl hl (by decide) rfl (fun ls hl => ?_)
      refine lv_bipush (v := (-77)) hx hb dL_children_8 (by decide) ?_
      exact e_i hQ B hr hlk hS hW dL_children_10 (Nat.le_of_ble_eq_true rfl) (Nat.le_of_ble_eq_true rfl) (⟨by rw [hk, hv_1], hC⟩)
    · skip
      refine h_catch B hT hN htab (pre := [(0, 6, 7, 32)]) (suf := []) (a := 0) (b := 6) (h := 11) (ct := 20) rfl (List.forall_mem_cons.mpr ⟨⟨by decide, "java/lang/IndexOutOfBoundsException", (r6_in _ (List.mem_of_getElem? (i := 6) rfl)), List.mem_of_getElem? (i := 1) rfl⟩, (fun z hz => nomatch hz)⟩) (by decide) (by decide) (r5_in _ (List.mem_of_getElem? (i := 5) rfl)) (List.mem_of_getElem? (i := 24) rfl) hce hcv hcl ?_
      refine lv_astore_n (lv' := [(3, .ref q9), (0, .ref (ad 0)), (1, .int x), (2, .int dy)]) hx hb dL_children_11 rfl hl (by decide) rfl (fun ls hl => ?_)
      refine lv_bipush (v := (-78)) hx hb dL_children_12 (by decide) ?_
      exact e_i hQ B hr hlk hS hW dL_children_14 (Nat.le_of_ble_eq_true rfl) (Nat.le_of_ble_eq_true rfl) (⟨by rw [hk, hv_2], hC⟩)
  · skip
    exact e_i hQ B hr hlk hS hW dL_children_6 (Nat.le_of_ble_eq_true rfl) (Nat.le_of_ble_eq_true rfl) (⟨by rw [hp.1.1, hv_0, hp.1.2], hp.2⟩)
set_option maxHeartbeats 4000000 in
set_option maxRecDepth 100000 in
theorem lq_adultAmount {l : Launch} (hlf : l.stackTraces = false) {D : va_G} {tys : List (ClassId × FieldType)} {ad : Nat → Nat} (hI : aI ad 109) {cI cZ cH cP cT : ClassId} {V T : Nat → Nat → Int32} {ag : Nat → Int32} {nP nH rN : Nat} {nf pn : Int32} {sp sk : Int64} {py pd : Nat → Nat → Int32} (hty : TY tys cI cZ cH cP cT) (x dy : Int32) {E : Nat → va_E} (hC : CW cI cZ cH cP cT ad V T ag nP nH rN nf pn sp sk py pd E) (sz : Nat) : Met l yL_adultAmount (Cond.codeWith yL_adultAmount cL_adultAmount 4 (some .int) [(0, 6, 7, 32), (0, 6, 11, 20)] :: wsL_law) (rmk 7 8 48) (va_Pc [.ref (ad 0), .int x, .int dy] (PN D tys ad 109 E sz)) (Qi D ad 109 (fun r E1 => r = hv (kAsk nH x dy) (-77) (-78) 0 ((amt V ag nP (ix x) (ix dy)).1) ∧ CW cI cZ cH cP cT ad V T ag nP nH rN nf pn sp sk py pd E1) (cA ad 109 sz)) 8 48 (cA ad 109 sz) := by
  obtain ⟨so, en, rA, rC, rI, aA, aC, aH, aT, aP, rfl, hInv⟩ := hC
  obtain ⟨hti, htz, hth, htp, htt⟩ := hty
  refine ch_of (own := RL) (Qc := Qi D ad 109 (fun r E1 => r = hv (kAsk nH x dy) (-77) (-78) 0 ((amt V ag nP (ix x) (ix dy)).1) ∧ CW cI cZ cH cP cT ad V T ag nP nH rN nf pn sp sk py pd E1)) rfl (by decide +kernel) (Nat.le_of_ble_eq_true rfl) ?_ sz
  intro p e s m args below meth c ls Q B hT hX hN hW hr hlk htab hl hS hA hQ
  have hx := B.1
  have hb := B.2.1
  have hl : lv_has ls 4 [(0, .ref (ad 0)), (1, .int x), (2, .int dy)] := hl
  refine lv_aload_n hx hb dL_adultAmount_0 rfl (lv_at hl 0 rfl) ?_
  refine lv_iload_n hx hb dL_adultAmount_1 rfl (lv_at hl 1 rfl) ?_
  refine lv_iload_n hx hb dL_adultAmount_2 rfl (lv_at hl 2 rfl) ?_
  refine y_xci (y_xrunV (ad' := ad) (σ := fun k => k) (n9 := 109) (k := 0) B hT hX hW hS (fun k h => h) (fun _ _ => rfl) (fun _ _ => rfl) (As := [.int x, .int dy]) (rest := []) (fun sz => mt_adultAmount hlf hI V T ag nP nH rN nf pn sp sk py pd so en rA rC rI aA aC aH aT aP x dy hti htz hth htp htt hInv sz) (cwL_87 B.2.2.2.2.1 ⟨Nat.le_of_ble_eq_true rfl, Nat.le_of_ble_eq_true rfl⟩) (b_recv B hW (by decide) cE_0 rfl) rfl hl.1 (Nat.le_of_ble_eq_true rfl) dL_adultAmount_3 ⟨Nat.le_of_ble_eq_true rfl, Nat.le_of_ble_eq_true rfl⟩) hI hW hS (fun k h => h) (fun _ _ => rfl) (fun E1 => E1) (fun _ _ _ => rfl) (fun E1 j hj hno => absurd rfl (hno j hj)) (fun Ex ce q9 E1 H locs hx9 hW hS hce hcv hcl => ?_) (fun r E1 H locs hp hW hS => ?_)
  · obtain ⟨hx9, hC⟩ := hx9
    rcases hx9 with ⟨rfl, hk⟩ | ⟨rfl, hk⟩
    · skip
      refine h_catch B hT hN htab (pre := []) (suf := [(0, 6, 11, 20)]) (a := 0) (b := 6) (h := 7) (ct := 32) rfl (fun z hz => nomatch hz) (by decide) (by decide) (r6_in _ (List.mem_of_getElem? (i := 6) rfl)) (List.mem_of_getElem? (i := 25) rfl) hce hcv hcl ?_
      refine lv_astore_n (lv' := [(3, .ref q9), (0, .ref (ad 0)), (1, .int x), (2, .int dy)]) hx hb dL_adultAmount_7 rfl hl (by decide) rfl (fun ls hl => ?_)
      refine lv_bipush (v := (-77)) hx hb dL_adultAmount_8 (by decide) ?_
      exact e_i hQ B hr hlk hS hW dL_adultAmount_10 (Nat.le_of_ble_eq_true rfl) (Nat.le_of_ble_eq_true rfl) (⟨by rw [hk, hv_1], hC⟩)
    · skip
      refine h_catch B hT hN htab (pre := [(0, 6, 7, 32)]) (suf := []) (a := 0) (b := 6) (h := 11) (ct := 20) rfl (List.forall_mem_cons.mpr ⟨⟨by decide, "java/lang/IndexOutOfBoundsException", (r6_in _ (List.mem_of_getElem? (i := 6) rfl)), List.mem_of_getElem? (i := 1) rfl⟩, (fun z hz => nomatch hz)⟩) (by decide) (by decide) (r5_in _ (List.mem_of_getElem? (i := 5) rfl)) (List.mem_of_getElem? (i := 24) rfl) hce hcv hcl ?_
      refine lv_astore_n (lv' := [(3, .ref q9), (0, .ref (ad 0)), (1, .int x), (2, .int dy)]) hx hb dL_adultAmount_11 rfl hl (by decide) rfl (fun ls hl => ?_)
      refine lv_bipush (v := (-78)) hx hb dL_adultAmount_12 (by decide) ?_
      exact e_i hQ B hr hlk hS hW dL_adultAmount_14 (Nat.le_of_ble_eq_true rfl) (Nat.le_of_ble_eq_true rfl) (⟨by rw [hk, hv_2], hC⟩)
  · skip
    exact e_i hQ B hr hlk hS hW dL_adultAmount_6 (Nat.le_of_ble_eq_true rfl) (Nat.le_of_ble_eq_true rfl) (⟨by rw [hp.1.1, hv_0, hp.1.2], hp.2⟩)
set_option maxHeartbeats 4000000 in
set_option maxRecDepth 100000 in
theorem lq_childAmount {l : Launch} (hlf : l.stackTraces = false) {D : va_G} {tys : List (ClassId × FieldType)} {ad : Nat → Nat} (hI : aI ad 109) {cI cZ cH cP cT : ClassId} {V T : Nat → Nat → Int32} {ag : Nat → Int32} {nP nH rN : Nat} {nf pn : Int32} {sp sk : Int64} {py pd : Nat → Nat → Int32} (hty : TY tys cI cZ cH cP cT) (x dy : Int32) {E : Nat → va_E} (hC : CW cI cZ cH cP cT ad V T ag nP nH rN nf pn sp sk py pd E) (sz : Nat) : Met l yL_childAmount (Cond.codeWith yL_childAmount cL_childAmount 4 (some .int) [(0, 6, 7, 32), (0, 6, 11, 20)] :: wsL_law) (rmk 7 8 48) (va_Pc [.ref (ad 0), .int x, .int dy] (PN D tys ad 109 E sz)) (Qi D ad 109 (fun r E1 => r = hv (kAsk nH x dy) (-77) (-78) 0 ((amt V ag nP (ix x) (ix dy)).2.1) ∧ CW cI cZ cH cP cT ad V T ag nP nH rN nf pn sp sk py pd E1) (cA ad 109 sz)) 8 48 (cA ad 109 sz) := by
  obtain ⟨so, en, rA, rC, rI, aA, aC, aH, aT, aP, rfl, hInv⟩ := hC
  obtain ⟨hti, htz, hth, htp, htt⟩ := hty
  refine ch_of (own := RL) (Qc := Qi D ad 109 (fun r E1 => r = hv (kAsk nH x dy) (-77) (-78) 0 ((amt V ag nP (ix x) (ix dy)).2.1) ∧ CW cI cZ cH cP cT ad V T ag nP nH rN nf pn sp sk py pd E1)) rfl (by decide +kernel) (Nat.le_of_ble_eq_true rfl) ?_ sz
  intro p e s m args below meth c ls Q B hT hX hN hW hr hlk htab hl hS hA hQ
  have hx := B.1
  have hb := B.2.1
  have hl : lv_has ls 4 [(0, .ref (ad 0)), (1, .int x), (2, .int dy)] := hl
  refine lv_aload_n hx hb dL_childAmount_0 rfl (lv_at hl 0 rfl) ?_
  refine lv_iload_n hx hb dL_childAmount_1 rfl (lv_at hl 1 rfl) ?_
  refine lv_iload_n hx hb dL_childAmount_2 rfl (lv_at hl 2 rfl) ?_
  refine y_xci (y_xrunV (ad' := ad) (σ := fun k => k) (n9 := 109) (k := 0) B hT hX hW hS (fun k h => h) (fun _ _ => rfl) (fun _ _ => rfl) (As := [.int x, .int dy]) (rest := []) (fun sz => mt_childAmount hlf hI V T ag nP nH rN nf pn sp sk py pd so en rA rC rI aA aC aH aT aP x dy hti htz hth htp htt hInv sz) (cwL_90 B.2.2.2.2.1 ⟨Nat.le_of_ble_eq_true rfl, Nat.le_of_ble_eq_true rfl⟩) (b_recv B hW (by decide) cE_0 rfl) rfl hl.1 (Nat.le_of_ble_eq_true rfl) dL_childAmount_3 ⟨Nat.le_of_ble_eq_true rfl, Nat.le_of_ble_eq_true rfl⟩) hI hW hS (fun k h => h) (fun _ _ => rfl) (fun E1 => E1) (fun _ _ _ => rfl) (fun E1 j hj hno => absurd rfl (hno j hj)) (fun Ex ce q9 E1 H locs hx9 hW hS hce hcv hcl => ?_) (fun r E1 H locs hp hW hS => ?_)
  · obtain ⟨hx9, hC⟩ := hx9
    rcases hx9 with ⟨rfl, hk⟩ | ⟨rfl, hk⟩
    · skip
      refine h_catch B hT hN htab (pre := []) (suf := [(0, 6, 11, 20)]) (a := 0) (b := 6) (h := 7) (ct := 32) rfl (fun z hz => nomatch hz) (by decide) (by decide) (r6_in _ (List.mem_of_getElem? (i := 6) rfl)) (List.mem_of_getElem? (i := 25) rfl) hce hcv hcl ?_
      refine lv_astore_n (lv' := [(3, .ref q9), (0, .ref (ad 0)), (1, .int x), (2, .int dy)]) hx hb dL_childAmount_7 rfl hl (by decide) rfl (fun ls hl => ?_)
      refine lv_bipush (v := (-77)) hx hb dL_childAmount_8 (by decide) ?_
      exact e_i hQ B hr hlk hS hW dL_childAmount_10 (Nat.le_of_ble_eq_true rfl) (Nat.le_of_ble_eq_true rfl) (⟨by rw [hk, hv_1], hC⟩)
    · skip
      refine h_catch B hT hN htab (pre := [(0, 6, 7, 32)]) (suf := []) (a := 0) (b := 6) (h := 11) (ct := 20) rfl (List.forall_mem_cons.mpr ⟨⟨by decide, "java/lang/IndexOutOfBoundsException", (r6_in _ (List.mem_of_getElem? (i := 6) rfl)), List.mem_of_getElem? (i := 1) rfl⟩, (fun z hz => nomatch hz)⟩) (by decide) (by decide) (r5_in _ (List.mem_of_getElem? (i := 5) rfl)) (List.mem_of_getElem? (i := 24) rfl) hce hcv hcl ?_
      refine lv_astore_n (lv' := [(3, .ref q9), (0, .ref (ad 0)), (1, .int x), (2, .int dy)]) hx hb dL_childAmount_11 rfl hl (by decide) rfl (fun ls hl => ?_)
      refine lv_bipush (v := (-78)) hx hb dL_childAmount_12 (by decide) ?_
      exact e_i hQ B hr hlk hS hW dL_childAmount_14 (Nat.le_of_ble_eq_true rfl) (Nat.le_of_ble_eq_true rfl) (⟨by rw [hk, hv_2], hC⟩)
  · skip
    exact e_i hQ B hr hlk hS hW dL_childAmount_6 (Nat.le_of_ble_eq_true rfl) (Nat.le_of_ble_eq_true rfl) (⟨by rw [hp.1.1, hv_0, hp.1.2], hp.2⟩)
set_option maxHeartbeats 4000000 in
set_option maxRecDepth 100000 in
theorem lq_housingAmount {l : Launch} (hlf : l.stackTraces = false) {D : va_G} {tys : List (ClassId × FieldType)} {ad : Nat → Nat} (hI : aI ad 109) {cI cZ cH cP cT : ClassId} {V T : Nat → Nat → Int32} {ag : Nat → Int32} {nP nH rN : Nat} {nf pn : Int32} {sp sk : Int64} {py pd : Nat → Nat → Int32} (hty : TY tys cI cZ cH cP cT) (x dy : Int32) {E : Nat → va_E} (hC : CW cI cZ cH cP cT ad V T ag nP nH rN nf pn sp sk py pd E) (sz : Nat) : Met l yL_housingAmount (Cond.codeWith yL_housingAmount cL_housingAmount 4 (some .int) [(0, 6, 7, 32), (0, 6, 11, 20)] :: wsL_law) (rmk 7 8 48) (va_Pc [.ref (ad 0), .int x, .int dy] (PN D tys ad 109 E sz)) (Qi D ad 109 (fun r E1 => r = hv (kAsk nH x dy) (-77) (-78) 0 ((amt V ag nP (ix x) (ix dy)).2.2.1) ∧ CW cI cZ cH cP cT ad V T ag nP nH rN nf pn sp sk py pd E1) (cA ad 109 sz)) 8 48 (cA ad 109 sz) := by
  obtain ⟨so, en, rA, rC, rI, aA, aC, aH, aT, aP, rfl, hInv⟩ := hC
  obtain ⟨hti, htz, hth, htp, htt⟩ := hty
  refine ch_of (own := RL) (Qc := Qi D ad 109 (fun r E1 => r = hv (kAsk nH x dy) (-77) (-78) 0 ((amt V ag nP (ix x) (ix dy)).2.2.1) ∧ CW cI cZ cH cP cT ad V T ag nP nH rN nf pn sp sk py pd E1)) rfl (by decide +kernel) (Nat.le_of_ble_eq_true rfl) ?_ sz
  intro p e s m args below meth c ls Q B hT hX hN hW hr hlk htab hl hS hA hQ
  have hx := B.1
  have hb := B.2.1
  have hl : lv_has ls 4 [(0, .ref (ad 0)), (1, .int x), (2, .int dy)] := hl
  refine lv_aload_n hx hb dL_housingAmount_0 rfl (lv_at hl 0 rfl) ?_
  refine lv_iload_n hx hb dL_housingAmount_1 rfl (lv_at hl 1 rfl) ?_
  refine lv_iload_n hx hb dL_housingAmount_2 rfl (lv_at hl 2 rfl) ?_
  refine y_xci (y_xrunV (ad' := ad) (σ := fun k => k) (n9 := 109) (k := 0) B hT hX hW hS (fun k h => h) (fun _ _ => rfl) (fun _ _ => rfl) (As := [.int x, .int dy]) (rest := []) (fun sz => mt_housingAmount hlf hI V T ag nP nH rN nf pn sp sk py pd so en rA rC rI aA aC aH aT aP x dy hti htz hth htp htt hInv sz) (cwL_93 B.2.2.2.2.1 ⟨Nat.le_of_ble_eq_true rfl, Nat.le_of_ble_eq_true rfl⟩) (b_recv B hW (by decide) cE_0 rfl) rfl hl.1 (Nat.le_of_ble_eq_true rfl) dL_housingAmount_3 ⟨Nat.le_of_ble_eq_true rfl, Nat.le_of_ble_eq_true rfl⟩) hI hW hS (fun k h => h) (fun _ _ => rfl) (fun E1 => E1) (fun _ _ _ => rfl) (fun E1 j hj hno => absurd rfl (hno j hj)) (fun Ex ce q9 E1 H locs hx9 hW hS hce hcv hcl => ?_) (fun r E1 H locs hp hW hS => ?_)
  · obtain ⟨hx9, hC⟩ := hx9
    rcases hx9 with ⟨rfl, hk⟩ | ⟨rfl, hk⟩
    · skip
      refine h_catch B hT hN htab (pre := []) (suf := [(0, 6, 11, 20)]) (a := 0) (b := 6) (h := 7) (ct := 32) rfl (fun z hz => nomatch hz) (by decide) (by decide) (r6_in _ (List.mem_of_getElem? (i := 6) rfl)) (List.mem_of_getElem? (i := 25) rfl) hce hcv hcl ?_
      refine lv_astore_n (lv' := [(3, .ref q9), (0, .ref (ad 0)), (1, .int x), (2, .int dy)]) hx hb dL_housingAmount_7 rfl hl (by decide) rfl (fun ls hl => ?_)
      refine lv_bipush (v := (-77)) hx hb dL_housingAmount_8 (by decide) ?_
      exact e_i hQ B hr hlk hS hW dL_housingAmount_10 (Nat.le_of_ble_eq_true rfl) (Nat.le_of_ble_eq_true rfl) (⟨by rw [hk, hv_1], hC⟩)
    · skip
      refine h_catch B hT hN htab (pre := [(0, 6, 7, 32)]) (suf := []) (a := 0) (b := 6) (h := 11) (ct := 20) rfl (List.forall_mem_cons.mpr ⟨⟨by decide, "java/lang/IndexOutOfBoundsException", (r6_in _ (List.mem_of_getElem? (i := 6) rfl)), List.mem_of_getElem? (i := 1) rfl⟩, (fun z hz => nomatch hz)⟩) (by decide) (by decide) (r5_in _ (List.mem_of_getElem? (i := 5) rfl)) (List.mem_of_getElem? (i := 24) rfl) hce hcv hcl ?_
      refine lv_astore_n (lv' := [(3, .ref q9), (0, .ref (ad 0)), (1, .int x), (2, .int dy)]) hx hb dL_housingAmount_11 rfl hl (by decide) rfl (fun ls hl => ?_)
      refine lv_bipush (v := (-78)) hx hb dL_housingAmount_12 (by decide) ?_
      exact e_i hQ B hr hlk hS hW dL_housingAmount_14 (Nat.le_of_ble_eq_true rfl) (Nat.le_of_ble_eq_true rfl) (⟨by rw [hk, hv_2], hC⟩)
  · skip
    exact e_i hQ B hr hlk hS hW dL_housingAmount_6 (Nat.le_of_ble_eq_true rfl) (Nat.le_of_ble_eq_true rfl) (⟨by rw [hp.1.1, hv_0, hp.1.2], hp.2⟩)
set_option maxHeartbeats 4000000 in
set_option maxRecDepth 100000 in
theorem lq_reason {l : Launch} (hlf : l.stackTraces = false) {D : va_G} {tys : List (ClassId × FieldType)} {ad : Nat → Nat} (hI : aI ad 109) {cI cZ cH cP cT : ClassId} {V T : Nat → Nat → Int32} {ag : Nat → Int32} {nP nH rN : Nat} {nf pn : Int32} {sp sk : Int64} {py pd : Nat → Nat → Int32} (hty : TY tys cI cZ cH cP cT) (x dy : Int32) {E : Nat → va_E} (hC : CW cI cZ cH cP cT ad V T ag nP nH rN nf pn sp sk py pd E) (sz : Nat) : Met l yL_reason (Cond.codeWith yL_reason cL_reason 4 (some .int) [(0, 6, 7, 32), (0, 6, 11, 20)] :: wsL_law) (rmk 7 8 48) (va_Pc [.ref (ad 0), .int x, .int dy] (PN D tys ad 109 E sz)) (Qi D ad 109 (fun r E1 => r = hv (kAsk nH x dy) (-77) (-78) 0 (rsn (cnt V ag (nI (ix x)) (ix dy) nP).1 (amt V ag nP (ix x) (ix dy)).2.2.2.1 (amt V ag nP (ix x) (ix dy)).2.2.2.2) ∧ CW cI cZ cH cP cT ad V T ag nP nH rN nf pn sp sk py pd E1) (cA ad 109 sz)) 8 48 (cA ad 109 sz) := by
  obtain ⟨so, en, rA, rC, rI, aA, aC, aH, aT, aP, rfl, hInv⟩ := hC
  obtain ⟨hti, htz, hth, htp, htt⟩ := hty
  refine ch_of (own := RL) (Qc := Qi D ad 109 (fun r E1 => r = hv (kAsk nH x dy) (-77) (-78) 0 (rsn (cnt V ag (nI (ix x)) (ix dy) nP).1 (amt V ag nP (ix x) (ix dy)).2.2.2.1 (amt V ag nP (ix x) (ix dy)).2.2.2.2) ∧ CW cI cZ cH cP cT ad V T ag nP nH rN nf pn sp sk py pd E1)) rfl (by decide +kernel) (Nat.le_of_ble_eq_true rfl) ?_ sz
  intro p e s m args below meth c ls Q B hT hX hN hW hr hlk htab hl hS hA hQ
  have hx := B.1
  have hb := B.2.1
  have hl : lv_has ls 4 [(0, .ref (ad 0)), (1, .int x), (2, .int dy)] := hl
  refine lv_aload_n hx hb dL_reason_0 rfl (lv_at hl 0 rfl) ?_
  refine lv_iload_n hx hb dL_reason_1 rfl (lv_at hl 1 rfl) ?_
  refine lv_iload_n hx hb dL_reason_2 rfl (lv_at hl 2 rfl) ?_
  refine y_xci (y_xrunV (ad' := ad) (σ := fun k => k) (n9 := 109) (k := 0) B hT hX hW hS (fun k h => h) (fun _ _ => rfl) (fun _ _ => rfl) (As := [.int x, .int dy]) (rest := []) (fun sz => mt_reason hlf hI V T ag nP nH rN nf pn sp sk py pd so en rA rC rI aA aC aH aT aP x dy hti htz hth htp htt hInv sz) (cwL_96 B.2.2.2.2.1 ⟨Nat.le_of_ble_eq_true rfl, Nat.le_of_ble_eq_true rfl⟩) (b_recv B hW (by decide) cE_0 rfl) rfl hl.1 (Nat.le_of_ble_eq_true rfl) dL_reason_3 ⟨Nat.le_of_ble_eq_true rfl, Nat.le_of_ble_eq_true rfl⟩) hI hW hS (fun k h => h) (fun _ _ => rfl) (fun E1 => E1) (fun _ _ _ => rfl) (fun E1 j hj hno => absurd rfl (hno j hj)) (fun Ex ce q9 E1 H locs hx9 hW hS hce hcv hcl => ?_) (fun r E1 H locs hp hW hS => ?_)
  · obtain ⟨hx9, hC⟩ := hx9
    rcases hx9 with ⟨rfl, hk⟩ | ⟨rfl, hk⟩
    · skip
      refine h_catch B hT hN htab (pre := []) (suf := [(0, 6, 11, 20)]) (a := 0) (b := 6) (h := 7) (ct := 32) rfl (fun z hz => nomatch hz) (by decide) (by decide) (r6_in _ (List.mem_of_getElem? (i := 6) rfl)) (List.mem_of_getElem? (i := 25) rfl) hce hcv hcl ?_
      refine lv_astore_n (lv' := [(3, .ref q9), (0, .ref (ad 0)), (1, .int x), (2, .int dy)]) hx hb dL_reason_7 rfl hl (by decide) rfl (fun ls hl => ?_)
      refine lv_bipush (v := (-77)) hx hb dL_reason_8 (by decide) ?_
      exact e_i hQ B hr hlk hS hW dL_reason_10 (Nat.le_of_ble_eq_true rfl) (Nat.le_of_ble_eq_true rfl) (⟨by rw [hk, hv_1], hC⟩)
    · skip
      refine h_catch B hT hN htab (pre := [(0, 6, 7, 32)]) (suf := []) (a := 0) (b := 6) (h := 11) (ct := 20) rfl (List.forall_mem_cons.mpr ⟨⟨by decide, "java/lang/IndexOutOfBoundsException", (r6_in _ (List.mem_of_getElem? (i := 6) rfl)), List.mem_of_getElem? (i := 1) rfl⟩, (fun z hz => nomatch hz)⟩) (by decide) (by decide) (r5_in _ (List.mem_of_getElem? (i := 5) rfl)) (List.mem_of_getElem? (i := 24) rfl) hce hcv hcl ?_
      refine lv_astore_n (lv' := [(3, .ref q9), (0, .ref (ad 0)), (1, .int x), (2, .int dy)]) hx hb dL_reason_11 rfl hl (by decide) rfl (fun ls hl => ?_)
      refine lv_bipush (v := (-78)) hx hb dL_reason_12 (by decide) ?_
      exact e_i hQ B hr hlk hS hW dL_reason_14 (Nat.le_of_ble_eq_true rfl) (Nat.le_of_ble_eq_true rfl) (⟨by rw [hk, hv_2], hC⟩)
  · skip
    exact e_i hQ B hr hlk hS hW dL_reason_6 (Nat.le_of_ble_eq_true rfl) (Nat.le_of_ble_eq_true rfl) (⟨by rw [hp.1.1, hv_0, hp.1.2], hp.2⟩)
set_option maxHeartbeats 4000000 in
set_option maxRecDepth 100000 in
theorem lq_nextChange {l : Launch} (hlf : l.stackTraces = false) {D : va_G} {tys : List (ClassId × FieldType)} {ad : Nat → Nat} (hI : aI ad 109) {cI cZ cH cP cT : ClassId} {V T : Nat → Nat → Int32} {ag : Nat → Int32} {nP nH rN : Nat} {nf pn : Int32} {sp sk : Int64} {py pd : Nat → Nat → Int32} (hty : TY tys cI cZ cH cP cT) (x dy : Int32) {E : Nat → va_E} (hC : CW cI cZ cH cP cT ad V T ag nP nH rN nf pn sp sk py pd E) (sz : Nat) : Met l yL_nextChange (Cond.codeWith yL_nextChange cL_nextChange 4 (some .int) [(0, 6, 7, 32), (0, 6, 11, 20), (0, 6, 15, 44)] :: wsL_law) (rmk 7 8 48) (va_Pc [.ref (ad 0), .int x, .int dy] (PN D tys ad 109 E sz)) (Qi D ad 109 (fun r E1 => r = hv (kNxt V ag nP nH x dy) (-77) (-78) (-75) (nI (nxD V ag nP (ix x) (ix dy))) ∧ CW cI cZ cH cP cT ad V T ag nP nH rN nf pn sp sk py pd E1) (cA ad 109 sz)) 8 48 (cA ad 109 sz) := by
  obtain ⟨so, en, rA, rC, rI, aA, aC, aH, aT, aP, rfl, hInv⟩ := hC
  obtain ⟨hti, htz, hth, htp, htt⟩ := hty
  refine ch_of (own := RL) (Qc := Qi D ad 109 (fun r E1 => r = hv (kNxt V ag nP nH x dy) (-77) (-78) (-75) (nI (nxD V ag nP (ix x) (ix dy))) ∧ CW cI cZ cH cP cT ad V T ag nP nH rN nf pn sp sk py pd E1)) rfl (by decide +kernel) (Nat.le_of_ble_eq_true rfl) ?_ sz
  intro p e s m args below meth c ls Q B hT hX hN hW hr hlk htab hl hS hA hQ
  have hx := B.1
  have hb := B.2.1
  have hl : lv_has ls 4 [(0, .ref (ad 0)), (1, .int x), (2, .int dy)] := hl
  refine lv_aload_n hx hb dL_nextChange_0 rfl (lv_at hl 0 rfl) ?_
  refine lv_iload_n hx hb dL_nextChange_1 rfl (lv_at hl 1 rfl) ?_
  refine lv_iload_n hx hb dL_nextChange_2 rfl (lv_at hl 2 rfl) ?_
  refine y_xci (y_xrunV (ad' := ad) (σ := fun k => k) (n9 := 109) (k := 0) B hT hX hW hS (fun k h => h) (fun _ _ => rfl) (fun _ _ => rfl) (As := [.int x, .int dy]) (rest := []) (fun sz => mt_nextChange hlf hI V T ag nP nH rN nf pn sp sk py pd so en rA rC rI aA aC aH aT aP x dy hti htz hth htp htt hInv sz) (cwL_100 B.2.2.2.2.1 ⟨Nat.le_of_ble_eq_true rfl, Nat.le_of_ble_eq_true rfl⟩) (b_recv B hW (by decide) cE_0 rfl) rfl hl.1 (Nat.le_of_ble_eq_true rfl) dL_nextChange_3 ⟨Nat.le_of_ble_eq_true rfl, Nat.le_of_ble_eq_true rfl⟩) hI hW hS (fun k h => h) (fun _ _ => rfl) (fun E1 => E1) (fun _ _ _ => rfl) (fun E1 j hj hno => absurd rfl (hno j hj)) (fun Ex ce q9 E1 H locs hx9 hW hS hce hcv hcl => ?_) (fun r E1 H locs hp hW hS => ?_)
  · obtain ⟨hx9, hC⟩ := hx9
    rcases hx9 with ⟨rfl, hk⟩ | ⟨rfl, hk⟩ | ⟨rfl, hk⟩
    · skip
      refine h_catch B hT hN htab (pre := []) (suf := [(0, 6, 11, 20), (0, 6, 15, 44)]) (a := 0) (b := 6) (h := 7) (ct := 32) rfl (fun z hz => nomatch hz) (by decide) (by decide) (r6_in _ (List.mem_of_getElem? (i := 6) rfl)) (List.mem_of_getElem? (i := 25) rfl) hce hcv hcl ?_
      refine lv_astore_n (lv' := [(3, .ref q9), (0, .ref (ad 0)), (1, .int x), (2, .int dy)]) hx hb dL_nextChange_7 rfl hl (by decide) rfl (fun ls hl => ?_)
      refine lv_bipush (v := (-77)) hx hb dL_nextChange_8 (by decide) ?_
      exact e_i hQ B hr hlk hS hW dL_nextChange_10 (Nat.le_of_ble_eq_true rfl) (Nat.le_of_ble_eq_true rfl) (⟨by rw [hk, hv_1], hC⟩)
    · skip
      refine h_catch B hT hN htab (pre := [(0, 6, 7, 32)]) (suf := [(0, 6, 15, 44)]) (a := 0) (b := 6) (h := 11) (ct := 20) rfl (List.forall_mem_cons.mpr ⟨⟨by decide, "java/lang/IndexOutOfBoundsException", (r6_in _ (List.mem_of_getElem? (i := 6) rfl)), List.mem_of_getElem? (i := 1) rfl⟩, (fun z hz => nomatch hz)⟩) (by decide) (by decide) (r5_in _ (List.mem_of_getElem? (i := 5) rfl)) (List.mem_of_getElem? (i := 24) rfl) hce hcv hcl ?_
      refine lv_astore_n (lv' := [(3, .ref q9), (0, .ref (ad 0)), (1, .int x), (2, .int dy)]) hx hb dL_nextChange_11 rfl hl (by decide) rfl (fun ls hl => ?_)
      refine lv_bipush (v := (-78)) hx hb dL_nextChange_12 (by decide) ?_
      exact e_i hQ B hr hlk hS hW dL_nextChange_14 (Nat.le_of_ble_eq_true rfl) (Nat.le_of_ble_eq_true rfl) (⟨by rw [hk, hv_2], hC⟩)
    · skip
      refine h_catch B hT hN htab (pre := [(0, 6, 7, 32), (0, 6, 11, 20)]) (suf := []) (a := 0) (b := 6) (h := 15) (ct := 44) rfl (List.forall_mem_cons.mpr ⟨⟨by decide, "java/lang/IndexOutOfBoundsException", (r6_in _ (List.mem_of_getElem? (i := 6) rfl)), List.mem_of_getElem? (i := 3) rfl⟩, (List.forall_mem_cons.mpr ⟨⟨by decide, "java/lang/IllegalArgumentException", (r5_in _ (List.mem_of_getElem? (i := 5) rfl)), List.mem_of_getElem? (i := 5) rfl⟩, (fun z hz => nomatch hz)⟩)⟩) (by decide) (by decide) (r12_in _ (List.mem_of_getElem? (i := 1) rfl)) (List.mem_of_getElem? (i := 26) rfl) hce hcv hcl ?_
      refine lv_astore_n (lv' := [(3, .ref q9), (0, .ref (ad 0)), (1, .int x), (2, .int dy)]) hx hb dL_nextChange_15 rfl hl (by decide) rfl (fun ls hl => ?_)
      refine lv_bipush (v := (-75)) hx hb dL_nextChange_16 (by decide) ?_
      exact e_i hQ B hr hlk hS hW dL_nextChange_18 (Nat.le_of_ble_eq_true rfl) (Nat.le_of_ble_eq_true rfl) (⟨by rw [hk, hv_3], hC⟩)
  · skip
    exact e_i hQ B hr hlk hS hW dL_nextChange_6 (Nat.le_of_ble_eq_true rfl) (Nat.le_of_ble_eq_true rfl) (⟨by rw [hp.1.1, hv_0, hp.1.2], hp.2⟩)
set_option maxHeartbeats 4000000 in
set_option maxRecDepth 100000 in
theorem lq_entitlement {l : Launch} (hlf : l.stackTraces = false) {D : va_G} {tys : List (ClassId × FieldType)} {ad : Nat → Nat} (hI : aI ad 109) {cI cZ cH cP cT : ClassId} {V T : Nat → Nat → Int32} {ag : Nat → Int32} {nP nH rN : Nat} {nf pn : Int32} {sp sk : Int64} {py pd : Nat → Nat → Int32} (hty : TY tys cI cZ cH cP cT) (x y : Int32) {E : Nat → va_E} (hC : CW cI cZ cH cP cT ad V T ag nP nH rN nf pn sp sk py pd E) (sz : Nat) : Met l yL_entitlement (Cond.codeWith yL_entitlement cL_entitlement 4 (some .int) [(0, 6, 7, 32)] :: wsL_law) (rmk 7 8 48) (va_Pc [.ref (ad 0), .int x, .int y] (PN D tys ad 109 E sz)) (Qi D ad 109 (fun r E1 => r = hv (kMon nH x y) (-77) 0 0 (due V ag nP (ix x) (ix y)) ∧ CW cI cZ cH cP cT ad V T ag nP nH rN nf pn sp sk py pd E1) (cA ad 109 sz)) 8 48 (cA ad 109 sz) := by
  obtain ⟨so, en, rA, rC, rI, aA, aC, aH, aT, aP, rfl, hInv⟩ := hC
  obtain ⟨hti, htz, hth, htp, htt⟩ := hty
  refine ch_of (own := RL) (Qc := Qi D ad 109 (fun r E1 => r = hv (kMon nH x y) (-77) 0 0 (due V ag nP (ix x) (ix y)) ∧ CW cI cZ cH cP cT ad V T ag nP nH rN nf pn sp sk py pd E1)) rfl (by decide +kernel) (Nat.le_of_ble_eq_true rfl) ?_ sz
  intro p e s m args below meth c ls Q B hT hX hN hW hr hlk htab hl hS hA hQ
  have hx := B.1
  have hb := B.2.1
  have hl : lv_has ls 4 [(0, .ref (ad 0)), (1, .int x), (2, .int y)] := hl
  refine lv_aload_n hx hb dL_entitlement_0 rfl (lv_at hl 0 rfl) ?_
  refine lv_iload_n hx hb dL_entitlement_1 rfl (lv_at hl 1 rfl) ?_
  refine lv_iload_n hx hb dL_entitlement_2 rfl (lv_at hl 2 rfl) ?_
  refine y_xci (y_xrunV (ad' := ad) (σ := fun k => k) (n9 := 109) (k := 0) B hT hX hW hS (fun k h => h) (fun _ _ => rfl) (fun _ _ => rfl) (As := [.int x, .int y]) (rest := []) (fun sz => mt_entitlement hlf hI V T ag nP nH rN nf pn sp sk py pd so en rA rC rI aA aC aH aT aP x y hti htz hth htp htt hInv sz) (cwL_103 B.2.2.2.2.1 ⟨Nat.le_of_ble_eq_true rfl, Nat.le_of_ble_eq_true rfl⟩) (b_recv B hW (by decide) cE_0 rfl) rfl hl.1 (Nat.le_of_ble_eq_true rfl) dL_entitlement_3 ⟨Nat.le_of_ble_eq_true rfl, Nat.le_of_ble_eq_true rfl⟩) hI hW hS (fun k h => h) (fun _ _ => rfl) (fun E1 => E1) (fun _ _ _ => rfl) (fun E1 j hj hno => absurd rfl (hno j hj)) (fun Ex ce q9 E1 H locs hx9 hW hS hce hcv hcl => ?_) (fun r E1 H locs hp hW hS => ?_)
  · obtain ⟨hx9, hC⟩ := hx9
    obtain ⟨rfl, hk⟩ := hx9
    refine h_catch B hT hN htab (pre := []) (suf := []) (a := 0) (b := 6) (h := 7) (ct := 32) rfl (fun z hz => nomatch hz) (by decide) (by decide) (r6_in _ (List.mem_of_getElem? (i := 6) rfl)) (List.mem_of_getElem? (i := 25) rfl) hce hcv hcl ?_
    refine lv_astore_n (lv' := [(3, .ref q9), (0, .ref (ad 0)), (1, .int x), (2, .int y)]) hx hb dL_entitlement_7 rfl hl (by decide) rfl (fun ls hl => ?_)
    refine lv_bipush (v := (-77)) hx hb dL_entitlement_8 (by decide) ?_
    exact e_i hQ B hr hlk hS hW dL_entitlement_10 (Nat.le_of_ble_eq_true rfl) (Nat.le_of_ble_eq_true rfl) (⟨by rw [hk, hv_1], hC⟩)
  · skip
    exact e_i hQ B hr hlk hS hW dL_entitlement_6 (Nat.le_of_ble_eq_true rfl) (Nat.le_of_ble_eq_true rfl) (⟨by rw [hp.1.1, hv_0, hp.1.2], hp.2⟩)
set_option maxHeartbeats 4000000 in
set_option maxRecDepth 100000 in
theorem lq_entitlementByDays {l : Launch} (hlf : l.stackTraces = false) {D : va_G} {tys : List (ClassId × FieldType)} {ad : Nat → Nat} (hI : aI ad 109) {cI cZ cH cP cT : ClassId} {V T : Nat → Nat → Int32} {ag : Nat → Int32} {nP nH rN : Nat} {nf pn : Int32} {sp sk : Int64} {py pd : Nat → Nat → Int32} (hty : TY tys cI cZ cH cP cT) (x y : Int32) {E : Nat → va_E} (hC : CW cI cZ cH cP cT ad V T ag nP nH rN nf pn sp sk py pd E) (sz : Nat) : Met l yL_entitlementByDays (Cond.codeWith yL_entitlementByDays cL_entitlementByDays 4 (some .int) [(0, 6, 7, 32)] :: wsL_law) (rmk 7 8 48) (va_Pc [.ref (ad 0), .int x, .int y] (PN D tys ad 109 E sz)) (Qi D ad 109 (fun r E1 => r = hv (kMon nH x y) (-77) 0 0 (due V ag nP (ix x) (ix y)) ∧ CW cI cZ cH cP cT ad V T ag nP nH rN nf pn sp sk py pd E1) (cA ad 109 sz)) 8 48 (cA ad 109 sz) := by
  obtain ⟨so, en, rA, rC, rI, aA, aC, aH, aT, aP, rfl, hInv⟩ := hC
  obtain ⟨hti, htz, hth, htp, htt⟩ := hty
  refine ch_of (own := RL) (Qc := Qi D ad 109 (fun r E1 => r = hv (kMon nH x y) (-77) 0 0 (due V ag nP (ix x) (ix y)) ∧ CW cI cZ cH cP cT ad V T ag nP nH rN nf pn sp sk py pd E1)) rfl (by decide +kernel) (Nat.le_of_ble_eq_true rfl) ?_ sz
  intro p e s m args below meth c ls Q B hT hX hN hW hr hlk htab hl hS hA hQ
  have hx := B.1
  have hb := B.2.1
  have hl : lv_has ls 4 [(0, .ref (ad 0)), (1, .int x), (2, .int y)] := hl
  refine lv_aload_n hx hb dL_entitlementByDays_0 rfl (lv_at hl 0 rfl) ?_
  refine lv_iload_n hx hb dL_entitlementByDays_1 rfl (lv_at hl 1 rfl) ?_
  refine lv_iload_n hx hb dL_entitlementByDays_2 rfl (lv_at hl 2 rfl) ?_
  refine y_xci (y_xrunV (ad' := ad) (σ := fun k => k) (n9 := 109) (k := 0) B hT hX hW hS (fun k h => h) (fun _ _ => rfl) (fun _ _ => rfl) (As := [.int x, .int y]) (rest := []) (fun sz => mt_entitlementByDays hlf hI V T ag nP nH rN nf pn sp sk py pd so en rA rC rI aA aC aH aT aP x y hti htz hth htp htt hInv sz) (cwL_106 B.2.2.2.2.1 ⟨Nat.le_of_ble_eq_true rfl, Nat.le_of_ble_eq_true rfl⟩) (b_recv B hW (by decide) cE_0 rfl) rfl hl.1 (Nat.le_of_ble_eq_true rfl) dL_entitlementByDays_3 ⟨Nat.le_of_ble_eq_true rfl, Nat.le_of_ble_eq_true rfl⟩) hI hW hS (fun k h => h) (fun _ _ => rfl) (fun E1 => E1) (fun _ _ _ => rfl) (fun E1 j hj hno => absurd rfl (hno j hj)) (fun Ex ce q9 E1 H locs hx9 hW hS hce hcv hcl => ?_) (fun r E1 H locs hp hW hS => ?_)
  · obtain ⟨hx9, hC⟩ := hx9
    obtain ⟨rfl, hk⟩ := hx9
    refine h_catch B hT hN htab (pre := []) (suf := []) (a := 0) (b := 6) (h := 7) (ct := 32) rfl (fun z hz => nomatch hz) (by decide) (by decide) (r6_in _ (List.mem_of_getElem? (i := 6) rfl)) (List.mem_of_getElem? (i := 25) rfl) hce hcv hcl ?_
    refine lv_astore_n (lv' := [(3, .ref q9), (0, .ref (ad 0)), (1, .int x), (2, .int y)]) hx hb dL_entitlementByDays_7 rfl hl (by decide) rfl (fun ls hl => ?_)
    refine lv_bipush (v := (-77)) hx hb dL_entitlementByDays_8 (by decide) ?_
    exact e_i hQ B hr hlk hS hW dL_entitlementByDays_10 (Nat.le_of_ble_eq_true rfl) (Nat.le_of_ble_eq_true rfl) (⟨by rw [hk, hv_1], hC⟩)
  · skip
    exact e_i hQ B hr hlk hS hW dL_entitlementByDays_6 (Nat.le_of_ble_eq_true rfl) (Nat.le_of_ble_eq_true rfl) (⟨by rw [hp.1.1, hv_0, hp.1.2], hp.2⟩)
set_option maxHeartbeats 4000000 in
set_option maxRecDepth 100000 in
theorem lq_isSettled {l : Launch} (hlf : l.stackTraces = false) {D : va_G} {tys : List (ClassId × FieldType)} {ad : Nat → Nat} (hI : aI ad 109) {cI cZ cH cP cT : ClassId} {V T : Nat → Nat → Int32} {ag : Nat → Int32} {nP nH rN : Nat} {nf pn : Int32} {sp sk : Int64} {py pd : Nat → Nat → Int32} (hty : TY tys cI cZ cH cP cT) (x : Int32) {E : Nat → va_E} (hC : CW cI cZ cH cP cT ad V T ag nP nH rN nf pn sp sk py pd E) (sz : Nat) : Met l yL_isSettled (Cond.codeWith yL_isSettled cL_isSettled 3 (some .int) [(0, 13, 14, 32)] :: wsL_law) (rmk 7 8 48) (va_Pc [.ref (ad 0), .int x] (PN D tys ad 109 E sz)) (Qi D ad 109 (fun r E1 => r = hv (kHou nH x) (-77) 0 0 (stl (due V ag nP (ix x)) (pd (ix x)) rN) ∧ CW cI cZ cH cP cT ad V T ag nP nH rN nf pn sp sk py pd E1) (cA ad 109 sz)) 8 48 (cA ad 109 sz) := by
  obtain ⟨so, en, rA, rC, rI, aA, aC, aH, aT, aP, rfl, hInv⟩ := hC
  obtain ⟨hti, htz, hth, htp, htt⟩ := hty
  refine ch_of (own := RL) (Qc := Qi D ad 109 (fun r E1 => r = hv (kHou nH x) (-77) 0 0 (stl (due V ag nP (ix x)) (pd (ix x)) rN) ∧ CW cI cZ cH cP cT ad V T ag nP nH rN nf pn sp sk py pd E1)) rfl (by decide +kernel) (Nat.le_of_ble_eq_true rfl) ?_ sz
  intro p e s m args below meth c ls Q B hT hX hN hW hr hlk htab hl hS hA hQ
  have hx := B.1
  have hb := B.2.1
  have hl : lv_has ls 3 [(0, .ref (ad 0)), (1, .int x)] := hl
  refine lv_aload_n hx hb dL_isSettled_0 rfl (lv_at hl 0 rfl) ?_
  refine lv_iload_n hx hb dL_isSettled_1 rfl (lv_at hl 1 rfl) ?_
  refine y_xci (y_xrunV (ad' := ad) (σ := fun k => k) (n9 := 109) (k := 0) B hT hX hW hS (fun k h => h) (fun _ _ => rfl) (fun _ _ => rfl) (As := [.int x]) (rest := []) (fun sz => mt_isSettled hlf hI V T ag nP nH rN nf pn sp sk py pd so en rA rC rI aA aC aH aT aP x hti htz hth htp htt hInv sz) (cwL_71 B.2.2.2.2.1 ⟨Nat.le_of_ble_eq_true rfl, Nat.le_of_ble_eq_true rfl⟩) (b_recv B hW (by decide) cE_0 rfl) rfl hl.1 (Nat.le_of_ble_eq_true rfl) dL_isSettled_2 ⟨Nat.le_of_ble_eq_true rfl, Nat.le_of_ble_eq_true rfl⟩) hI hW hS (fun k h => h) (fun _ _ => rfl) (fun E1 => E1) (fun _ _ _ => rfl) (fun E1 j hj hno => absurd rfl (hno j hj)) (fun Ex ce q9 E1 H locs hx9 hW hS hce hcv hcl => ?_) (fun r E1 H locs hp hW hS => ?_)
  · obtain ⟨hx9, hC⟩ := hx9
    obtain ⟨rfl, hk⟩ := hx9
    refine h_catch B hT hN htab (pre := []) (suf := []) (a := 0) (b := 13) (h := 14) (ct := 32) rfl (fun z hz => nomatch hz) (by decide) (by decide) (r6_in _ (List.mem_of_getElem? (i := 6) rfl)) (List.mem_of_getElem? (i := 25) rfl) hce hcv hcl ?_
    refine lv_astore_n (lv' := [(2, .ref q9), (0, .ref (ad 0)), (1, .int x)]) hx hb dL_isSettled_14 rfl hl (by decide) rfl (fun ls hl => ?_)
    refine lv_bipush (v := (-77)) hx hb dL_isSettled_15 (by decide) ?_
    exact e_i hQ B hr hlk hS hW dL_isSettled_17 (Nat.le_of_ble_eq_true rfl) (Nat.le_of_ble_eq_true rfl) (⟨by rw [hk, hv_1], hC⟩)
  · skip
    refine lv_if_eq (tgt := 12) hx hb dL_isSettled_5 (by decide) (fun c_5 => ?_) (fun c_5 => ?_)
    · skip
      refine lv_iconst (v := 0) hx hb dL_isSettled_12 (by decide) ?_
      exact e_i hQ B hr hlk hS hW dL_isSettled_13 (Nat.le_of_ble_eq_true rfl) (Nat.le_of_ble_eq_true rfl) (⟨by rw [hp.1.1, hv_0, ← hp.1.2, c_5], hp.2⟩)
    · skip
      refine lv_iconst (v := 1) hx hb dL_isSettled_8 (by decide) ?_
      refine lv_goto (tgt := 13) hx hb dL_isSettled_9 (by decide) ?_
      exact e_i hQ B hr hlk hS hW dL_isSettled_13 (Nat.le_of_ble_eq_true rfl) (Nat.le_of_ble_eq_true rfl) (⟨by have z := stl_01 (u := due V ag nP (ix x)) (f := pd (ix x)) rN; rw [← hp.1.2] at z; rw [hp.1.1, hv_0, ← hp.1.2, z.resolve_left c_5], hp.2⟩)
set_option maxHeartbeats 4000000 in
set_option maxRecDepth 100000 in
theorem lq_keptShare {l : Launch} (hlf : l.stackTraces = false) {D : va_G} {tys : List (ClassId × FieldType)} {ad : Nat → Nat} (hI : aI ad 109) {cI cZ cH cP cT : ClassId} {V T : Nat → Nat → Int32} {ag : Nat → Int32} {nP nH rN : Nat} {nf pn : Int32} {sp sk : Int64} {py pd : Nat → Nat → Int32} (hty : TY tys cI cZ cH cP cT) {E : Nat → va_E} (hC : CW cI cZ cH cP cT ad V T ag nP nH rN nf pn sp sk py pd E) (sz : Nat) : Met l yL_keptShare (Cond.codeWith yL_keptShare cL_keptShare 2 (some .float) [(0, 4, 5, 113)] :: wsL_law) (rmk 7 8 48) (va_Pc [.ref (ad 0)] (PN D tys ad 109 E sz)) (Qf D ad 109 (fun r E1 => r = hv (kShare sk sp) 3264479232 3264479232 3264479232 (FP.fdiv (FP.l2f sk) (FP.l2f (sk + sp))) ∧ CW cI cZ cH cP cT ad V T ag nP nH rN nf pn sp sk py pd E1) (cA ad 109 sz)) 8 48 (cA ad 109 sz) := by
  obtain ⟨so, en, rA, rC, rI, aA, aC, aH, aT, aP, rfl, hInv⟩ := hC
  obtain ⟨hti, htz, hth, htp, htt⟩ := hty
  refine ch_of (own := RL) (Qc := Qf D ad 109 (fun r E1 => r = hv (kShare sk sp) 3264479232 3264479232 3264479232 (FP.fdiv (FP.l2f sk) (FP.l2f (sk + sp))) ∧ CW cI cZ cH cP cT ad V T ag nP nH rN nf pn sp sk py pd E1)) rfl (by decide +kernel) (Nat.le_of_ble_eq_true rfl) ?_ sz
  intro p e s m args below meth c ls Q B hT hX hN hW hr hlk htab hl hS hA hQ
  have hx := B.1
  have hb := B.2.1
  have hl : lv_has ls 2 [(0, .ref (ad 0))] := hl
  refine lv_aload_n hx hb dL_keptShare_0 rfl (lv_at hl 0 rfl) ?_
  refine y_xcf (y_xrunV (ad' := ad) (σ := fun k => k) (n9 := 109) (k := 0) B hT hX hW hS (fun k h => h) (fun _ _ => rfl) (fun _ _ => rfl) (As := []) (rest := []) (fun sz => mt_keptShare hlf hI V T ag nP nH rN nf pn sp sk py pd so en rA rC rI aA aC aH aT aP  hti htz hth htp htt hInv sz) (cwL_109 B.2.2.2.2.1 ⟨Nat.le_of_ble_eq_true rfl, Nat.le_of_ble_eq_true rfl⟩) (b_recv B hW (by decide) cE_0 rfl) rfl hl.1 (Nat.le_of_ble_eq_true rfl) dL_keptShare_1 ⟨Nat.le_of_ble_eq_true rfl, Nat.le_of_ble_eq_true rfl⟩) hI hW hS (fun k h => h) (fun _ _ => rfl) (fun E1 => E1) (fun _ _ _ => rfl) (fun E1 j hj hno => absurd rfl (hno j hj)) (fun Ex ce q9 E1 H locs hx9 hW hS hce hcv hcl => ?_) (fun r E1 H locs hp hW hS => ?_)
  · obtain ⟨hx9, hC⟩ := hx9
    obtain ⟨rfl, hk⟩ := hx9
    refine h_catch B hT hN htab (pre := []) (suf := []) (a := 0) (b := 4) (h := 5) (ct := 113) rfl (fun z hz => nomatch hz) (by decide) (by decide) (r19_in _ (List.mem_of_getElem? (i := 6) rfl)) (List.mem_of_getElem? (i := 28) rfl) hce hcv hcl ?_
    refine lv_astore_n (lv' := [(1, .ref q9), (0, .ref (ad 0))]) hx hb dL_keptShare_5 rfl hl (by decide) rfl (fun ls hl => ?_)
    refine lv_ldcf (v := 3264479232) hx hb B.2.2.2.1 (B.2.2.2.2.1 _ (r18_in _ (List.mem_of_getElem? (i := 18) rfl))) dL_keptShare_6 ?_
    exact e_f hQ B hr hlk hS hW dL_keptShare_8 (Nat.le_of_ble_eq_true rfl) (Nat.le_of_ble_eq_true rfl) (⟨by rw [hk, hv_1], hC⟩)
  · skip
    exact e_f hQ B hr hlk hS hW dL_keptShare_4 (Nat.le_of_ble_eq_true rfl) (Nat.le_of_ble_eq_true rfl) (⟨by rw [hp.1.1, hv_0, hp.1.2], hp.2⟩)
set_option maxHeartbeats 4000000 in
set_option maxRecDepth 100000 in
theorem lq_meanPayment {l : Launch} (hlf : l.stackTraces = false) {D : va_G} {tys : List (ClassId × FieldType)} {ad : Nat → Nat} (hI : aI ad 109) {cI cZ cH cP cT : ClassId} {V T : Nat → Nat → Int32} {ag : Nat → Int32} {nP nH rN : Nat} {nf pn : Int32} {sp sk : Int64} {py pd : Nat → Nat → Int32} (hty : TY tys cI cZ cH cP cT) {E : Nat → va_E} (hC : CW cI cZ cH cP cT ad V T ag nP nH rN nf pn sp sk py pd E) (sz : Nat) : Met l yL_meanPayment (Cond.codeWith yL_meanPayment cL_meanPayment 2 (some .double) [(0, 4, 5, 113)] :: wsL_law) (rmk 7 8 48) (va_Pc [.ref (ad 0)] (PN D tys ad 109 E sz)) (Qd D ad 109 (fun r E1 => r = hv (kMean pn) 13858279740860792832 13858279740860792832 13858279740860792832 (FP.ddiv (FP.l2d sp) (FP.i2d pn)) ∧ CW cI cZ cH cP cT ad V T ag nP nH rN nf pn sp sk py pd E1) (cA ad 109 sz)) 8 48 (cA ad 109 sz) := by
  obtain ⟨so, en, rA, rC, rI, aA, aC, aH, aT, aP, rfl, hInv⟩ := hC
  obtain ⟨hti, htz, hth, htp, htt⟩ := hty
  refine ch_of (own := RL) (Qc := Qd D ad 109 (fun r E1 => r = hv (kMean pn) 13858279740860792832 13858279740860792832 13858279740860792832 (FP.ddiv (FP.l2d sp) (FP.i2d pn)) ∧ CW cI cZ cH cP cT ad V T ag nP nH rN nf pn sp sk py pd E1)) rfl (by decide +kernel) (Nat.le_of_ble_eq_true rfl) ?_ sz
  intro p e s m args below meth c ls Q B hT hX hN hW hr hlk htab hl hS hA hQ
  have hx := B.1
  have hb := B.2.1
  have hl : lv_has ls 2 [(0, .ref (ad 0))] := hl
  refine lv_aload_n hx hb dL_meanPayment_0 rfl (lv_at hl 0 rfl) ?_
  refine y_xcd (y_xrunV (ad' := ad) (σ := fun k => k) (n9 := 109) (k := 0) B hT hX hW hS (fun k h => h) (fun _ _ => rfl) (fun _ _ => rfl) (As := []) (rest := []) (fun sz => mt_meanPayment hlf hI V T ag nP nH rN nf pn sp sk py pd so en rA rC rI aA aC aH aT aP  hti htz hth htp htt hInv sz) (cwL_116 B.2.2.2.2.1 ⟨Nat.le_of_ble_eq_true rfl, Nat.le_of_ble_eq_true rfl⟩) (b_recv B hW (by decide) cE_0 rfl) rfl hl.1 (Nat.le_of_ble_eq_true rfl) dL_meanPayment_1 ⟨Nat.le_of_ble_eq_true rfl, Nat.le_of_ble_eq_true rfl⟩) hI hW hS (fun k h => h) (fun _ _ => rfl) (fun E1 => E1) (fun _ _ _ => rfl) (fun E1 j hj hno => absurd rfl (hno j hj)) (fun Ex ce q9 E1 H locs hx9 hW hS hce hcv hcl => ?_) (fun r E1 H locs hp hW hS => ?_)
  · obtain ⟨hx9, hC⟩ := hx9
    obtain ⟨rfl, hk⟩ := hx9
    refine h_catch B hT hN htab (pre := []) (suf := []) (a := 0) (b := 4) (h := 5) (ct := 113) rfl (fun z hz => nomatch hz) (by decide) (by decide) (r19_in _ (List.mem_of_getElem? (i := 6) rfl)) (List.mem_of_getElem? (i := 28) rfl) hce hcv hcl ?_
    refine lv_astore_n (lv' := [(1, .ref q9), (0, .ref (ad 0))]) hx hb dL_meanPayment_5 rfl hl (by decide) rfl (fun ls hl => ?_)
    refine lv_ldc2d (v := 13858279740860792832) hx hb B.2.2.2.1 (B.2.2.2.2.1 _ (r18_in _ (List.mem_of_getElem? (i := 19) rfl))) dL_meanPayment_6 ?_
    exact e_d hQ B hr hlk hS hW dL_meanPayment_9 (Nat.le_of_ble_eq_true rfl) (Nat.le_of_ble_eq_true rfl) (⟨by rw [hk, hv_1], hC⟩)
  · skip
    exact e_d hQ B hr hlk hS hW dL_meanPayment_4 (Nat.le_of_ble_eq_true rfl) (Nat.le_of_ble_eq_true rfl) (⟨by rw [hp.1.1, hv_0, hp.1.2], hp.2⟩)
