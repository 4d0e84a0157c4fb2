theorem CW.inv {cI cZ cH cP cT : ClassId} {V T : Nat → Nat → Int32} {ag : Nat → Int32} {nP nH rN : Nat} {nf pn : Int32} {sp sk : Int64} {py pd : Nat → Nat → Int32} {ad : Nat → Nat} {E : Nat → va_E} (hC : CW cI cZ cH cP cT ad V T ag nP nH rN nf pn sp sk py pd E) : ∃ so, Inv V T ag nP nH rN so pd := by
  obtain ⟨so, en, rA, rC, rI, aA, aC, aH, aT, aP, rfl, hInv⟩ := hC
  exact ⟨so, hInv⟩
theorem CW.bds {cI cZ cH cP cT : ClassId} {V T : Nat → Nat → Int32} {ag : Nat → Int32} {nP nH rN : Nat} {nf pn : Int32} {sp sk : Int64} {py pd : Nat → Nat → Int32} {ad : Nat → Nat} {E : Nat → va_E} (hC : CW cI cZ cH cP cT ad V T ag nP nH rN nf pn sp sk py pd E) : nP ≤ 8 ∧ nH ≤ 4 ∧ rN ≤ 12 := by
  obtain ⟨so, h⟩ := hC.inv
  exact h.1
theorem kMon_0 {nH h m : Nat} (hn : nH ≤ 4) (hh : h < nH) (hm : m < 12) : kMon nH (nI h) (nI m) = 0 := by
  unfold kMon
  exact cif_t ⟨vp_in_nI hh (by omega), vp_in_nI hm (by omega)⟩
theorem kHou_0 {nH h : Nat} (hn : nH ≤ 4) (hh : h < nH) : kHou nH (nI h) = 0 := by
  unfold kHou
  exact cif_t (vp_in_nI hh (by omega))
theorem kAsk_0 {n h d : Nat} (hn : n ≤ 8) (hh : h < n) (hd : d < 360) : kAsk n (nI h) (nI d) = 0 := by
  unfold kAsk
  rw [cif_t (vp_in_nI hh (by omega)), cif_t (vp_in_nI hd (by omega))]
theorem in_lt {j n : Nat} (hj : j < 2 ^ 31) (h : vp_in (nI j) n) : j < n := by
  have := vp_in_iff.mp h
  rw [nI_toInt hj] at this
  omega
theorem kAsk_1 {n h : Nat} {d : Int32} (hb : h < 2 ^ 31) (hh : ¬ h < n) : kAsk n (nI h) d = 1 := by
  unfold kAsk
  exact cif_f (fun q => hh (in_lt hb q))
theorem kPaym_0 {nH rN h m : Nat} (hn : nH ≤ 4) (hh : h < nH) (hm : m < 12) (hr : m < rN) (h12 : rN ≤ 12) : kPaym nH rN (nI h) (nI m) = 0 := by
  unfold kPaym
  rw [cif_t ⟨vp_in_nI hh (by omega), vp_in_nI hm (by omega)⟩, cif_t (vp_in_nI hr (by omega))]
theorem kPaym_2 {nH rN h m : Nat} (hn : nH ≤ 4) (hh : h < nH) (hm : m < 12) (hr : ¬ m < rN) : kPaym nH rN (nI h) (nI m) = 2 := by
  unfold kPaym
  rw [cif_t ⟨vp_in_nI hh (by omega), vp_in_nI hm (by omega)⟩, cif_f (fun q => hr (in_lt (by omega) q))]
theorem kRat_0 {c : Int32} {d : Nat} (hc : rIx c < 7) (hd : d < 360) : kRat c (nI d) = 0 := by
  unfold kRat
  rw [cif_t hc, cif_t (vp_in_nI hd (by omega))]
theorem kNxt_v {V : Nat → Nat → Int32} {ag : Nat → Int32} {nP nH h d : Nat} (hn : nH ≤ 4) (hh : h < nH) (hd : d < 360) : kNxt V ag nP nH (nI h) (nI d) = cif (nxD V ag nP h d < 360) 0 3 := by
  unfold kNxt
  rw [cif_t (vp_in_nI hh (by omega)), cif_t (vp_in_nI hd (by omega)), ix_n (by omega), ix_n (by omega)]
section TOPL
variable {p : Program} {l : Launch} {e : Env} {R : Room} {s : State} {m : MethodId} {args : Array Value} {below : List Frame} {meth : Method} {c : Code} {H : Heap} {locs : List Loc} {cells slots : Nat} {Q : State → Prop} {pc : Nat} {ls : Array Slot} {rest : List Value}
theorem b_ltop {x y : Int64} (h : x = y) (kk : W p l e R s m args below meth c H locs cells slots Q (F0 m pc ls (.long y :: rest))) : W p l e R s m args below meth c H locs cells slots Q (F0 m pc ls (.long x :: rest)) := h ▸ kk
theorem b_ftop {x y : UInt32} (h : x = y) (kk : W p l e R s m args below meth c H locs cells slots Q (F0 m pc ls (.float y :: rest))) : W p l e R s m args below meth c H locs cells slots Q (F0 m pc ls (.float x :: rest)) := h ▸ kk
theorem b_dtop {x y : UInt64} (h : x = y) (kk : W p l e R s m args below meth c H locs cells slots Q (F0 m pc ls (.double y :: rest))) : W p l e R s m args below meth c H locs cells slots Q (F0 m pc ls (.double x :: rest)) := h ▸ kk
end TOPL
theorem lv_entitlement {l : Launch} (hlf : l.stackTraces = false) {D : va_G} {tys : List (ClassId × FieldType)} {ad : Nat → Nat} (hI : aI ad 109) {cI cZ cH cP cT : ClassId} {V T : Nat → Nat → Int32} {ag : Nat → Int32} {nP nH rN : Nat} {nf pn : Int32} {sp sk : Int64} {py pd : Nat → Nat → Int32} (hty : TY tys cI cZ cH cP cT) (h m : Nat) (hh : h < nH) (hm : m < 12) {E : Nat → va_E} (hC : CW cI cZ cH cP cT ad V T ag nP nH rN nf pn sp sk py pd E) (sz : Nat) : Met l yL_entitlement (Cond.codeWith yL_entitlement cL_entitlement 4 (some .int) [(0, 6, 7, 32)] :: wsL_law) (rmk 7 8 48) (va_Pc [.ref (ad 0), .int (nI h), .int (nI m)] (PN D tys ad 109 E sz)) (Qi D ad 109 (fun r E1 => r = (due V ag nP h m) ∧ CW cI cZ cH cP cT ad V T ag nP nH rN nf pn sp sk py pd E1) (cA ad 109 sz)) 8 48 (cA ad 109 sz) := by
  obtain ⟨hP8, hH4, hR12⟩ := hC.bds
  have z := lq_entitlement (D := D) hlf hI hty (nI h) (nI m) hC sz
  rw [show hv (kMon nH (nI h) (nI m)) (-77) 0 0 (due V ag nP (ix (nI h)) (ix (nI m))) = (due V ag nP h m) from by rw [kMon_0 hH4 hh hm, hv_0, ix_n (by omega), ix_n (by omega)]] at z
  exact z
theorem lv_entitlementByDays {l : Launch} (hlf : l.stackTraces = false) {D : va_G} {tys : List (ClassId × FieldType)} {ad : Nat → Nat} (hI : aI ad 109) {cI cZ cH cP cT : ClassId} {V T : Nat → Nat → Int32} {ag : Nat → Int32} {nP nH rN : Nat} {nf pn : Int32} {sp sk : Int64} {py pd : Nat → Nat → Int32} (hty : TY tys cI cZ cH cP cT) (h m : Nat) (hh : h < nH) (hm : m < 12) {E : Nat → va_E} (hC : CW cI cZ cH cP cT ad V T ag nP nH rN nf pn sp sk py pd E) (sz : Nat) : Met l yL_entitlementByDays (Cond.codeWith yL_entitlementByDays cL_entitlementByDays 4 (some .int) [(0, 6, 7, 32)] :: wsL_law) (rmk 7 8 48) (va_Pc [.ref (ad 0), .int (nI h), .int (nI m)] (PN D tys ad 109 E sz)) (Qi D ad 109 (fun r E1 => r = (due V ag nP h m) ∧ CW cI cZ cH cP cT ad V T ag nP nH rN nf pn sp sk py pd E1) (cA ad 109 sz)) 8 48 (cA ad 109 sz) := by
  obtain ⟨hP8, hH4, hR12⟩ := hC.bds
  have z := lq_entitlementByDays (D := D) hlf hI hty (nI h) (nI m) hC sz
  rw [show hv (kMon nH (nI h) (nI m)) (-77) 0 0 (due V ag nP (ix (nI h)) (ix (nI m))) = (due V ag nP h m) from by rw [kMon_0 hH4 hh hm, hv_0, ix_n (by omega), ix_n (by omega)]] at z
  exact z
theorem lv_paidFor {l : Launch} (hlf : l.stackTraces = false) {D : va_G} {tys : List (ClassId × FieldType)} {ad : Nat → Nat} (hI : aI ad 109) {cI cZ cH cP cT : ClassId} {V T : Nat → Nat → Int32} {ag : Nat → Int32} {nP nH rN : Nat} {nf pn : Int32} {sp sk : Int64} {py pd : Nat → Nat → Int32} (hty : TY tys cI cZ cH cP cT) (h m : Nat) (hh : h < nH) (hm : m < 12) {E : Nat → va_E} (hC : CW cI cZ cH cP cT ad V T ag nP nH rN nf pn sp sk py pd E) (sz : Nat) : Met l yL_paidFor (Cond.codeWith yL_paidFor cL_paidFor 4 (some .int) [(0, 6, 7, 32)] :: wsL_law) (rmk 7 8 48) (va_Pc [.ref (ad 0), .int (nI h), .int (nI m)] (PN D tys ad 109 E sz)) (Qi D ad 109 (fun r E1 => r = (pd h m) ∧ CW cI cZ cH cP cT ad V T ag nP nH rN nf pn sp sk py pd E1) (cA ad 109 sz)) 8 48 (cA ad 109 sz) := by
  obtain ⟨hP8, hH4, hR12⟩ := hC.bds
  have z := lq_paidFor (D := D) hlf hI hty (nI h) (nI m) hC sz
  rw [show hv (kMon nH (nI h) (nI m)) (-77) 0 0 (pd (ix (nI h)) (ix (nI m))) = (pd h m) from by rw [kMon_0 hH4 hh hm, hv_0, ix_n (by omega), ix_n (by omega)]] at z
  exact z
theorem lv_paymentT {l : Launch} (hlf : l.stackTraces = false) {D : va_G} {tys : List (ClassId × FieldType)} {ad : Nat → Nat} (hI : aI ad 109) {cI cZ cH cP cT : ClassId} {V T : Nat → Nat → Int32} {ag : Nat → Int32} {nP nH rN : Nat} {nf pn : Int32} {sp sk : Int64} {py pd : Nat → Nat → Int32} (hty : TY tys cI cZ cH cP cT) (h m : Nat) (hh : h < nH) (hm : m < 12) (hr : m < rN) {E : Nat → va_E} (hC : CW cI cZ cH cP cT ad V T ag nP nH rN nf pn sp sk py pd E) (sz : Nat) : Met l yL_payment (Cond.codeWith yL_payment cL_payment 4 (some .int) [(0, 6, 7, 32), (0, 6, 11, 44)] :: wsL_law) (rmk 7 8 48) (va_Pc [.ref (ad 0), .int (nI h), .int (nI m)] (PN D tys ad 109 E sz)) (Qi D ad 109 (fun r E1 => r = (py h m) ∧ CW cI cZ cH cP cT ad V T ag nP nH rN nf pn sp sk py pd E1) (cA ad 109 sz)) 8 48 (cA ad 109 sz) := by
  obtain ⟨hP8, hH4, hR12⟩ := hC.bds
  have z := lq_payment (D := D) hlf hI hty (nI h) (nI m) hC sz
  rw [show hv (kPaym nH rN (nI h) (nI m)) (-77) (-75) 0 (py (ix (nI h)) (ix (nI m))) = (py h m) from by rw [kPaym_0 hH4 hh hm hr hR12, hv_0, ix_n (by omega), ix_n (by omega)]] at z
  exact z
theorem lv_paymentF {l : Launch} (hlf : l.stackTraces = false) {D : va_G} {tys : List (ClassId × FieldType)} {ad : Nat → Nat} (hI : aI ad 109) {cI cZ cH cP cT : ClassId} {V T : Nat → Nat → Int32} {ag : Nat → Int32} {nP nH rN : Nat} {nf pn : Int32} {sp sk : Int64} {py pd : Nat → Nat → Int32} (hty : TY tys cI cZ cH cP cT) (h m : Nat) (hh : h < nH) (hm : m < 12) (hr : ¬ m < rN) {E : Nat → va_E} (hC : CW cI cZ cH cP cT ad V T ag nP nH rN nf pn sp sk py pd E) (sz : Nat) : Met l yL_payment (Cond.codeWith yL_payment cL_payment 4 (some .int) [(0, 6, 7, 32), (0, 6, 11, 44)] :: wsL_law) (rmk 7 8 48) (va_Pc [.ref (ad 0), .int (nI h), .int (nI m)] (PN D tys ad 109 E sz)) (Qi D ad 109 (fun r E1 => r = (-75) ∧ CW cI cZ cH cP cT ad V T ag nP nH rN nf pn sp sk py pd E1) (cA ad 109 sz)) 8 48 (cA ad 109 sz) := by
  obtain ⟨hP8, hH4, hR12⟩ := hC.bds
  have z := lq_payment (D := D) hlf hI hty (nI h) (nI m) hC sz
  rw [show hv (kPaym nH rN (nI h) (nI m)) (-77) (-75) 0 (py (ix (nI h)) (ix (nI m))) = (-75) from by rw [kPaym_2 hH4 hh hm hr, hv_2]] at z
  exact z
theorem lv_balance {l : Launch} (hlf : l.stackTraces = false) {D : va_G} {tys : List (ClassId × FieldType)} {ad : Nat → Nat} (hI : aI ad 109) {cI cZ cH cP cT : ClassId} {V T : Nat → Nat → Int32} {ag : Nat → Int32} {nP nH rN : Nat} {nf pn : Int32} {sp sk : Int64} {py pd : Nat → Nat → Int32} (hty : TY tys cI cZ cH cP cT) (h : Nat) (hh : h < nH) {E : Nat → va_E} (hC : CW cI cZ cH cP cT ad V T ag nP nH rN nf pn sp sk py pd E) (sz : Nat) : Met l yL_balance (Cond.codeWith yL_balance cL_balance 3 (some .int) [(0, 5, 6, 32)] :: wsL_law) (rmk 7 8 48) (va_Pc [.ref (ad 0), .int (nI h)] (PN D tys ad 109 E sz)) (Qi D ad 109 (fun r E1 => r = (bal (due V ag nP h) (pd h) rN) ∧ CW cI cZ cH cP cT ad V T ag nP nH rN nf pn sp sk py pd E1) (cA ad 109 sz)) 8 48 (cA ad 109 sz) := by
  obtain ⟨hP8, hH4, hR12⟩ := hC.bds
  have z := lq_balance (D := D) hlf hI hty (nI h) hC sz
  rw [show hv (kHou nH (nI h)) (-77) 0 0 (bal (due V ag nP (ix (nI h))) (pd (ix (nI h))) rN) = (bal (due V ag nP h) (pd h) rN) from by rw [kHou_0 hH4 hh, hv_0, ix_n (by omega)]] at z
  exact z
theorem lv_isSettled {l : Launch} (hlf : l.stackTraces = false) {D : va_G} {tys : List (ClassId × FieldType)} {ad : Nat → Nat} (hI : aI ad 109) {cI cZ cH cP cT : ClassId} {V T : Nat → Nat → Int32} {ag : Nat → Int32} {nP nH rN : Nat} {nf pn : Int32} {sp sk : Int64} {py pd : Nat → Nat → Int32} (hty : TY tys cI cZ cH cP cT) (h : Nat) (hh : h < nH) {E : Nat → va_E} (hC : CW cI cZ cH cP cT ad V T ag nP nH rN nf pn sp sk py pd E) (sz : Nat) : Met l yL_isSettled (Cond.codeWith yL_isSettled cL_isSettled 3 (some .int) [(0, 13, 14, 32)] :: wsL_law) (rmk 7 8 48) (va_Pc [.ref (ad 0), .int (nI h)] (PN D tys ad 109 E sz)) (Qi D ad 109 (fun r E1 => r = (stl (due V ag nP h) (pd h) rN) ∧ CW cI cZ cH cP cT ad V T ag nP nH rN nf pn sp sk py pd E1) (cA ad 109 sz)) 8 48 (cA ad 109 sz) := by
  obtain ⟨hP8, hH4, hR12⟩ := hC.bds
  have z := lq_isSettled (D := D) hlf hI hty (nI h) hC sz
  rw [show hv (kHou nH (nI h)) (-77) 0 0 (stl (due V ag nP (ix (nI h))) (pd (ix (nI h))) rN) = (stl (due V ag nP h) (pd h) rN) from by rw [kHou_0 hH4 hh, hv_0, ix_n (by omega)]] at z
  exact z
theorem lv_homeOf {l : Launch} (hlf : l.stackTraces = false) {D : va_G} {tys : List (ClassId × FieldType)} {ad : Nat → Nat} (hI : aI ad 109) {cI cZ cH cP cT : ClassId} {V T : Nat → Nat → Int32} {ag : Nat → Int32} {nP nH rN : Nat} {nf pn : Int32} {sp sk : Int64} {py pd : Nat → Nat → Int32} (hty : TY tys cI cZ cH cP cT) (q d : Nat) (hq : q < 8) (hd : d < 360) {E : Nat → va_E} (hC : CW cI cZ cH cP cT ad V T ag nP nH rN nf pn sp sk py pd E) (sz : Nat) : Met l yL_homeOf (Cond.codeWith yL_homeOf cL_homeOf 4 (some .int) [(0, 6, 7, 32), (0, 6, 11, 20)] :: wsL_law) (rmk 7 8 48) (va_Pc [.ref (ad 0), .int (nI q), .int (nI d)] (PN D tys ad 109 E sz)) (Qi D ad 109 (fun r E1 => r = (if q < nP then V q d else -77) ∧ CW cI cZ cH cP cT ad V T ag nP nH rN nf pn sp sk py pd E1) (cA ad 109 sz)) 8 48 (cA ad 109 sz) := by
  obtain ⟨hP8, hH4, hR12⟩ := hC.bds
  have z := lq_homeOf (D := D) hlf hI hty (nI q) (nI d) hC sz
  rw [show hv (kAsk nP (nI q) (nI d)) (-77) (-78) 0 (V (ix (nI q)) (ix (nI d))) = (if q < nP then V q d else -77) from by by_cases hc : q < nP <;> first | (rw [kAsk_0 hP8 hc hd, hv_0, ix_n (by omega), ix_n (by omega), if_pos hc]; done) | rw [kAsk_1 (by omega) hc, hv_1, if_neg hc]] at z
  exact z
theorem lv_adults {l : Launch} (hlf : l.stackTraces = false) {D : va_G} {tys : List (ClassId × FieldType)} {ad : Nat → Nat} (hI : aI ad 109) {cI cZ cH cP cT : ClassId} {V T : Nat → Nat → Int32} {ag : Nat → Int32} {nP nH rN : Nat} {nf pn : Int32} {sp sk : Int64} {py pd : Nat → Nat → Int32} (hty : TY tys cI cZ cH cP cT) (h d : Nat) (hh : h < nH) (hd : d < 360) {E : Nat → va_E} (hC : CW cI cZ cH cP cT ad V T ag nP nH rN nf pn sp sk py pd E) (sz : Nat) : Met l yL_adults (Cond.codeWith yL_adults cL_adults 4 (some .int) [(0, 6, 7, 32), (0, 6, 11, 20)] :: wsL_law) (rmk 7 8 48) (va_Pc [.ref (ad 0), .int (nI h), .int (nI d)] (PN D tys ad 109 E sz)) (Qi D ad 109 (fun r E1 => r = ((cnt V ag (nI h) d nP).1) ∧ CW cI cZ cH cP cT ad V T ag nP nH rN nf pn sp sk py pd E1) (cA ad 109 sz)) 8 48 (cA ad 109 sz) := by
  obtain ⟨hP8, hH4, hR12⟩ := hC.bds
  have z := lq_adults (D := D) hlf hI hty (nI h) (nI d) hC sz
  rw [show hv (kAsk nH (nI h) (nI d)) (-77) (-78) 0 ((cnt V ag (nI (ix (nI h))) (ix (nI d)) nP).1) = ((cnt V ag (nI h) d nP).1) from by rw [kAsk_0 (by omega) hh hd, hv_0, ix_n (by omega), ix_n (by omega)]] at z
  exact z
theorem lv_children {l : Launch} (hlf : l.stackTraces = false) {D : va_G} {tys : List (ClassId × FieldType)} {ad : Nat → Nat} (hI : aI ad 109) {cI cZ cH cP cT : ClassId} {V T : Nat → Nat → Int32} {ag : Nat → Int32} {nP nH rN : Nat} {nf pn : Int32} {sp sk : Int64} {py pd : Nat → Nat → Int32} (hty : TY tys cI cZ cH cP cT) (h d : Nat) (hh : h < nH) (hd : d < 360) {E : Nat → va_E} (hC : CW cI cZ cH cP cT ad V T ag nP nH rN nf pn sp sk py pd E) (sz : Nat) : Met l yL_children (Cond.codeWith yL_children cL_children 4 (some .int) [(0, 6, 7, 32), (0, 6, 11, 20)] :: wsL_law) (rmk 7 8 48) (va_Pc [.ref (ad 0), .int (nI h), .int (nI d)] (PN D tys ad 109 E sz)) (Qi D ad 109 (fun r E1 => r = ((cnt V ag (nI h) d nP).2.1) ∧ CW cI cZ cH cP cT ad V T ag nP nH rN nf pn sp sk py pd E1) (cA ad 109 sz)) 8 48 (cA ad 109 sz) := by
  obtain ⟨hP8, hH4, hR12⟩ := hC.bds
  have z := lq_children (D := D) hlf hI hty (nI h) (nI d) hC sz
  rw [show hv (kAsk nH (nI h) (nI d)) (-77) (-78) 0 ((cnt V ag (nI (ix (nI h))) (ix (nI d)) nP).2.1) = ((cnt V ag (nI h) d nP).2.1) from by rw [kAsk_0 (by omega) hh hd, hv_0, ix_n (by omega), ix_n (by omega)]] at z
  exact z
theorem lv_adultAmount {l : Launch} (hlf : l.stackTraces = false) {D : va_G} {tys : List (ClassId × FieldType)} {ad : Nat → Nat} (hI : aI ad 109) {cI cZ cH cP cT : ClassId} {V T : Nat → Nat → Int32} {ag : Nat → Int32} {nP nH rN : Nat} {nf pn : Int32} {sp sk : Int64} {py pd : Nat → Nat → Int32} (hty : TY tys cI cZ cH cP cT) (h d : Nat) (hh : h < nH) (hd : d < 360) {E : Nat → va_E} (hC : CW cI cZ cH cP cT ad V T ag nP nH rN nf pn sp sk py pd E) (sz : Nat) : Met l yL_adultAmount (Cond.codeWith yL_adultAmount cL_adultAmount 4 (some .int) [(0, 6, 7, 32), (0, 6, 11, 20)] :: wsL_law) (rmk 7 8 48) (va_Pc [.ref (ad 0), .int (nI h), .int (nI d)] (PN D tys ad 109 E sz)) (Qi D ad 109 (fun r E1 => r = ((amt V ag nP h d).1) ∧ CW cI cZ cH cP cT ad V T ag nP nH rN nf pn sp sk py pd E1) (cA ad 109 sz)) 8 48 (cA ad 109 sz) := by
  obtain ⟨hP8, hH4, hR12⟩ := hC.bds
  have z := lq_adultAmount (D := D) hlf hI hty (nI h) (nI d) hC sz
  rw [show hv (kAsk nH (nI h) (nI d)) (-77) (-78) 0 ((amt V ag nP (ix (nI h)) (ix (nI d))).1) = ((amt V ag nP h d).1) from by rw [kAsk_0 (by omega) hh hd, hv_0, ix_n (by omega), ix_n (by omega)]] at z
  exact z
theorem lv_childAmount {l : Launch} (hlf : l.stackTraces = false) {D : va_G} {tys : List (ClassId × FieldType)} {ad : Nat → Nat} (hI : aI ad 109) {cI cZ cH cP cT : ClassId} {V T : Nat → Nat → Int32} {ag : Nat → Int32} {nP nH rN : Nat} {nf pn : Int32} {sp sk : Int64} {py pd : Nat → Nat → Int32} (hty : TY tys cI cZ cH cP cT) (h d : Nat) (hh : h < nH) (hd : d < 360) {E : Nat → va_E} (hC : CW cI cZ cH cP cT ad V T ag nP nH rN nf pn sp sk py pd E) (sz : Nat) : Met l yL_childAmount (Cond.codeWith yL_childAmount cL_childAmount 4 (some .int) [(0, 6, 7, 32), (0, 6, 11, 20)] :: wsL_law) (rmk 7 8 48) (va_Pc [.ref (ad 0), .int (nI h), .int (nI d)] (PN D tys ad 109 E sz)) (Qi D ad 109 (fun r E1 => r = ((amt V ag nP h d).2.1) ∧ CW cI cZ cH cP cT ad V T ag nP nH rN nf pn sp sk py pd E1) (cA ad 109 sz)) 8 48 (cA ad 109 sz) := by
  obtain ⟨hP8, hH4, hR12⟩ := hC.bds
  have z := lq_childAmount (D := D) hlf hI hty (nI h) (nI d) hC sz
  rw [show hv (kAsk nH (nI h) (nI d)) (-77) (-78) 0 ((amt V ag nP (ix (nI h)) (ix (nI d))).2.1) = ((amt V ag nP h d).2.1) from by rw [kAsk_0 (by omega) hh hd, hv_0, ix_n (by omega), ix_n (by omega)]] at z
  exact z
theorem lv_housingAmount {l : Launch} (hlf : l.stackTraces = false) {D : va_G} {tys : List (ClassId × FieldType)} {ad : Nat → Nat} (hI : aI ad 109) {cI cZ cH cP cT : ClassId} {V T : Nat → Nat → Int32} {ag : Nat → Int32} {nP nH rN : Nat} {nf pn : Int32} {sp sk : Int64} {py pd : Nat → Nat → Int32} (hty : TY tys cI cZ cH cP cT) (h d : Nat) (hh : h < nH) (hd : d < 360) {E : Nat → va_E} (hC : CW cI cZ cH cP cT ad V T ag nP nH rN nf pn sp sk py pd E) (sz : Nat) : Met l yL_housingAmount (Cond.codeWith yL_housingAmount cL_housingAmount 4 (some .int) [(0, 6, 7, 32), (0, 6, 11, 20)] :: wsL_law) (rmk 7 8 48) (va_Pc [.ref (ad 0), .int (nI h), .int (nI d)] (PN D tys ad 109 E sz)) (Qi D ad 109 (fun r E1 => r = ((amt V ag nP h d).2.2.1) ∧ CW cI cZ cH cP cT ad V T ag nP nH rN nf pn sp sk py pd E1) (cA ad 109 sz)) 8 48 (cA ad 109 sz) := by
  obtain ⟨hP8, hH4, hR12⟩ := hC.bds
  have z := lq_housingAmount (D := D) hlf hI hty (nI h) (nI d) hC sz
  rw [show hv (kAsk nH (nI h) (nI d)) (-77) (-78) 0 ((amt V ag nP (ix (nI h)) (ix (nI d))).2.2.1) = ((amt V ag nP h d).2.2.1) from by rw [kAsk_0 (by omega) hh hd, hv_0, ix_n (by omega), ix_n (by omega)]] at z
  exact z
theorem lv_reason {l : Launch} (hlf : l.stackTraces = false) {D : va_G} {tys : List (ClassId × FieldType)} {ad : Nat → Nat} (hI : aI ad 109) {cI cZ cH cP cT : ClassId} {V T : Nat → Nat → Int32} {ag : Nat → Int32} {nP nH rN : Nat} {nf pn : Int32} {sp sk : Int64} {py pd : Nat → Nat → Int32} (hty : TY tys cI cZ cH cP cT) (h d : Nat) (hh : h < nH) (hd : d < 360) {E : Nat → va_E} (hC : CW cI cZ cH cP cT ad V T ag nP nH rN nf pn sp sk py pd E) (sz : Nat) : Met l yL_reason (Cond.codeWith yL_reason cL_reason 4 (some .int) [(0, 6, 7, 32), (0, 6, 11, 20)] :: wsL_law) (rmk 7 8 48) (va_Pc [.ref (ad 0), .int (nI h), .int (nI d)] (PN D tys ad 109 E sz)) (Qi D ad 109 (fun r E1 => r = (rsn (cnt V ag (nI h) d nP).1 (amt V ag nP h d).2.2.2.1 (amt V ag nP h d).2.2.2.2) ∧ CW cI cZ cH cP cT ad V T ag nP nH rN nf pn sp sk py pd E1) (cA ad 109 sz)) 8 48 (cA ad 109 sz) := by
  obtain ⟨hP8, hH4, hR12⟩ := hC.bds
  have z := lq_reason (D := D) hlf hI hty (nI h) (nI d) hC sz
  rw [show hv (kAsk nH (nI h) (nI d)) (-77) (-78) 0 (rsn (cnt V ag (nI (ix (nI h))) (ix (nI d)) nP).1 (amt V ag nP (ix (nI h)) (ix (nI d))).2.2.2.1 (amt V ag nP (ix (nI h)) (ix (nI d))).2.2.2.2) = (rsn (cnt V ag (nI h) d nP).1 (amt V ag nP h d).2.2.2.1 (amt V ag nP h d).2.2.2.2) from by rw [kAsk_0 (by omega) hh hd, hv_0, ix_n (by omega), ix_n (by omega)]] at z
  exact z
theorem lv_ruleAt109 {l : Launch} (hlf : l.stackTraces = false) {D : va_G} {tys : List (ClassId × FieldType)} {ad : Nat → Nat} (hI : aI ad 109) {cI cZ cH cP cT : ClassId} {V T : Nat → Nat → Int32} {ag : Nat → Int32} {nP nH rN : Nat} {nf pn : Int32} {sp sk : Int64} {py pd : Nat → Nat → Int32} (hty : TY tys cI cZ cH cP cT) (d : Nat) (hd : d < 360) {E : Nat → va_E} (hC : CW cI cZ cH cP cT ad V T ag nP nH rN nf pn sp sk py pd E) (sz : Nat) : Met l yL_ruleAt (Cond.codeWith yL_ruleAt cL_ruleAt 4 (some .int) [(0, 6, 7, 44), (0, 6, 11, 20)] :: wsL_law) (rmk 7 8 48) (va_Pc [.ref (ad 0), .int 109, .int (nI d)] (PN D tys ad 109 E sz)) (Qi D ad 109 (fun r E1 => r = (V 26 d) ∧ CW cI cZ cH cP cT ad V T ag nP nH rN nf pn sp sk py pd E1) (cA ad 109 sz)) 8 48 (cA ad 109 sz) := by
  obtain ⟨hP8, hH4, hR12⟩ := hC.bds
  have z := lq_ruleAt (D := D) hlf hI hty 109 (nI d) hC sz
  rw [show hv (kRat 109 (nI d)) (-75) (-78) 0 (V (20 + rIx 109) (ix (nI d))) = (V 26 d) from by rw [kRat_0 (by decide) hd, hv_0, show rIx 109 = 6 by decide, ix_n (by omega)]] at z
  exact z
theorem lv_ruleAt114 {l : Launch} (hlf : l.stackTraces = false) {D : va_G} {tys : List (ClassId × FieldType)} {ad : Nat → Nat} (hI : aI ad 109) {cI cZ cH cP cT : ClassId} {V T : Nat → Nat → Int32} {ag : Nat → Int32} {nP nH rN : Nat} {nf pn : Int32} {sp sk : Int64} {py pd : Nat → Nat → Int32} (hty : TY tys cI cZ cH cP cT) (d : Nat) (hd : d < 360) {E : Nat → va_E} (hC : CW cI cZ cH cP cT ad V T ag nP nH rN nf pn sp sk py pd E) (sz : Nat) : Met l yL_ruleAt (Cond.codeWith yL_ruleAt cL_ruleAt 4 (some .int) [(0, 6, 7, 44), (0, 6, 11, 20)] :: wsL_law) (rmk 7 8 48) (va_Pc [.ref (ad 0), .int 114, .int (nI d)] (PN D tys ad 109 E sz)) (Qi D ad 109 (fun r E1 => r = (V 23 d) ∧ CW cI cZ cH cP cT ad V T ag nP nH rN nf pn sp sk py pd E1) (cA ad 109 sz)) 8 48 (cA ad 109 sz) := by
  obtain ⟨hP8, hH4, hR12⟩ := hC.bds
  have z := lq_ruleAt (D := D) hlf hI hty 114 (nI d) hC sz
  rw [show hv (kRat 114 (nI d)) (-75) (-78) 0 (V (20 + rIx 114) (ix (nI d))) = (V 23 d) from by rw [kRat_0 (by decide) hd, hv_0, show rIx 114 = 3 by decide, ix_n (by omega)]] at z
  exact z
theorem lv_ruleAt97 {l : Launch} (hlf : l.stackTraces = false) {D : va_G} {tys : List (ClassId × FieldType)} {ad : Nat → Nat} (hI : aI ad 109) {cI cZ cH cP cT : ClassId} {V T : Nat → Nat → Int32} {ag : Nat → Int32} {nP nH rN : Nat} {nf pn : Int32} {sp sk : Int64} {py pd : Nat → Nat → Int32} (hty : TY tys cI cZ cH cP cT) (d : Nat) (hd : d < 360) {E : Nat → va_E} (hC : CW cI cZ cH cP cT ad V T ag nP nH rN nf pn sp sk py pd E) (sz : Nat) : Met l yL_ruleAt (Cond.codeWith yL_ruleAt cL_ruleAt 4 (some .int) [(0, 6, 7, 44), (0, 6, 11, 20)] :: wsL_law) (rmk 7 8 48) (va_Pc [.ref (ad 0), .int 97, .int (nI d)] (PN D tys ad 109 E sz)) (Qi D ad 109 (fun r E1 => r = (V 20 d) ∧ CW cI cZ cH cP cT ad V T ag nP nH rN nf pn sp sk py pd E1) (cA ad 109 sz)) 8 48 (cA ad 109 sz) := by
  obtain ⟨hP8, hH4, hR12⟩ := hC.bds
  have z := lq_ruleAt (D := D) hlf hI hty 97 (nI d) hC sz
  rw [show hv (kRat 97 (nI d)) (-75) (-78) 0 (V (20 + rIx 97) (ix (nI d))) = (V 20 d) from by rw [kRat_0 (by decide) hd, hv_0, show rIx 97 = 0 by decide, ix_n (by omega)]] at z
  exact z
theorem lv_nextChange {l : Launch} (hlf : l.stackTraces = false) {D : va_G} {tys : List (ClassId × FieldType)} {ad : Nat → Nat} (hI : aI ad 109) {cI cZ cH cP cT : ClassId} {V T : Nat → Nat → Int32} {ag : Nat → Int32} {nP nH rN : Nat} {nf pn : Int32} {sp sk : Int64} {py pd : Nat → Nat → Int32} (hty : TY tys cI cZ cH cP cT) (h d : Nat) (hh : h < nH) (hd : d < 360) {E : Nat → va_E} (hC : CW cI cZ cH cP cT ad V T ag nP nH rN nf pn sp sk py pd E) (sz : Nat) : Met l yL_nextChange (Cond.codeWith yL_nextChange cL_nextChange 4 (some .int) [(0, 6, 7, 32), (0, 6, 11, 20), (0, 6, 15, 44)] :: wsL_law) (rmk 7 8 48) (va_Pc [.ref (ad 0), .int (nI h), .int (nI d)] (PN D tys ad 109 E sz)) (Qi D ad 109 (fun r E1 => r = (if nxD V ag nP h d < 360 then nI (nxD V ag nP h d) else -75) ∧ CW cI cZ cH cP cT ad V T ag nP nH rN nf pn sp sk py pd E1) (cA ad 109 sz)) 8 48 (cA ad 109 sz) := by
  obtain ⟨hP8, hH4, hR12⟩ := hC.bds
  have z := lq_nextChange (D := D) hlf hI hty (nI h) (nI d) hC sz
  rw [show hv (kNxt V ag nP nH (nI h) (nI d)) (-77) (-78) (-75) (nI (nxD V ag nP (ix (nI h)) (ix (nI d)))) = (if nxD V ag nP h d < 360 then nI (nxD V ag nP h d) else -75) from by rw [kNxt_v hH4 hh hd, ix_n (by omega), ix_n (by omega)]; by_cases hc : nxD V ag nP h d < 360 <;> first | (rw [cif_t hc, hv_0, if_pos hc]; done) | rw [cif_f hc, hv_3, if_neg hc]] at z
  exact z
theorem lv_keptShare {l : Launch} (hlf : l.stackTraces = false) {D : va_G} {tys : List (ClassId × FieldType)} {ad : Nat → Nat} (hI : aI ad 109) {cI cZ cH cP cT : ClassId} {V T : Nat → Nat → Int32} {ag : Nat → Int32} {nP nH rN : Nat} {nf pn : Int32} {sp sk : Int64} {py pd : Nat → Nat → Int32} (hty : TY tys cI cZ cH cP cT) {E : Nat → va_E} (hC : CW cI cZ cH cP cT ad V T ag nP nH rN nf pn sp sk py pd E) (sz : Nat) : Met l yL_keptShare (Cond.codeWith yL_keptShare cL_keptShare 2 (some .float) [(0, 4, 5, 113)] :: wsL_law) (rmk 7 8 48) (va_Pc [.ref (ad 0)] (PN D tys ad 109 E sz)) (Qf D ad 109 (fun r E1 => r = (if sk + sp = 0 then 3264479232 else FP.fdiv (FP.l2f sk) (FP.l2f (sk + sp))) ∧ CW cI cZ cH cP cT ad V T ag nP nH rN nf pn sp sk py pd E1) (cA ad 109 sz)) 8 48 (cA ad 109 sz) := by
  obtain ⟨hP8, hH4, hR12⟩ := hC.bds
  have z := lq_keptShare (D := D) hlf hI hty hC sz
  rw [show hv (kShare sk sp) 3264479232 3264479232 3264479232 (FP.fdiv (FP.l2f sk) (FP.l2f (sk + sp))) = (if sk + sp = 0 then 3264479232 else FP.fdiv (FP.l2f sk) (FP.l2f (sk + sp))) from by unfold kShare; by_cases hc : sk + sp = 0 <;> first | (rw [cif_t hc, hv_1, if_pos hc]; done) | rw [cif_f hc, hv_0, if_neg hc]] at z
  exact z
theorem lv_meanPayment {l : Launch} (hlf : l.stackTraces = false) {D : va_G} {tys : List (ClassId × FieldType)} {ad : Nat → Nat} (hI : aI ad 109) {cI cZ cH cP cT : ClassId} {V T : Nat → Nat → Int32} {ag : Nat → Int32} {nP nH rN : Nat} {nf pn : Int32} {sp sk : Int64} {py pd : Nat → Nat → Int32} (hty : TY tys cI cZ cH cP cT) {E : Nat → va_E} (hC : CW cI cZ cH cP cT ad V T ag nP nH rN nf pn sp sk py pd E) (sz : Nat) : Met l yL_meanPayment (Cond.codeWith yL_meanPayment cL_meanPayment 2 (some .double) [(0, 4, 5, 113)] :: wsL_law) (rmk 7 8 48) (va_Pc [.ref (ad 0)] (PN D tys ad 109 E sz)) (Qd D ad 109 (fun r E1 => r = (if pn = 0 then 13858279740860792832 else FP.ddiv (FP.l2d sp) (FP.i2d pn)) ∧ CW cI cZ cH cP cT ad V T ag nP nH rN nf pn sp sk py pd E1) (cA ad 109 sz)) 8 48 (cA ad 109 sz) := by
  obtain ⟨hP8, hH4, hR12⟩ := hC.bds
  have z := lq_meanPayment (D := D) hlf hI hty hC sz
  rw [show hv (kMean pn) 13858279740860792832 13858279740860792832 13858279740860792832 (FP.ddiv (FP.l2d sp) (FP.i2d pn)) = (if pn = 0 then 13858279740860792832 else FP.ddiv (FP.l2d sp) (FP.i2d pn)) from by unfold kMean; by_cases hc : pn = 0 <;> first | (rw [cif_t hc, hv_1, if_pos hc]; done) | rw [cif_f hc, hv_0, if_neg hc]] at z
  exact z
theorem mw_facts {l : Launch} {D : va_G} {tys : List (ClassId × FieldType)} {ad : Nat → Nat} (hI : aI ad 109) {cI cZ cH cP cT : ClassId} {V T : Nat → Nat → Int32} {ag : Nat → Int32} {nP nH rN : Nat} {nf pn : Int32} {sp sk : Int64} {py pd : Nat → Nat → Int32} (hty : TY tys cI cZ cH cP cT) {E : Nat → va_E} (hC : CW cI cZ cH cP cT ad V T ag nP nH rN nf pn sp sk py pd E) (sz : Nat) : Met l yX5_facts (Cond.code yX5_facts cX5_facts 1 (some .int) :: wsL_law) (rmk 6 0 0) (va_Pc [.ref (ad 0)] (PC D tys ad 109 E sz)) (Qi D ad 109 (fun r E1 => r = nf ∧ CW cI cZ cH cP cT ad V T ag nP nH rN nf pn sp sk py pd E1) (cA ad 109 sz)) 0 0 (cA ad 109 sz) := by
  obtain ⟨so, en, rA, rC, rI, aA, aC, aH, aT, aP, rfl, hInv⟩ := hC
  obtain ⟨hti, htz, hth, htp, htt⟩ := hty
  exact mt_facts hI V T ag nP nH rN nf pn sp sk py pd so en rA rC rI aA aC aH aT aP hti htz hth htp htt hInv sz
theorem mw_totalPaid {l : Launch} {D : va_G} {tys : List (ClassId × FieldType)} {ad : Nat → Nat} (hI : aI ad 109) {cI cZ cH cP cT : ClassId} {V T : Nat → Nat → Int32} {ag : Nat → Int32} {nP nH rN : Nat} {nf pn : Int32} {sp sk : Int64} {py pd : Nat → Nat → Int32} (hty : TY tys cI cZ cH cP cT) {E : Nat → va_E} (hC : CW cI cZ cH cP cT ad V T ag nP nH rN nf pn sp sk py pd E) (sz : Nat) : Met l yX5_totalPaid (Cond.code yX5_totalPaid cX5_totalPaid 1 (some .long) :: wsL_law) (rmk 6 0 0) (va_Pc [.ref (ad 0)] (PC D tys ad 109 E sz)) (Ql D ad 109 (fun r E1 => r = sp ∧ CW cI cZ cH cP cT ad V T ag nP nH rN nf pn sp sk py pd E1) (cA ad 109 sz)) 0 0 (cA ad 109 sz) := by
  obtain ⟨so, en, rA, rC, rI, aA, aC, aH, aT, aP, rfl, hInv⟩ := hC
  obtain ⟨hti, htz, hth, htp, htt⟩ := hty
  exact mt_totalPaid hI V T ag nP nH rN nf pn sp sk py pd so en rA rC rI aA aC aH aT aP hti htz hth htp htt hInv sz
theorem mw_keptBack {l : Launch} {D : va_G} {tys : List (ClassId × FieldType)} {ad : Nat → Nat} (hI : aI ad 109) {cI cZ cH cP cT : ClassId} {V T : Nat → Nat → Int32} {ag : Nat → Int32} {nP nH rN : Nat} {nf pn : Int32} {sp sk : Int64} {py pd : Nat → Nat → Int32} (hty : TY tys cI cZ cH cP cT) {E : Nat → va_E} (hC : CW cI cZ cH cP cT ad V T ag nP nH rN nf pn sp sk py pd E) (sz : Nat) : Met l yX5_keptBack (Cond.code yX5_keptBack cX5_keptBack 1 (some .long) :: wsL_law) (rmk 6 0 0) (va_Pc [.ref (ad 0)] (PC D tys ad 109 E sz)) (Ql D ad 109 (fun r E1 => r = sk ∧ CW cI cZ cH cP cT ad V T ag nP nH rN nf pn sp sk py pd E1) (cA ad 109 sz)) 0 0 (cA ad 109 sz) := by
  obtain ⟨so, en, rA, rC, rI, aA, aC, aH, aT, aP, rfl, hInv⟩ := hC
  obtain ⟨hti, htz, hth, htp, htt⟩ := hty
  exact mt_keptBack hI V T ag nP nH rN nf pn sp sk py pd so en rA rC rI aA aC aH aT aP hti htz hth htp htt hInv sz
theorem mw_paidMonths {l : Launch} {D : va_G} {tys : List (ClassId × FieldType)} {ad : Nat → Nat} (hI : aI ad 109) {cI cZ cH cP cT : ClassId} {V T : Nat → Nat → Int32} {ag : Nat → Int32} {nP nH rN : Nat} {nf pn : Int32} {sp sk : Int64} {py pd : Nat → Nat → Int32} (hty : TY tys cI cZ cH cP cT) {E : Nat → va_E} (hC : CW cI cZ cH cP cT ad V T ag nP nH rN nf pn sp sk py pd E) (sz : Nat) : Met l yX5_paidMonths (Cond.code yX5_paidMonths cX5_paidMonths 1 (some .int) :: wsL_law) (rmk 6 0 0) (va_Pc [.ref (ad 0)] (PC D tys ad 109 E sz)) (Qi D ad 109 (fun r E1 => r = nI rN ∧ CW cI cZ cH cP cT ad V T ag nP nH rN nf pn sp sk py pd E1) (cA ad 109 sz)) 0 0 (cA ad 109 sz) := by
  obtain ⟨so, en, rA, rC, rI, aA, aC, aH, aT, aP, rfl, hInv⟩ := hC
  obtain ⟨hti, htz, hth, htp, htt⟩ := hty
  exact mt_paidMonths hI V T ag nP nH rN nf pn sp sk py pd so en rA rC rI aA aC aH aT aP hti htz hth htp htt hInv sz
