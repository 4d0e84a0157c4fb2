theorem cwX6_171 {R : Room} {s : State} {args : Array Value} {rm : Room} (hts : ∀ w ∈ wsL_law, w.before args s = true) (hR : rm.frames + 1 ≤ R.frames ∧ 8 + (3 + 11) + rm.locals ≤ R.locals) : CWV R s args RX6 RX6 171 yX6_isAsked cX6_isAsked 3 (some .boolean) rm rm.cells rm.slots 2 :=
  cwV 2 hts (gi_V (r23_in _ (List.mem_of_getElem? (i := 19) rfl)) (r23_in _ (List.mem_of_getElem? (i := 20) rfl)) (r23_in _ (List.mem_of_getElem? (i := 21) rfl)) (r1_in _ (List.mem_of_getElem? (i := 5) rfl)) (r23_in _ (List.mem_of_getElem? (i := 22) rfl))) rfl rfl rfl (by decide +kernel) hR
theorem gfX6_121 {p : Program} {l : Launch} {e : Env} {R : Room} {s : State} {m : MethodId} {args : Array Value} {below : List Frame} {meth : Method} {c : Code} {H : Heap} {locs : List Loc} {cells slots : Nat} {Q : State → Prop} {cc : ByteArray} {pc nL : Nat} {ls : Array Slot} {rest : List Value} {D : va_G} {tys : List (ClassId × FieldType)} {ad : Nat → Nat} {N : Nat} {E : Nat → va_E} {k : Nat} {fs : List Value} {v : Value} (B : MB p c cc nL RX6 s m args D tys) (hT : TX s) (hW : hH D ad N E H) (hk : k < N) (he : E k = .inr (6, fs)) (hv : fs[26]? = some v) (hdg : decode cc pc = .ok (.getfield 121, 3)) (kk : W p l e R s m args below meth c H locs cells slots Q (F0 m (pc + 3) ls (v :: rest))) : W p l e R s m args below meth c H locs cells slots Q (F0 m pc ls (.ref (ad k) :: rest)) :=
  b_get B hW inlX6 rfl 26 (by decide) (r18_in _ (List.mem_of_getElem? (i := 21) rfl)) rfl hk he hv hdg kk
theorem gfX6_161 {p : Program} {l : Launch} {e : Env} {R : Room} {s : State} {m : MethodId} {args : Array Value} {below : List Frame} {meth : Method} {c : Code} {H : Heap} {locs : List Loc} {cells slots : Nat} {Q : State → Prop} {cc : ByteArray} {pc nL : Nat} {ls : Array Slot} {rest : List Value} {D : va_G} {tys : List (ClassId × FieldType)} {ad : Nat → Nat} {N : Nat} {E : Nat → va_E} {k : Nat} {fs : List Value} {v : Value} (B : MB p c cc nL RX6 s m args D tys) (hT : TX s) (hW : hH D ad N E H) (hk : k < N) (he : E k = .inr (6, fs)) (hv : fs[6]? = some v) (hdg : decode cc pc = .ok (.getfield 161, 3)) (kk : W p l e R s m args below meth c H locs cells slots Q (F0 m (pc + 3) ls (v :: rest))) : W p l e R s m args below meth c H locs cells slots Q (F0 m pc ls (.ref (ad k) :: rest)) :=
  b_get B hW inlX6 rfl 6 (by decide) (r17_in _ (List.mem_of_getElem? (i := 10) rfl)) rfl hk he hv hdg kk
theorem cwX6_164 {R : Room} {s : State} {args : Array Value} {rm : Room} (hts : ∀ w ∈ wsL_law, w.before args s = true) (hR : rm.frames + 1 ≤ R.frames ∧ 8 + (3 + 11) + rm.locals ≤ R.locals) : CWV R s args RX6 RX6 164 yX6_isMonthOf cX6_isMonthOf 3 (some .boolean) rm rm.cells rm.slots 2 :=
  cwV 2 hts (gi_V (r20_in _ (List.mem_of_getElem? (i := 1) rfl)) (r20_in _ (List.mem_of_getElem? (i := 2) rfl)) (r20_in _ (List.mem_of_getElem? (i := 3) rfl)) (r1_in _ (List.mem_of_getElem? (i := 5) rfl)) (r20_in _ (List.mem_of_getElem? (i := 4) rfl))) rfl rfl rfl (by decide +kernel) hR
theorem gfX6_45 {p : Program} {l : Launch} {e : Env} {R : Room} {s : State} {m : MethodId} {args : Array Value} {below : List Frame} {meth : Method} {c : Code} {H : Heap} {locs : List Loc} {cells slots : Nat} {Q : State → Prop} {cc : ByteArray} {pc nL : Nat} {ls : Array Slot} {rest : List Value} {D : va_G} {tys : List (ClassId × FieldType)} {ad : Nat → Nat} {N : Nat} {E : Nat → va_E} {k : Nat} {fs : List Value} {v : Value} (B : MB p c cc nL RX6 s m args D tys) (hT : TX s) (hW : hH D ad N E H) (hk : k < N) (he : E k = .inr (6, fs)) (hv : fs[18]? = some v) (hdg : decode cc pc = .ok (.getfield 45, 3)) (kk : W p l e R s m args below meth c H locs cells slots Q (F0 m (pc + 3) ls (v :: rest))) : W p l e R s m args below meth c H locs cells slots Q (F0 m pc ls (.ref (ad k) :: rest)) :=
  b_get B hW inlX6 rfl 18 (by decide) (r5_in _ (List.mem_of_getElem? (i := 15) rfl)) rfl hk he hv hdg kk
theorem cwX6_174 {R : Room} {s : State} {args : Array Value} {rm : Room} (hts : ∀ w ∈ wsL_law, w.before args s = true) (hR : rm.frames + 1 ≤ R.frames ∧ 8 + (3 + 11) + rm.locals ≤ R.locals) : CWV R s args RX6 RX6 174 yX6_entitlement cX6_entitlement 3 (some .int) rm rm.cells rm.slots 2 :=
  cwV 2 hts (gi_V (r28_in _ (List.mem_of_getElem? (i := 2) rfl)) (r27_in _ (List.mem_of_getElem? (i := 12) rfl)) (r27_in _ (List.mem_of_getElem? (i := 13) rfl)) (r1_in _ (List.mem_of_getElem? (i := 5) rfl)) (r27_in _ (List.mem_of_getElem? (i := 14) rfl))) rfl rfl rfl (by decide +kernel) hR
theorem cwX6_168 {R : Room} {s : State} {args : Array Value} {rm : Room} (hts : ∀ w ∈ wsL_law, w.before args s = true) (hR : rm.frames + 1 ≤ R.frames ∧ 8 + (2 + 11) + rm.locals ≤ R.locals) : CWV R s args RX6 RX6 168 yX6_isKnown cX6_isKnown 2 (some .boolean) rm rm.cells rm.slots 1 :=
  cwV 1 hts (gi_V (r21_in _ (List.mem_of_getElem? (i := 3) rfl)) (r21_in _ (List.mem_of_getElem? (i := 4) rfl)) (r21_in _ (List.mem_of_getElem? (i := 5) rfl)) (r1_in _ (List.mem_of_getElem? (i := 5) rfl)) (r21_in _ (List.mem_of_getElem? (i := 6) rfl))) rfl rfl rfl (by decide +kernel) hR
set_option maxHeartbeats 4000000 in
set_option maxRecDepth 100000 in
theorem mm_isMonthOf {l : Launch} {D : va_G} {tys : List (ClassId × FieldType)} {ad : Nat → Nat} (hI : aI ad 13) {cI cZ : ClassId} (th : Int32) (nP nH rN : Nat) (nf pn : Int32) (sp sk : Int64) (ag : Nat → Int32) (V T : Nat → Nat → Int32) (pd py : Nat → Nat → Int32) (du : Nat → Int32) (mA mC mH mG mS mI mT mP : Int32) (x y : Int32) (hti : tys[0]? = some (cI, .int)) (htz : tys[1]? = some (cZ, .boolean)) (hn9 : nH < 2 ^ 31) (sz : Nat) : Met l yX6_isMonthOf (Cond.code yX6_isMonthOf cX6_isMonthOf 3 (some .boolean) :: wsL_law) (rmk 2 0 0) (va_Pc [.ref (ad 0), .int x, .int y] (PC D tys ad 13 (mE cI cZ ad th nP nH rN nf pn sp sk ag (RV V) (RV T) (FL pd) (FL py) du mA mC mH mG mS mI mT mP) sz)) (Qi D ad 13 (fun r E1 => r = cif (vp_in x nH ∧ vp_in y 12) 1 0 ∧ E1 = mE cI cZ ad th nP nH rN nf pn sp sk ag (RV V) (RV T) (FL pd) (FL py) du mA mC mH mG mS mI mT mP) (cA ad 13 sz)) 0 0 (cA ad 13 sz) := by
  refine cm_of (own := RX6) (Qc := Qi D ad 13 (fun r E1 => r = cif (vp_in x nH ∧ vp_in y 12) 1 0 ∧ E1 = mE cI cZ ad th nP nH rN nf pn sp sk ag (RV V) (RV T) (FL pd) (FL py) du mA mC mH mG mS mI mT mP)) rfl (by decide +kernel) (Nat.le_of_ble_eq_true rfl) ?_ sz
  intro p e s m args below meth c ls Q B hT hX hW hr hlk hnm hl hS hA hQ
  have hx := B.1
  have hb := B.2.1
  have hl : lv_has ls 3 [(0, .ref (ad 0)), (1, .int x), (2, .int y)] := hl
  refine lv_aload_n hx hb dX6_isMonthOf_0 rfl (lv_at hl 0 rfl) ?_
  refine lv_iload_n hx hb dX6_isMonthOf_1 rfl (lv_at hl 1 rfl) ?_
  refine b_ci (b_runV B hT hX hW hS (As := [.int x]) (rest := []) (fun sz => mm_isHouse hI th nP nH rN nf pn sp sk ag V T pd py du mA mC mH mG mS mI mT mP x hti htz (by omega) sz) (cwX6_79 B.2.2.2.2.1 ⟨Nat.le_of_ble_eq_true rfl, Nat.le_of_ble_eq_true rfl⟩) (b_recv B hW (by decide) mE_0 rfl) rfl hl.1 (Nat.le_of_ble_eq_true rfl) dX6_isMonthOf_2 ⟨Nat.le_of_ble_eq_true rfl, Nat.le_of_ble_eq_true rfl⟩) hS (fun r_2 E1 H locs hp_2 hW hS => ?_)
  obtain ⟨hr_, hE_⟩ := hp_2
  subst hr_
  have hW := hW.eq hE_
  refine lv_if_eq (tgt := 22) hx hb dX6_isMonthOf_5 (by decide) (fun c_5 => ?_) (fun c_5 => ?_)
  · skip
    refine lv_iconst (v := 0) hx hb dX6_isMonthOf_22 (by decide) ?_
    exact e_n hQ B hr hlk hS (by first | rfl | decide) hW dX6_isMonthOf_23 (Nat.le_of_ble_eq_true rfl) (Nat.le_of_ble_eq_true rfl) (⟨(cif_f (fun q => c10_f c_5 q.1)).symm, rfl⟩)
  · skip
    refine lv_iload_n hx hb dX6_isMonthOf_8 rfl (lv_at hl 2 rfl) ?_
    refine lv_iconst (v := 0) hx hb dX6_isMonthOf_9 (by decide) ?_
    refine lv_bipush (v := (nI 11)) hx hb dX6_isMonthOf_10 (by decide) ?_
    refine b_ci (b_runS B hT hX hW hS (As := [.int y, .int 0, .int (nI 11)]) (rest := []) (fun sz => mm_in hI y 0 (nI 11) sz) (cwX6_61 B.2.2.2.2.1 ⟨Nat.le_of_ble_eq_true rfl, Nat.le_of_ble_eq_true rfl⟩) rfl hl.1 (Nat.le_of_ble_eq_true rfl) dX6_isMonthOf_12 ⟨Nat.le_of_ble_eq_true rfl, Nat.le_of_ble_eq_true rfl⟩) hS (fun r_12 E1 H locs hp_12 hW hS => ?_)
    obtain ⟨hr_, hE_⟩ := hp_12
    subst hr_
    have hW := hW.eq hE_
    refine b_top (y := cif (vp_in y 12) 1 0) (kIn_top (by omega)) ?_
    refine lv_if_eq (tgt := 22) hx hb dX6_isMonthOf_15 (by decide) (fun c_15 => ?_) (fun c_15 => ?_)
    · skip
      refine lv_iconst (v := 0) hx hb dX6_isMonthOf_22 (by decide) ?_
      exact e_n hQ B hr hlk hS (by first | rfl | decide) hW dX6_isMonthOf_23 (Nat.le_of_ble_eq_true rfl) (Nat.le_of_ble_eq_true rfl) (⟨(cif_f (fun q => c10_f c_15 q.2)).symm, rfl⟩)
    · skip
      refine lv_iconst (v := 1) hx hb dX6_isMonthOf_18 (by decide) ?_
      refine lv_goto (tgt := 23) hx hb dX6_isMonthOf_19 (by decide) ?_
      exact e_n hQ B hr hlk hS (by first | rfl | decide) hW dX6_isMonthOf_23 (Nat.le_of_ble_eq_true rfl) (Nat.le_of_ble_eq_true rfl) (⟨(cif_t ⟨c10_t c_5, c10_t c_15⟩).symm, rfl⟩)
set_option maxHeartbeats 4000000 in
set_option maxRecDepth 100000 in
theorem mm_isKnown {l : Launch} {D : va_G} {tys : List (ClassId × FieldType)} {ad : Nat → Nat} (hI : aI ad 13) {cI cZ : ClassId} (th : Int32) (nP nH rN : Nat) (nf pn : Int32) (sp sk : Int64) (ag : Nat → Int32) (V T : Nat → Nat → Int32) (pd py : Nat → Nat → Int32) (du : Nat → Int32) (mA mC mH mG mS mI mT mP : Int32) (x : Int32) (hti : tys[0]? = some (cI, .int)) (htz : tys[1]? = some (cZ, .boolean)) (hn9 : nH < 2 ^ 31) (sz : Nat) : Met l yX6_isKnown (Cond.code yX6_isKnown cX6_isKnown 2 (some .boolean) :: wsL_law) (rmk 2 0 0) (va_Pc [.ref (ad 0), .int x] (PC D tys ad 13 (mE cI cZ ad th nP nH rN nf pn sp sk ag (RV V) (RV T) (FL pd) (FL py) du mA mC mH mG mS mI mT mP) sz)) (Qi D ad 13 (fun r E1 => r = cif (vp_in x nH) 1 0 ∧ E1 = mE cI cZ ad (kHou nH x) nP nH rN nf pn sp sk ag (RV V) (RV T) (FL pd) (FL py) du mA mC mH mG mS mI mT mP) (cA ad 13 sz)) 0 0 (cA ad 13 sz) := by
  refine cm_of (own := RX6) (Qc := Qi D ad 13 (fun r E1 => r = cif (vp_in x nH) 1 0 ∧ E1 = mE cI cZ ad (kHou nH x) nP nH rN nf pn sp sk ag (RV V) (RV T) (FL pd) (FL py) du mA mC mH mG mS mI mT mP)) rfl (by decide +kernel) (Nat.le_of_ble_eq_true rfl) ?_ sz
  intro p e s m args below meth c ls Q B hT hX hW hr hlk hnm hl hS hA hQ
  have hx := B.1
  have hb := B.2.1
  have hl : lv_has ls 2 [(0, .ref (ad 0)), (1, .int x)] := hl
  refine lv_aload_n hx hb dX6_isKnown_0 rfl (lv_at hl 0 rfl) ?_
  refine lv_aload_n hx hb dX6_isKnown_1 rfl (lv_at hl 0 rfl) ?_
  refine lv_iload_n hx hb dX6_isKnown_2 rfl (lv_at hl 1 rfl) ?_
  refine b_ci (b_runV B hT hX hW hS (As := [.int x]) (rest := [.ref (ad 0)]) (fun sz => mm_isHouse hI th nP nH rN nf pn sp sk ag V T pd py du mA mC mH mG mS mI mT mP x hti htz (by omega) sz) (cwX6_79 B.2.2.2.2.1 ⟨Nat.le_of_ble_eq_true rfl, Nat.le_of_ble_eq_true rfl⟩) (b_recv B hW (by decide) mE_0 rfl) rfl hl.1 (Nat.le_of_ble_eq_true rfl) dX6_isKnown_3 ⟨Nat.le_of_ble_eq_true rfl, Nat.le_of_ble_eq_true rfl⟩) hS (fun r_3 E1 H locs hp_3 hW hS => ?_)
  obtain ⟨hr_, hE_⟩ := hp_3
  subst hr_
  have hW := hW.eq hE_
  refine lv_if_eq (tgt := 13) hx hb dX6_isKnown_6 (by decide) (fun c_6 => ?_) (fun c_6 => ?_)
  · skip
    refine lv_iconst (v := 1) hx hb dX6_isKnown_13 (by decide) ?_
    refine pfX6_55 B hT hI hA hW hS (by decide) mE_0 (Nat.le_of_ble_eq_true rfl) rfl (by first | rfl | decide) dX6_isKnown_14 (fun H locs hW hS => ?_)
    have hW := hW.eq (E' := mE cI cZ ad 1 nP nH rN nf pn sp sk ag (RV V) (RV T) (FL pd) (FL py) du mA mC mH mG mS mI mT mP) (mE_u0 _ _ _ _ _ _ _ _ _ _ _ _ _ _ _ _)
    refine lv_aload_n hx hb dX6_isKnown_17 rfl (lv_at hl 0 rfl) ?_
    refine gfX6_55 B hT hW (by decide) mE_0 rfl dX6_isKnown_18 ?_
    refine lv_if_ne (tgt := 28) hx hb dX6_isKnown_21 (by decide) (fun c_21 => ?_) (fun c_21 => ?_)
    · skip
      refine lv_iconst (v := 0) hx hb dX6_isKnown_28 (by decide) ?_
      exact e_n hQ B hr hlk hS (by first | rfl | decide) hW dX6_isKnown_29 (Nat.le_of_ble_eq_true rfl) (Nat.le_of_ble_eq_true rfl) (⟨(cif_f (c10_f c_6)).symm, by rw [show kHou nH x = 1 from cif_f (c10_f c_6)]⟩)
    · exact absurd c_21 (by decide)
  · skip
    refine lv_iconst (v := 0) hx hb dX6_isKnown_9 (by decide) ?_
    refine lv_goto (tgt := 14) hx hb dX6_isKnown_10 (by decide) ?_
    refine pfX6_55 B hT hI hA hW hS (by decide) mE_0 (Nat.le_of_ble_eq_true rfl) rfl (by first | rfl | decide) dX6_isKnown_14 (fun H locs hW hS => ?_)
    have hW := hW.eq (E' := mE cI cZ ad 0 nP nH rN nf pn sp sk ag (RV V) (RV T) (FL pd) (FL py) du mA mC mH mG mS mI mT mP) (mE_u0 _ _ _ _ _ _ _ _ _ _ _ _ _ _ _ _)
    refine lv_aload_n hx hb dX6_isKnown_17 rfl (lv_at hl 0 rfl) ?_
    refine gfX6_55 B hT hW (by decide) mE_0 rfl dX6_isKnown_18 ?_
    refine lv_if_ne (tgt := 28) hx hb dX6_isKnown_21 (by decide) (fun c_21 => ?_) (fun c_21 => ?_)
    · exact absurd rfl c_21
    · skip
      refine lv_iconst (v := 1) hx hb dX6_isKnown_24 (by decide) ?_
      refine lv_goto (tgt := 29) hx hb dX6_isKnown_25 (by decide) ?_
      exact e_n hQ B hr hlk hS (by first | rfl | decide) hW dX6_isKnown_29 (Nat.le_of_ble_eq_true rfl) (Nat.le_of_ble_eq_true rfl) (⟨(cif_t (c10_t c_6)).symm, by rw [show kHou nH x = 0 from cif_t (c10_t c_6)]⟩)
set_option maxHeartbeats 4000000 in
set_option maxRecDepth 100000 in
theorem mm_isAsked {l : Launch} {D : va_G} {tys : List (ClassId × FieldType)} {ad : Nat → Nat} (hI : aI ad 13) {cI cZ : ClassId} (th : Int32) (nP nH rN : Nat) (nf pn : Int32) (sp sk : Int64) (ag : Nat → Int32) (V T : Nat → Nat → Int32) (pd py : Nat → Nat → Int32) (du : Nat → Int32) (mA mC mH mG mS mI mT mP : Int32) (x dy : Int32) (so : Nat → Int32) (hti : tys[0]? = some (cI, .int)) (htz : tys[1]? = some (cZ, .boolean)) (hInv : Inv V T ag nP nH rN so pd)  (sz : Nat) : Met l yX6_isAsked (Cond.code yX6_isAsked cX6_isAsked 3 (some .boolean) :: wsL_law) (rmk 3 0 0) (va_Pc [.ref (ad 0), .int x, .int dy] (PC D tys ad 13 (mE cI cZ ad th nP nH rN nf pn sp sk ag (RV V) (RV T) (FL pd) (FL py) du mA mC mH mG mS mI mT mP) sz)) (Qi D ad 13 (fun r E1 => (kAsk nH x dy = 0 ∧ r = 1 ∧ E1 = mE cI cZ ad 0 nP nH rN nf pn sp sk ag (RV V) (RV T) (FL pd) (FL py) du ((amt V ag nP (ix x) (ix dy)).1) ((amt V ag nP (ix x) (ix dy)).2.1) ((amt V ag nP (ix x) (ix dy)).2.2.1) ((cnt V ag (nI (ix x)) (ix dy) nP).1) ((cnt V ag (nI (ix x)) (ix dy) nP).2.1) ((cnt V ag (nI (ix x)) (ix dy) nP).2.2) ((amt V ag nP (ix x) (ix dy)).2.2.2.1) ((amt V ag nP (ix x) (ix dy)).2.2.2.2)) ∨ (¬ kAsk nH x dy = 0 ∧ r = 0 ∧ E1 = mE cI cZ ad (kAsk nH x dy) nP nH rN nf pn sp sk ag (RV V) (RV T) (FL pd) (FL py) du mA mC mH mG mS mI mT mP)) (cA ad 13 sz)) 0 0 (cA ad 13 sz) := by
  refine cm_of (own := RX6) (Qc := Qi D ad 13 (fun r E1 => (kAsk nH x dy = 0 ∧ r = 1 ∧ E1 = mE cI cZ ad 0 nP nH rN nf pn sp sk ag (RV V) (RV T) (FL pd) (FL py) du ((amt V ag nP (ix x) (ix dy)).1) ((amt V ag nP (ix x) (ix dy)).2.1) ((amt V ag nP (ix x) (ix dy)).2.2.1) ((cnt V ag (nI (ix x)) (ix dy) nP).1) ((cnt V ag (nI (ix x)) (ix dy) nP).2.1) ((cnt V ag (nI (ix x)) (ix dy) nP).2.2) ((amt V ag nP (ix x) (ix dy)).2.2.2.1) ((amt V ag nP (ix x) (ix dy)).2.2.2.2)) ∨ (¬ kAsk nH x dy = 0 ∧ r = 0 ∧ E1 = mE cI cZ ad (kAsk nH x dy) nP nH rN nf pn sp sk ag (RV V) (RV T) (FL pd) (FL py) du mA mC mH mG mS mI mT mP))) rfl (by decide +kernel) (Nat.le_of_ble_eq_true rfl) ?_ sz
  intro p e s m args below meth c ls Q B hT hX hW hr hlk hnm hl hS hA hQ
  have hx := B.1
  have hb := B.2.1
  have hl : lv_has ls 3 [(0, .ref (ad 0)), (1, .int x), (2, .int dy)] := hl
  obtain ⟨⟨hP8, hH4, hR12⟩, -⟩ := id hInv
  refine lv_aload_n hx hb dX6_isAsked_0 rfl (lv_at hl 0 rfl) ?_
  refine lv_aload_n hx hb dX6_isAsked_1 rfl (lv_at hl 0 rfl) ?_
  refine lv_iload_n hx hb dX6_isAsked_2 rfl (lv_at hl 1 rfl) ?_
  refine b_ci (b_runV B hT hX hW hS (As := [.int x]) (rest := [.ref (ad 0)]) (fun sz => mm_isHouse hI th nP nH rN nf pn sp sk ag V T pd py du mA mC mH mG mS mI mT mP x hti htz (by omega) sz) (cwX6_79 B.2.2.2.2.1 ⟨Nat.le_of_ble_eq_true rfl, Nat.le_of_ble_eq_true rfl⟩) (b_recv B hW (by decide) mE_0 rfl) rfl hl.1 (Nat.le_of_ble_eq_true rfl) dX6_isAsked_3 ⟨Nat.le_of_ble_eq_true rfl, Nat.le_of_ble_eq_true rfl⟩) hS (fun r_3 E1 H locs hp_3 hW hS => ?_)
  obtain ⟨hr_, hE_⟩ := hp_3
  subst hr_
  have hW := hW.eq hE_
  refine lv_if_ne (tgt := 13) hx hb dX6_isAsked_6 (by decide) (fun c_6 => ?_) (fun c_6 => ?_)
  · skip
    refine lv_iload_n hx hb dX6_isAsked_13 rfl (lv_at hl 2 rfl) ?_
    refine b_ci (b_runS B hT hX hW hS (As := [.int dy]) (rest := [.ref (ad 0)]) (fun sz => mm_isDay hI dy sz) (cwX6_82 B.2.2.2.2.1 ⟨Nat.le_of_ble_eq_true rfl, Nat.le_of_ble_eq_true rfl⟩) rfl hl.1 (Nat.le_of_ble_eq_true rfl) dX6_isAsked_14 ⟨Nat.le_of_ble_eq_true rfl, Nat.le_of_ble_eq_true rfl⟩) hS (fun r_14 E1 H locs hp_14 hW hS => ?_)
    obtain ⟨hr_, hE_⟩ := hp_14
    subst hr_
    have hW := hW.eq hE_
    refine lv_if_eq (tgt := 24) hx hb dX6_isAsked_17 (by decide) (fun c_17 => ?_) (fun c_17 => ?_)
    · skip
      refine lv_iconst (v := 2) hx hb dX6_isAsked_24 (by decide) ?_
      refine pfX6_55 B hT hI hA hW hS (by decide) mE_0 (Nat.le_of_ble_eq_true rfl) rfl (by first | rfl | decide) dX6_isAsked_25 (fun H locs hW hS => ?_)
      have hW := hW.eq (E' := mE cI cZ ad 2 nP nH rN nf pn sp sk ag (RV V) (RV T) (FL pd) (FL py) du mA mC mH mG mS mI mT mP) (mE_u0 _ _ _ _ _ _ _ _ _ _ _ _ _ _ _ _)
      refine lv_aload_n hx hb dX6_isAsked_28 rfl (lv_at hl 0 rfl) ?_
      refine gfX6_55 B hT hW (by decide) mE_0 rfl dX6_isAsked_29 ?_
      refine lv_if_le (tgt := 37) hx hb dX6_isAsked_32 (by decide) (fun c_32 => ?_) (fun c_32 => ?_)
      · exact absurd c_32 (by decide)
      · skip
        refine lv_iconst (v := 0) hx hb dX6_isAsked_35 (by decide) ?_
        exact e_n hQ B hr hlk hS (by first | rfl | decide) hW dX6_isAsked_36 (Nat.le_of_ble_eq_true rfl) (Nat.le_of_ble_eq_true rfl) (by have hk : kAsk nH x dy = 2 := (by unfold kAsk; rw [cif_t (c10_t c_6), cif_f (c10_f c_17)]); exact Or.inr ⟨by rw [hk]; decide, rfl, by rw [hk]⟩)
    · skip
      refine lv_iconst (v := 0) hx hb dX6_isAsked_20 (by decide) ?_
      refine lv_goto (tgt := 25) hx hb dX6_isAsked_21 (by decide) ?_
      refine pfX6_55 B hT hI hA hW hS (by decide) mE_0 (Nat.le_of_ble_eq_true rfl) rfl (by first | rfl | decide) dX6_isAsked_25 (fun H locs hW hS => ?_)
      have hW := hW.eq (E' := mE cI cZ ad 0 nP nH rN nf pn sp sk ag (RV V) (RV T) (FL pd) (FL py) du mA mC mH mG mS mI mT mP) (mE_u0 _ _ _ _ _ _ _ _ _ _ _ _ _ _ _ _)
      refine lv_aload_n hx hb dX6_isAsked_28 rfl (lv_at hl 0 rfl) ?_
      refine gfX6_55 B hT hW (by decide) mE_0 rfl dX6_isAsked_29 ?_
      refine lv_if_le (tgt := 37) hx hb dX6_isAsked_32 (by decide) (fun c_32 => ?_) (fun c_32 => ?_)
      · skip
        obtain ⟨i, hi, rfl⟩ := vp_in_of (c10_t c_6) (by omega)
        obtain ⟨d, hd, rfl⟩ := vp_in_of (c10_t c_17) (by omega)
        have ei : ix (nI i) = i := nI_clamp (by omega)
        have ed : ix (nI d) = d := nI_clamp (by omega)
        refine lv_aload_n hx hb dX6_isAsked_37 rfl (lv_at hl 0 rfl) ?_
        refine lv_iload_n hx hb dX6_isAsked_38 rfl (lv_at hl 1 rfl) ?_
        refine lv_iload_n hx hb dX6_isAsked_39 rfl (lv_at hl 2 rfl) ?_
        refine b_cv (b_runV B hT hX hW hS (As := [.int (nI i), .int (nI d)]) (rest := []) (fun sz => mm_amounts hI 0 nP nH rN nf pn sp sk ag V T pd py du mA mC mH mG mS mI mT mP i d so hti htz hInv (by omega) (by omega) sz) (cwX6_142 B.2.2.2.2.1 ⟨Nat.le_of_ble_eq_true rfl, Nat.le_of_ble_eq_true rfl⟩) (b_recv B hW (by decide) mE_0 rfl) rfl hl.1 (Nat.le_of_ble_eq_true rfl) dX6_isAsked_40 ⟨Nat.le_of_ble_eq_true rfl, Nat.le_of_ble_eq_true rfl⟩) hS (fun E1 H locs hp_40 hW hS => ?_)
        have hW := hW.eq hp_40
        refine lv_iconst (v := 1) hx hb dX6_isAsked_43 (by decide) ?_
        exact e_n hQ B hr hlk hS (by first | rfl | decide) hW dX6_isAsked_44 (Nat.le_of_ble_eq_true rfl) (Nat.le_of_ble_eq_true rfl) (by have hk : kAsk nH (nI i) (nI d) = 0 := (by unfold kAsk; rw [cif_t (vp_in_nI hi (by omega)), cif_t (vp_in_nI hd (by omega))]); exact Or.inl ⟨hk, rfl, by rw [ei, ed]⟩)
      · exact absurd (Int32.le_refl 0) c_32
  · skip
    refine lv_iconst (v := 1) hx hb dX6_isAsked_9 (by decide) ?_
    refine lv_goto (tgt := 25) hx hb dX6_isAsked_10 (by decide) ?_
    refine pfX6_55 B hT hI hA hW hS (by decide) mE_0 (Nat.le_of_ble_eq_true rfl) rfl (by first | rfl | decide) dX6_isAsked_25 (fun H locs hW hS => ?_)
    have hW := hW.eq (E' := mE cI cZ ad 1 nP nH rN nf pn sp sk ag (RV V) (RV T) (FL pd) (FL py) du mA mC mH mG mS mI mT mP) (mE_u0 _ _ _ _ _ _ _ _ _ _ _ _ _ _ _ _)
    refine lv_aload_n hx hb dX6_isAsked_28 rfl (lv_at hl 0 rfl) ?_
    refine gfX6_55 B hT hW (by decide) mE_0 rfl dX6_isAsked_29 ?_
    refine lv_if_le (tgt := 37) hx hb dX6_isAsked_32 (by decide) (fun c_32 => ?_) (fun c_32 => ?_)
    · exact absurd c_32 (by decide)
    · skip
      refine lv_iconst (v := 0) hx hb dX6_isAsked_35 (by decide) ?_
      exact e_n hQ B hr hlk hS (by first | rfl | decide) hW dX6_isAsked_36 (Nat.le_of_ble_eq_true rfl) (Nat.le_of_ble_eq_true rfl) (by have hk : kAsk nH x dy = 1 := (by unfold kAsk; rw [cif_f (c10_f c_6)]); exact Or.inr ⟨by rw [hk]; decide, rfl, by rw [hk]⟩)
set_option maxHeartbeats 4000000 in
set_option maxRecDepth 100000 in
theorem mm_adults {l : Launch} {D : va_G} {tys : List (ClassId × FieldType)} {ad : Nat → Nat} (hI : aI ad 13) {cI cZ : ClassId} (th : Int32) (nP nH rN : Nat) (nf pn : Int32) (sp sk : Int64) (ag : Nat → Int32) (V T : Nat → Nat → Int32) (pd py : Nat → Nat → Int32) (du : Nat → Int32) (mA mC mH mG mS mI mT mP : Int32) (x dy : Int32) (so : Nat → Int32) (hti : tys[0]? = some (cI, .int)) (htz : tys[1]? = some (cZ, .boolean)) (hInv : Inv V T ag nP nH rN so pd)  (sz : Nat) : Met l yX6_adults (Cond.code yX6_adults cX6_adults 3 (some .int) :: wsL_law) (rmk 6 0 0) (va_Pc [.ref (ad 0), .int x, .int dy] (PC D tys ad 13 (mE cI cZ ad th nP nH rN nf pn sp sk ag (RV V) (RV T) (FL pd) (FL py) du mA mC mH mG mS mI mT mP) sz)) (Qi D ad 13 (fun r E1 => (kAsk nH x dy = 0 → r = (cnt V ag (nI (ix x)) (ix dy) nP).1) ∧ MW cI cZ ad (kAsk nH x dy) V T ag nP nH rN nf pn sp sk py pd E1) (cA ad 13 sz)) 0 0 (cA ad 13 sz) := by
  refine cm_of (own := RX6) (Qc := Qi D ad 13 (fun r E1 => (kAsk nH x dy = 0 → r = (cnt V ag (nI (ix x)) (ix dy) nP).1) ∧ MW cI cZ ad (kAsk nH x dy) V T ag nP nH rN nf pn sp sk py pd E1)) rfl (by decide +kernel) (Nat.le_of_ble_eq_true rfl) ?_ sz
  intro p e s m args below meth c ls Q B hT hX hW hr hlk hnm hl hS hA hQ
  have hx := B.1
  have hb := B.2.1
  have hl : lv_has ls 3 [(0, .ref (ad 0)), (1, .int x), (2, .int dy)] := hl
  refine lv_aload_n hx hb dX6_adults_0 rfl (lv_at hl 0 rfl) ?_
  refine lv_iload_n hx hb dX6_adults_1 rfl (lv_at hl 1 rfl) ?_
  refine lv_iload_n hx hb dX6_adults_2 rfl (lv_at hl 2 rfl) ?_
  refine b_ci (b_runV B hT hX hW hS (As := [.int x, .int dy]) (rest := []) (fun sz => mm_isAsked hI th nP nH rN nf pn sp sk ag V T pd py du mA mC mH mG mS mI mT mP x dy so hti htz hInv sz) (cwX6_171 B.2.2.2.2.1 ⟨Nat.le_of_ble_eq_true rfl, Nat.le_of_ble_eq_true rfl⟩) (b_recv B hW (by decide) mE_0 rfl) rfl hl.1 (Nat.le_of_ble_eq_true rfl) dX6_adults_3 ⟨Nat.le_of_ble_eq_true rfl, Nat.le_of_ble_eq_true rfl⟩) hS (fun r_3 E1 H locs hp_3 hW hS => ?_)
  rcases hp_3 with ⟨hk, hr_, hE_⟩ | ⟨hk, hr_, hE_⟩
  · skip
    subst hr_
    have hW := hW.eq hE_
    refine lv_if_eq (tgt := 16) hx hb dX6_adults_6 (by decide) (fun c_6 => ?_) (fun c_6 => ?_)
    · exact absurd c_6 (by decide)
    · skip
      refine lv_aload_n hx hb dX6_adults_9 rfl (lv_at hl 0 rfl) ?_
      refine gfX6_99 B hT hW (by decide) mE_0 rfl dX6_adults_10 ?_
      refine lv_goto (tgt := 17) hx hb dX6_adults_13 (by decide) ?_
      exact e_i hQ B hr hlk hS hW dX6_adults_17 (Nat.le_of_ble_eq_true rfl) (Nat.le_of_ble_eq_true rfl) (⟨fun _ => rfl, by rw [hk]; exact MW.mk⟩)
  · skip
    subst hr_
    have hW := hW.eq hE_
    refine lv_if_eq (tgt := 16) hx hb dX6_adults_6 (by decide) (fun c_6 => ?_) (fun c_6 => ?_)
    · skip
      refine lv_iconst (v := 0) hx hb dX6_adults_16 (by decide) ?_
      exact e_i hQ B hr hlk hS hW dX6_adults_17 (Nat.le_of_ble_eq_true rfl) (Nat.le_of_ble_eq_true rfl) (⟨fun q => absurd q hk, MW.mk⟩)
    · exact absurd rfl c_6
set_option maxHeartbeats 4000000 in
set_option maxRecDepth 100000 in
theorem mm_children {l : Launch} {D : va_G} {tys : List (ClassId × FieldType)} {ad : Nat → Nat} (hI : aI ad 13) {cI cZ : ClassId} (th : Int32) (nP nH rN : Nat) (nf pn : Int32) (sp sk : Int64) (ag : Nat → Int32) (V T : Nat → Nat → Int32) (pd py : Nat → Nat → Int32) (du : Nat → Int32) (mA mC mH mG mS mI mT mP : Int32) (x dy : Int32) (so : Nat → Int32) (hti : tys[0]? = some (cI, .int)) (htz : tys[1]? = some (cZ, .boolean)) (hInv : Inv V T ag nP nH rN so pd)  (sz : Nat) : Met l yX6_children (Cond.code yX6_children cX6_children 3 (some .int) :: wsL_law) (rmk 6 0 0) (va_Pc [.ref (ad 0), .int x, .int dy] (PC D tys ad 13 (mE cI cZ ad th nP nH rN nf pn sp sk ag (RV V) (RV T) (FL pd) (FL py) du mA mC mH mG mS mI mT mP) sz)) (Qi D ad 13 (fun r E1 => (kAsk nH x dy = 0 → r = (cnt V ag (nI (ix x)) (ix dy) nP).2.1) ∧ MW cI cZ ad (kAsk nH x dy) V T ag nP nH rN nf pn sp sk py pd E1) (cA ad 13 sz)) 0 0 (cA ad 13 sz) := by
  refine cm_of (own := RX6) (Qc := Qi D ad 13 (fun r E1 => (kAsk nH x dy = 0 → r = (cnt V ag (nI (ix x)) (ix dy) nP).2.1) ∧ MW cI cZ ad (kAsk nH x dy) V T ag nP nH rN nf pn sp sk py pd E1)) rfl (by decide +kernel) (Nat.le_of_ble_eq_true rfl) ?_ sz
  intro p e s m args below meth c ls Q B hT hX hW hr hlk hnm hl hS hA hQ
  have hx := B.1
  have hb := B.2.1
  have hl : lv_has ls 3 [(0, .ref (ad 0)), (1, .int x), (2, .int dy)] := hl
  refine lv_aload_n hx hb dX6_children_0 rfl (lv_at hl 0 rfl) ?_
  refine lv_iload_n hx hb dX6_children_1 rfl (lv_at hl 1 rfl) ?_
  refine lv_iload_n hx hb dX6_children_2 rfl (lv_at hl 2 rfl) ?_
  refine b_ci (b_runV B hT hX hW hS (As := [.int x, .int dy]) (rest := []) (fun sz => mm_isAsked hI th nP nH rN nf pn sp sk ag V T pd py du mA mC mH mG mS mI mT mP x dy so hti htz hInv sz) (cwX6_171 B.2.2.2.2.1 ⟨Nat.le_of_ble_eq_true rfl, Nat.le_of_ble_eq_true rfl⟩) (b_recv B hW (by decide) mE_0 rfl) rfl hl.1 (Nat.le_of_ble_eq_true rfl) dX6_children_3 ⟨Nat.le_of_ble_eq_true rfl, Nat.le_of_ble_eq_true rfl⟩) hS (fun r_3 E1 H locs hp_3 hW hS => ?_)
  rcases hp_3 with ⟨hk, hr_, hE_⟩ | ⟨hk, hr_, hE_⟩
  · skip
    subst hr_
    have hW := hW.eq hE_
    refine lv_if_eq (tgt := 16) hx hb dX6_children_6 (by decide) (fun c_6 => ?_) (fun c_6 => ?_)
    · exact absurd c_6 (by decide)
    · skip
      refine lv_aload_n hx hb dX6_children_9 rfl (lv_at hl 0 rfl) ?_
      refine gfX6_102 B hT hW (by decide) mE_0 rfl dX6_children_10 ?_
      refine lv_goto (tgt := 17) hx hb dX6_children_13 (by decide) ?_
      exact e_i hQ B hr hlk hS hW dX6_children_17 (Nat.le_of_ble_eq_true rfl) (Nat.le_of_ble_eq_true rfl) (⟨fun _ => rfl, by rw [hk]; exact MW.mk⟩)
  · skip
    subst hr_
    have hW := hW.eq hE_
    refine lv_if_eq (tgt := 16) hx hb dX6_children_6 (by decide) (fun c_6 => ?_) (fun c_6 => ?_)
    · skip
      refine lv_iconst (v := 0) hx hb dX6_children_16 (by decide) ?_
      exact e_i hQ B hr hlk hS hW dX6_children_17 (Nat.le_of_ble_eq_true rfl) (Nat.le_of_ble_eq_true rfl) (⟨fun q => absurd q hk, MW.mk⟩)
    · exact absurd rfl c_6
set_option maxHeartbeats 4000000 in
set_option maxRecDepth 100000 in
theorem mm_incomeOf {l : Launch} {D : va_G} {tys : List (ClassId × FieldType)} {ad : Nat → Nat} (hI : aI ad 13) {cI cZ : ClassId} (th : Int32) (nP nH rN : Nat) (nf pn : Int32) (sp sk : Int64) (ag : Nat → Int32) (V T : Nat → Nat → Int32) (pd py : Nat → Nat → Int32) (du : Nat → Int32) (mA mC mH mG mS mI mT mP : Int32) (x dy : Int32) (so : Nat → Int32) (hti : tys[0]? = some (cI, .int)) (htz : tys[1]? = some (cZ, .boolean)) (hInv : Inv V T ag nP nH rN so pd)  (sz : Nat) : Met l yX6_incomeOf (Cond.code yX6_incomeOf cX6_incomeOf 3 (some .int) :: wsL_law) (rmk 6 0 0) (va_Pc [.ref (ad 0), .int x, .int dy] (PC D tys ad 13 (mE cI cZ ad th nP nH rN nf pn sp sk ag (RV V) (RV T) (FL pd) (FL py) du mA mC mH mG mS mI mT mP) sz)) (Qi D ad 13 (fun r E1 => (kAsk nH x dy = 0 → r = (cnt V ag (nI (ix x)) (ix dy) nP).2.2) ∧ MW cI cZ ad (kAsk nH x dy) V T ag nP nH rN nf pn sp sk py pd E1) (cA ad 13 sz)) 0 0 (cA ad 13 sz) := by
  refine cm_of (own := RX6) (Qc := Qi D ad 13 (fun r E1 => (kAsk nH x dy = 0 → r = (cnt V ag (nI (ix x)) (ix dy) nP).2.2) ∧ MW cI cZ ad (kAsk nH x dy) V T ag nP nH rN nf pn sp sk py pd E1)) rfl (by decide +kernel) (Nat.le_of_ble_eq_true rfl) ?_ sz
  intro p e s m args below meth c ls Q B hT hX hW hr hlk hnm hl hS hA hQ
  have hx := B.1
  have hb := B.2.1
  have hl : lv_has ls 3 [(0, .ref (ad 0)), (1, .int x), (2, .int dy)] := hl
  refine lv_aload_n hx hb dX6_incomeOf_0 rfl (lv_at hl 0 rfl) ?_
  refine lv_iload_n hx hb dX6_incomeOf_1 rfl (lv_at hl 1 rfl) ?_
  refine lv_iload_n hx hb dX6_incomeOf_2 rfl (lv_at hl 2 rfl) ?_
  refine b_ci (b_runV B hT hX hW hS (As := [.int x, .int dy]) (rest := []) (fun sz => mm_isAsked hI th nP nH rN nf pn sp sk ag V T pd py du mA mC mH mG mS mI mT mP x dy so hti htz hInv sz) (cwX6_171 B.2.2.2.2.1 ⟨Nat.le_of_ble_eq_true rfl, Nat.le_of_ble_eq_true rfl⟩) (b_recv B hW (by decide) mE_0 rfl) rfl hl.1 (Nat.le_of_ble_eq_true rfl) dX6_incomeOf_3 ⟨Nat.le_of_ble_eq_true rfl, Nat.le_of_ble_eq_true rfl⟩) hS (fun r_3 E1 H locs hp_3 hW hS => ?_)
  rcases hp_3 with ⟨hk, hr_, hE_⟩ | ⟨hk, hr_, hE_⟩
  · skip
    subst hr_
    have hW := hW.eq hE_
    refine lv_if_eq (tgt := 16) hx hb dX6_incomeOf_6 (by decide) (fun c_6 => ?_) (fun c_6 => ?_)
    · exact absurd c_6 (by decide)
    · skip
      refine lv_aload_n hx hb dX6_incomeOf_9 rfl (lv_at hl 0 rfl) ?_
      refine gfX6_105 B hT hW (by decide) mE_0 rfl dX6_incomeOf_10 ?_
      refine lv_goto (tgt := 17) hx hb dX6_incomeOf_13 (by decide) ?_
      exact e_i hQ B hr hlk hS hW dX6_incomeOf_17 (Nat.le_of_ble_eq_true rfl) (Nat.le_of_ble_eq_true rfl) (⟨fun _ => rfl, by rw [hk]; exact MW.mk⟩)
  · skip
    subst hr_
    have hW := hW.eq hE_
    refine lv_if_eq (tgt := 16) hx hb dX6_incomeOf_6 (by decide) (fun c_6 => ?_) (fun c_6 => ?_)
    · skip
      refine lv_iconst (v := 0) hx hb dX6_incomeOf_16 (by decide) ?_
      exact e_i hQ B hr hlk hS hW dX6_incomeOf_17 (Nat.le_of_ble_eq_true rfl) (Nat.le_of_ble_eq_true rfl) (⟨fun q => absurd q hk, MW.mk⟩)
    · exact absurd rfl c_6
set_option maxHeartbeats 4000000 in
set_option maxRecDepth 100000 in
theorem mm_adultAmount {l : Launch} {D : va_G} {tys : List (ClassId × FieldType)} {ad : Nat → Nat} (hI : aI ad 13) {cI cZ : ClassId} (th : Int32) (nP nH rN : Nat) (nf pn : Int32) (sp sk : Int64) (ag : Nat → Int32) (V T : Nat → Nat → Int32) (pd py : Nat → Nat → Int32) (du : Nat → Int32) (mA mC mH mG mS mI mT mP : Int32) (x dy : Int32) (so : Nat → Int32) (hti : tys[0]? = some (cI, .int)) (htz : tys[1]? = some (cZ, .boolean)) (hInv : Inv V T ag nP nH rN so pd)  (sz : Nat) : Met l yX6_adultAmount (Cond.code yX6_adultAmount cX6_adultAmount 3 (some .int) :: wsL_law) (rmk 6 0 0) (va_Pc [.ref (ad 0), .int x, .int dy] (PC D tys ad 13 (mE cI cZ ad th nP nH rN nf pn sp sk ag (RV V) (RV T) (FL pd) (FL py) du mA mC mH mG mS mI mT mP) sz)) (Qi D ad 13 (fun r E1 => (kAsk nH x dy = 0 → r = (amt V ag nP (ix x) (ix dy)).1) ∧ MW cI cZ ad (kAsk nH x dy) V T ag nP nH rN nf pn sp sk py pd E1) (cA ad 13 sz)) 0 0 (cA ad 13 sz) := by
  refine cm_of (own := RX6) (Qc := Qi D ad 13 (fun r E1 => (kAsk nH x dy = 0 → r = (amt V ag nP (ix x) (ix dy)).1) ∧ MW cI cZ ad (kAsk nH x dy) V T ag nP nH rN nf pn sp sk py pd E1)) rfl (by decide +kernel) (Nat.le_of_ble_eq_true rfl) ?_ sz
  intro p e s m args below meth c ls Q B hT hX hW hr hlk hnm hl hS hA hQ
  have hx := B.1
  have hb := B.2.1
  have hl : lv_has ls 3 [(0, .ref (ad 0)), (1, .int x), (2, .int dy)] := hl
  refine lv_aload_n hx hb dX6_adultAmount_0 rfl (lv_at hl 0 rfl) ?_
  refine lv_iload_n hx hb dX6_adultAmount_1 rfl (lv_at hl 1 rfl) ?_
  refine lv_iload_n hx hb dX6_adultAmount_2 rfl (lv_at hl 2 rfl) ?_
  refine b_ci (b_runV B hT hX hW hS (As := [.int x, .int dy]) (rest := []) (fun sz => mm_isAsked hI th nP nH rN nf pn sp sk ag V T pd py du mA mC mH mG mS mI mT mP x dy so hti htz hInv sz) (cwX6_171 B.2.2.2.2.1 ⟨Nat.le_of_ble_eq_true rfl, Nat.le_of_ble_eq_true rfl⟩) (b_recv B hW (by decide) mE_0 rfl) rfl hl.1 (Nat.le_of_ble_eq_true rfl) dX6_adultAmount_3 ⟨Nat.le_of_ble_eq_true rfl, Nat.le_of_ble_eq_true rfl⟩) hS (fun r_3 E1 H locs hp_3 hW hS => ?_)
  rcases hp_3 with ⟨hk, hr_, hE_⟩ | ⟨hk, hr_, hE_⟩
  · skip
    subst hr_
    have hW := hW.eq hE_
    refine lv_if_eq (tgt := 16) hx hb dX6_adultAmount_6 (by decide) (fun c_6 => ?_) (fun c_6 => ?_)
    · exact absurd c_6 (by decide)
    · skip
      refine lv_aload_n hx hb dX6_adultAmount_9 rfl (lv_at hl 0 rfl) ?_
      refine gfX6_118 B hT hW (by decide) mE_0 rfl dX6_adultAmount_10 ?_
      refine lv_goto (tgt := 17) hx hb dX6_adultAmount_13 (by decide) ?_
      exact e_i hQ B hr hlk hS hW dX6_adultAmount_17 (Nat.le_of_ble_eq_true rfl) (Nat.le_of_ble_eq_true rfl) (⟨fun _ => rfl, by rw [hk]; exact MW.mk⟩)
  · skip
    subst hr_
    have hW := hW.eq hE_
    refine lv_if_eq (tgt := 16) hx hb dX6_adultAmount_6 (by decide) (fun c_6 => ?_) (fun c_6 => ?_)
    · skip
      refine lv_iconst (v := 0) hx hb dX6_adultAmount_16 (by decide) ?_
      exact e_i hQ B hr hlk hS hW dX6_adultAmount_17 (Nat.le_of_ble_eq_true rfl) (Nat.le_of_ble_eq_true rfl) (⟨fun q => absurd q hk, MW.mk⟩)
    · exact absurd rfl c_6
set_option maxHeartbeats 4000000 in
set_option maxRecDepth 100000 in
theorem mm_childAmount {l : Launch} {D : va_G} {tys : List (ClassId × FieldType)} {ad : Nat → Nat} (hI : aI ad 13) {cI cZ : ClassId} (th : Int32) (nP nH rN : Nat) (nf pn : Int32) (sp sk : Int64) (ag : Nat → Int32) (V T : Nat → Nat → Int32) (pd py : Nat → Nat → Int32) (du : Nat → Int32) (mA mC mH mG mS mI mT mP : Int32) (x dy : Int32) (so : Nat → Int32) (hti : tys[0]? = some (cI, .int)) (htz : tys[1]? = some (cZ, .boolean)) (hInv : Inv V T ag nP nH rN so pd)  (sz : Nat) : Met l yX6_childAmount (Cond.code yX6_childAmount cX6_childAmount 3 (some .int) :: wsL_law) (rmk 6 0 0) (va_Pc [.ref (ad 0), .int x, .int dy] (PC D tys ad 13 (mE cI cZ ad th nP nH rN nf pn sp sk ag (RV V) (RV T) (FL pd) (FL py) du mA mC mH mG mS mI mT mP) sz)) (Qi D ad 13 (fun r E1 => (kAsk nH x dy = 0 → r = (amt V ag nP (ix x) (ix dy)).2.1) ∧ MW cI cZ ad (kAsk nH x dy) V T ag nP nH rN nf pn sp sk py pd E1) (cA ad 13 sz)) 0 0 (cA ad 13 sz) := by
  refine cm_of (own := RX6) (Qc := Qi D ad 13 (fun r E1 => (kAsk nH x dy = 0 → r = (amt V ag nP (ix x) (ix dy)).2.1) ∧ MW cI cZ ad (kAsk nH x dy) V T ag nP nH rN nf pn sp sk py pd E1)) rfl (by decide +kernel) (Nat.le_of_ble_eq_true rfl) ?_ sz
  intro p e s m args below meth c ls Q B hT hX hW hr hlk hnm hl hS hA hQ
  have hx := B.1
  have hb := B.2.1
  have hl : lv_has ls 3 [(0, .ref (ad 0)), (1, .int x), (2, .int dy)] := hl
  refine lv_aload_n hx hb dX6_childAmount_0 rfl (lv_at hl 0 rfl) ?_
  refine lv_iload_n hx hb dX6_childAmount_1 rfl (lv_at hl 1 rfl) ?_
  refine lv_iload_n hx hb dX6_childAmount_2 rfl (lv_at hl 2 rfl) ?_
  refine b_ci (b_runV B hT hX hW hS (As := [.int x, .int dy]) (rest := []) (fun sz => mm_isAsked hI th nP nH rN nf pn sp sk ag V T pd py du mA mC mH mG mS mI mT mP x dy so hti htz hInv sz) (cwX6_171 B.2.2.2.2.1 ⟨Nat.le_of_ble_eq_true rfl, Nat.le_of_ble_eq_true rfl⟩) (b_recv B hW (by decide) mE_0 rfl) rfl hl.1 (Nat.le_of_ble_eq_true rfl) dX6_childAmount_3 ⟨Nat.le_of_ble_eq_true rfl, Nat.le_of_ble_eq_true rfl⟩) hS (fun r_3 E1 H locs hp_3 hW hS => ?_)
  rcases hp_3 with ⟨hk, hr_, hE_⟩ | ⟨hk, hr_, hE_⟩
  · skip
    subst hr_
    have hW := hW.eq hE_
    refine lv_if_eq (tgt := 16) hx hb dX6_childAmount_6 (by decide) (fun c_6 => ?_) (fun c_6 => ?_)
    · exact absurd c_6 (by decide)
    · skip
      refine lv_aload_n hx hb dX6_childAmount_9 rfl (lv_at hl 0 rfl) ?_
      refine gfX6_125 B hT hW (by decide) mE_0 rfl dX6_childAmount_10 ?_
      refine lv_goto (tgt := 17) hx hb dX6_childAmount_13 (by decide) ?_
      exact e_i hQ B hr hlk hS hW dX6_childAmount_17 (Nat.le_of_ble_eq_true rfl) (Nat.le_of_ble_eq_true rfl) (⟨fun _ => rfl, by rw [hk]; exact MW.mk⟩)
  · skip
    subst hr_
    have hW := hW.eq hE_
    refine lv_if_eq (tgt := 16) hx hb dX6_childAmount_6 (by decide) (fun c_6 => ?_) (fun c_6 => ?_)
    · skip
      refine lv_iconst (v := 0) hx hb dX6_childAmount_16 (by decide) ?_
      exact e_i hQ B hr hlk hS hW dX6_childAmount_17 (Nat.le_of_ble_eq_true rfl) (Nat.le_of_ble_eq_true rfl) (⟨fun q => absurd q hk, MW.mk⟩)
    · exact absurd rfl c_6
set_option maxHeartbeats 4000000 in
set_option maxRecDepth 100000 in
theorem mm_housingAmount {l : Launch} {D : va_G} {tys : List (ClassId × FieldType)} {ad : Nat → Nat} (hI : aI ad 13) {cI cZ : ClassId} (th : Int32) (nP nH rN : Nat) (nf pn : Int32) (sp sk : Int64) (ag : Nat → Int32) (V T : Nat → Nat → Int32) (pd py : Nat → Nat → Int32) (du : Nat → Int32) (mA mC mH mG mS mI mT mP : Int32) (x dy : Int32) (so : Nat → Int32) (hti : tys[0]? = some (cI, .int)) (htz : tys[1]? = some (cZ, .boolean)) (hInv : Inv V T ag nP nH rN so pd)  (sz : Nat) : Met l yX6_housingAmount (Cond.code yX6_housingAmount cX6_housingAmount 3 (some .int) :: wsL_law) (rmk 6 0 0) (va_Pc [.ref (ad 0), .int x, .int dy] (PC D tys ad 13 (mE cI cZ ad th nP nH rN nf pn sp sk ag (RV V) (RV T) (FL pd) (FL py) du mA mC mH mG mS mI mT mP) sz)) (Qi D ad 13 (fun r E1 => (kAsk nH x dy = 0 → r = (amt V ag nP (ix x) (ix dy)).2.2.1) ∧ MW cI cZ ad (kAsk nH x dy) V T ag nP nH rN nf pn sp sk py pd E1) (cA ad 13 sz)) 0 0 (cA ad 13 sz) := by
  refine cm_of (own := RX6) (Qc := Qi D ad 13 (fun r E1 => (kAsk nH x dy = 0 → r = (amt V ag nP (ix x) (ix dy)).2.2.1) ∧ MW cI cZ ad (kAsk nH x dy) V T ag nP nH rN nf pn sp sk py pd E1)) rfl (by decide +kernel) (Nat.le_of_ble_eq_true rfl) ?_ sz
  intro p e s m args below meth c ls Q B hT hX hW hr hlk hnm hl hS hA hQ
  have hx := B.1
  have hb := B.2.1
  have hl : lv_has ls 3 [(0, .ref (ad 0)), (1, .int x), (2, .int dy)] := hl
  refine lv_aload_n hx hb dX6_housingAmount_0 rfl (lv_at hl 0 rfl) ?_
  refine lv_iload_n hx hb dX6_housingAmount_1 rfl (lv_at hl 1 rfl) ?_
  refine lv_iload_n hx hb dX6_housingAmount_2 rfl (lv_at hl 2 rfl) ?_
  refine b_ci (b_runV B hT hX hW hS (As := [.int x, .int dy]) (rest := []) (fun sz => mm_isAsked hI th nP nH rN nf pn sp sk ag V T pd py du mA mC mH mG mS mI mT mP x dy so hti htz hInv sz) (cwX6_171 B.2.2.2.2.1 ⟨Nat.le_of_ble_eq_true rfl, Nat.le_of_ble_eq_true rfl⟩) (b_recv B hW (by decide) mE_0 rfl) rfl hl.1 (Nat.le_of_ble_eq_true rfl) dX6_housingAmount_3 ⟨Nat.le_of_ble_eq_true rfl, Nat.le_of_ble_eq_true rfl⟩) hS (fun r_3 E1 H locs hp_3 hW hS => ?_)
  rcases hp_3 with ⟨hk, hr_, hE_⟩ | ⟨hk, hr_, hE_⟩
  · skip
    subst hr_
    have hW := hW.eq hE_
    refine lv_if_eq (tgt := 16) hx hb dX6_housingAmount_6 (by decide) (fun c_6 => ?_) (fun c_6 => ?_)
    · exact absurd c_6 (by decide)
    · skip
      refine lv_aload_n hx hb dX6_housingAmount_9 rfl (lv_at hl 0 rfl) ?_
      refine gfX6_112 B hT hW (by decide) mE_0 rfl dX6_housingAmount_10 ?_
      refine lv_goto (tgt := 17) hx hb dX6_housingAmount_13 (by decide) ?_
      exact e_i hQ B hr hlk hS hW dX6_housingAmount_17 (Nat.le_of_ble_eq_true rfl) (Nat.le_of_ble_eq_true rfl) (⟨fun _ => rfl, by rw [hk]; exact MW.mk⟩)
  · skip
    subst hr_
    have hW := hW.eq hE_
    refine lv_if_eq (tgt := 16) hx hb dX6_housingAmount_6 (by decide) (fun c_6 => ?_) (fun c_6 => ?_)
    · skip
      refine lv_iconst (v := 0) hx hb dX6_housingAmount_16 (by decide) ?_
      exact e_i hQ B hr hlk hS hW dX6_housingAmount_17 (Nat.le_of_ble_eq_true rfl) (Nat.le_of_ble_eq_true rfl) (⟨fun q => absurd q hk, MW.mk⟩)
    · exact absurd rfl c_6
set_option maxHeartbeats 4000000 in
set_option maxRecDepth 100000 in
theorem mm_reason {l : Launch} {D : va_G} {tys : List (ClassId × FieldType)} {ad : Nat → Nat} (hI : aI ad 13) {cI cZ : ClassId} (th : Int32) (nP nH rN : Nat) (nf pn : Int32) (sp sk : Int64) (ag : Nat → Int32) (V T : Nat → Nat → Int32) (pd py : Nat → Nat → Int32) (du : Nat → Int32) (mA mC mH mG mS mI mT mP : Int32) (x dy : Int32) (so : Nat → Int32) (hti : tys[0]? = some (cI, .int)) (htz : tys[1]? = some (cZ, .boolean)) (hInv : Inv V T ag nP nH rN so pd)  (sz : Nat) : Met l yX6_reason (Cond.code yX6_reason cX6_reason 3 (some .char) :: wsL_law) (rmk 6 0 0) (va_Pc [.ref (ad 0), .int x, .int dy] (PC D tys ad 13 (mE cI cZ ad th nP nH rN nf pn sp sk ag (RV V) (RV T) (FL pd) (FL py) du mA mC mH mG mS mI mT mP) sz)) (Qi D ad 13 (fun r E1 => (kAsk nH x dy = 0 → r = rsn (cnt V ag (nI (ix x)) (ix dy) nP).1 (amt V ag nP (ix x) (ix dy)).2.2.2.1 (amt V ag nP (ix x) (ix dy)).2.2.2.2) ∧ MW cI cZ ad (kAsk nH x dy) V T ag nP nH rN nf pn sp sk py pd E1) (cA ad 13 sz)) 0 0 (cA ad 13 sz) := by
  refine cm_of (own := RX6) (Qc := Qi D ad 13 (fun r E1 => (kAsk nH x dy = 0 → r = rsn (cnt V ag (nI (ix x)) (ix dy) nP).1 (amt V ag nP (ix x) (ix dy)).2.2.2.1 (amt V ag nP (ix x) (ix dy)).2.2.2.2) ∧ MW cI cZ ad (kAsk nH x dy) V T ag nP nH rN nf pn sp sk py pd E1)) rfl (by decide +kernel) (Nat.le_of_ble_eq_true rfl) ?_ sz
  intro p e s m args below meth c ls Q B hT hX hW hr hlk hnm hl hS hA hQ
  have hx := B.1
  have hb := B.2.1
  have hl : lv_has ls 3 [(0, .ref (ad 0)), (1, .int x), (2, .int dy)] := hl
  refine lv_aload_n hx hb dX6_reason_0 rfl (lv_at hl 0 rfl) ?_
  refine lv_iload_n hx hb dX6_reason_1 rfl (lv_at hl 1 rfl) ?_
  refine lv_iload_n hx hb dX6_reason_2 rfl (lv_at hl 2 rfl) ?_
  refine b_ci (b_runV B hT hX hW hS (As := [.int x, .int dy]) (rest := []) (fun sz => mm_isAsked hI th nP nH rN nf pn sp sk ag V T pd py du mA mC mH mG mS mI mT mP x dy so hti htz hInv sz) (cwX6_171 B.2.2.2.2.1 ⟨Nat.le_of_ble_eq_true rfl, Nat.le_of_ble_eq_true rfl⟩) (b_recv B hW (by decide) mE_0 rfl) rfl hl.1 (Nat.le_of_ble_eq_true rfl) dX6_reason_3 ⟨Nat.le_of_ble_eq_true rfl, Nat.le_of_ble_eq_true rfl⟩) hS (fun r_3 E1 H locs hp_3 hW hS => ?_)
  rcases hp_3 with ⟨hk, hr_, hE_⟩ | ⟨hk, hr_, hE_⟩
  · skip
    subst hr_
    have hW := hW.eq hE_
    refine lv_if_ne (tgt := 11) hx hb dX6_reason_6 (by decide) (fun c_6 => ?_) (fun c_6 => ?_)
    · skip
      refine lv_aload_n hx hb dX6_reason_11 rfl (lv_at hl 0 rfl) ?_
      refine gfX6_99 B hT hW (by decide) mE_0 rfl dX6_reason_12 ?_
      refine lv_if_ne (tgt := 23) hx hb dX6_reason_15 (by decide) (fun c_15 => ?_) (fun c_15 => ?_)
      · skip
        refine lv_aload_n hx hb dX6_reason_23 rfl (lv_at hl 0 rfl) ?_
        refine gfX6_121 B hT hW (by decide) mE_0 rfl dX6_reason_24 ?_
        refine lv_if_eq (tgt := 47) hx hb dX6_reason_27 (by decide) (fun c_27 => ?_) (fun c_27 => ?_)
        · skip
          refine lv_aload_n hx hb dX6_reason_47 rfl (lv_at hl 0 rfl) ?_
          refine gfX6_128 B hT hW (by decide) mE_0 rfl dX6_reason_48 ?_
          refine lv_if_eq (tgt := 59) hx hb dX6_reason_51 (by decide) (fun c_51 => ?_) (fun c_51 => ?_)
          · skip
            refine lv_bipush (v := 102) hx hb dX6_reason_59 (by decide) ?_
            exact e_n hQ B hr hlk hS (by first | rfl | decide) hW dX6_reason_61 (Nat.le_of_ble_eq_true rfl) (Nat.le_of_ble_eq_true rfl) (⟨fun _ => by unfold rsn; rw [if_neg c_15, if_pos c_27, if_pos c_51], by rw [hk]; exact MW.mk⟩)
          · skip
            refine lv_bipush (v := 109) hx hb dX6_reason_54 (by decide) ?_
            refine lv_goto (tgt := 61) hx hb dX6_reason_56 (by decide) ?_
            exact e_n hQ B hr hlk hS (by first | rfl | decide) hW dX6_reason_61 (Nat.le_of_ble_eq_true rfl) (Nat.le_of_ble_eq_true rfl) (⟨fun _ => by unfold rsn; rw [if_neg c_15, if_pos c_27, if_neg c_51], by rw [hk]; exact MW.mk⟩)
        · skip
          refine lv_aload_n hx hb dX6_reason_30 rfl (lv_at hl 0 rfl) ?_
          refine gfX6_128 B hT hW (by decide) mE_0 rfl dX6_reason_31 ?_
          refine lv_if_eq (tgt := 42) hx hb dX6_reason_34 (by decide) (fun c_34 => ?_) (fun c_34 => ?_)
          · skip
            refine lv_bipush (v := 116) hx hb dX6_reason_42 (by decide) ?_
            refine lv_goto (tgt := 61) hx hb dX6_reason_44 (by decide) ?_
            exact e_n hQ B hr hlk hS (by first | rfl | decide) hW dX6_reason_61 (Nat.le_of_ble_eq_true rfl) (Nat.le_of_ble_eq_true rfl) (⟨fun _ => by unfold rsn; rw [if_neg c_15, if_neg c_27, if_pos c_34], by rw [hk]; exact MW.mk⟩)
          · skip
            refine lv_bipush (v := 98) hx hb dX6_reason_37 (by decide) ?_
            refine lv_goto (tgt := 61) hx hb dX6_reason_39 (by decide) ?_
            exact e_n hQ B hr hlk hS (by first | rfl | decide) hW dX6_reason_61 (Nat.le_of_ble_eq_true rfl) (Nat.le_of_ble_eq_true rfl) (⟨fun _ => by unfold rsn; rw [if_neg c_15, if_neg c_27, if_neg c_34], by rw [hk]; exact MW.mk⟩)
      · skip
        refine lv_bipush (v := 110) hx hb dX6_reason_18 (by decide) ?_
        refine lv_goto (tgt := 61) hx hb dX6_reason_20 (by decide) ?_
        exact e_n hQ B hr hlk hS (by first | rfl | decide) hW dX6_reason_61 (Nat.le_of_ble_eq_true rfl) (Nat.le_of_ble_eq_true rfl) (⟨fun _ => by unfold rsn; rw [if_pos c_15], by rw [hk]; exact MW.mk⟩)
    · exact absurd c_6 (by decide)
  · skip
    subst hr_
    have hW := hW.eq hE_
    refine lv_if_ne (tgt := 11) hx hb dX6_reason_6 (by decide) (fun c_6 => ?_) (fun c_6 => ?_)
    · exact absurd rfl c_6
    · skip
      refine lv_iconst (v := 0) hx hb dX6_reason_9 (by decide) ?_
      exact e_n hQ B hr hlk hS (by first | rfl | decide) hW dX6_reason_10 (Nat.le_of_ble_eq_true rfl) (Nat.le_of_ble_eq_true rfl) (⟨fun q => absurd q hk, MW.mk⟩)
set_option maxHeartbeats 4000000 in
set_option maxRecDepth 100000 in
theorem mm_paidMonths {l : Launch} {D : va_G} {tys : List (ClassId × FieldType)} {ad : Nat → Nat} (hI : aI ad 13) {cI cZ : ClassId} (th : Int32) (nP nH rN : Nat) (nf pn : Int32) (sp sk : Int64) (ag : Nat → Int32) (V T : Nat → Nat → Int32) (pd py : Nat → Nat → Int32) (du : Nat → Int32) (mA mC mH mG mS mI mT mP : Int32) (hti : tys[0]? = some (cI, .int)) (htz : tys[1]? = some (cZ, .boolean))  (sz : Nat) : Met l yX6_paidMonths (Cond.code yX6_paidMonths cX6_paidMonths 1 (some .int) :: wsL_law) (rmk 6 0 0) (va_Pc [.ref (ad 0)] (PC D tys ad 13 (mE cI cZ ad th nP nH rN nf pn sp sk ag (RV V) (RV T) (FL pd) (FL py) du mA mC mH mG mS mI mT mP) sz)) (Qi D ad 13 (fun r E1 => r = nI rN ∧ MW cI cZ ad 0 V T ag nP nH rN nf pn sp sk py pd E1) (cA ad 13 sz)) 0 0 (cA ad 13 sz) := by
  refine cm_of (own := RX6) (Qc := Qi D ad 13 (fun r E1 => r = nI rN ∧ MW cI cZ ad 0 V T ag nP nH rN nf pn sp sk py pd E1)) rfl (by decide +kernel) (Nat.le_of_ble_eq_true rfl) ?_ sz
  intro p e s m args below meth c ls Q B hT hX hW hr hlk hnm hl hS hA hQ
  have hx := B.1
  have hb := B.2.1
  have hl : lv_has ls 1 [(0, .ref (ad 0))] := hl
  refine lv_aload_n hx hb dX6_paidMonths_0 rfl (lv_at hl 0 rfl) ?_
  refine lv_iconst (v := 0) hx hb dX6_paidMonths_1 (by decide) ?_
  refine pfX6_55 B hT hI hA hW hS (by decide) mE_0 (Nat.le_of_ble_eq_true rfl) rfl (by first | rfl | decide) dX6_paidMonths_2 (fun H locs hW hS => ?_)
  have hW := hW.eq (E' := mE cI cZ ad 0 nP nH rN nf pn sp sk ag (RV V) (RV T) (FL pd) (FL py) du mA mC mH mG mS mI mT mP) (mE_u0 _ _ _ _ _ _ _ _ _ _ _ _ _ _ _ _)
  refine lv_aload_n hx hb dX6_paidMonths_5 rfl (lv_at hl 0 rfl) ?_
  refine gfX6_145 B hT hW (by decide) mE_0 rfl dX6_paidMonths_6 ?_
  exact e_i hQ B hr hlk hS hW dX6_paidMonths_9 (Nat.le_of_ble_eq_true rfl) (Nat.le_of_ble_eq_true rfl) (⟨rfl, MW.mk⟩)
set_option maxHeartbeats 4000000 in
set_option maxRecDepth 100000 in
theorem mm_totalPaid {l : Launch} {D : va_G} {tys : List (ClassId × FieldType)} {ad : Nat → Nat} (hI : aI ad 13) {cI cZ : ClassId} (th : Int32) (nP nH rN : Nat) (nf pn : Int32) (sp sk : Int64) (ag : Nat → Int32) (V T : Nat → Nat → Int32) (pd py : Nat → Nat → Int32) (du : Nat → Int32) (mA mC mH mG mS mI mT mP : Int32) (hti : tys[0]? = some (cI, .int)) (htz : tys[1]? = some (cZ, .boolean))  (sz : Nat) : Met l yX6_totalPaid (Cond.code yX6_totalPaid cX6_totalPaid 1 (some .long) :: wsL_law) (rmk 6 0 0) (va_Pc [.ref (ad 0)] (PC D tys ad 13 (mE cI cZ ad th nP nH rN nf pn sp sk ag (RV V) (RV T) (FL pd) (FL py) du mA mC mH mG mS mI mT mP) sz)) (Ql D ad 13 (fun r E1 => r = sp ∧ MW cI cZ ad 0 V T ag nP nH rN nf pn sp sk py pd E1) (cA ad 13 sz)) 0 0 (cA ad 13 sz) := by
  refine cm_of (own := RX6) (Qc := Ql D ad 13 (fun r E1 => r = sp ∧ MW cI cZ ad 0 V T ag nP nH rN nf pn sp sk py pd E1)) rfl (by decide +kernel) (Nat.le_of_ble_eq_true rfl) ?_ sz
  intro p e s m args below meth c ls Q B hT hX hW hr hlk hnm hl hS hA hQ
  have hx := B.1
  have hb := B.2.1
  have hl : lv_has ls 1 [(0, .ref (ad 0))] := hl
  refine lv_aload_n hx hb dX6_totalPaid_0 rfl (lv_at hl 0 rfl) ?_
  refine lv_iconst (v := 0) hx hb dX6_totalPaid_1 (by decide) ?_
  refine pfX6_55 B hT hI hA hW hS (by decide) mE_0 (Nat.le_of_ble_eq_true rfl) rfl (by first | rfl | decide) dX6_totalPaid_2 (fun H locs hW hS => ?_)
  have hW := hW.eq (E' := mE cI cZ ad 0 nP nH rN nf pn sp sk ag (RV V) (RV T) (FL pd) (FL py) du mA mC mH mG mS mI mT mP) (mE_u0 _ _ _ _ _ _ _ _ _ _ _ _ _ _ _ _)
  refine lv_aload_n hx hb dX6_totalPaid_5 rfl (lv_at hl 0 rfl) ?_
  refine gfX6_161 B hT hW (by decide) mE_0 rfl dX6_totalPaid_6 ?_
  exact e_l hQ B hr hlk hS hW dX6_totalPaid_9 (Nat.le_of_ble_eq_true rfl) (Nat.le_of_ble_eq_true rfl) (⟨rfl, MW.mk⟩)
set_option maxHeartbeats 4000000 in
set_option maxRecDepth 100000 in
theorem mm_keptBack {l : Launch} {D : va_G} {tys : List (ClassId × FieldType)} {ad : Nat → Nat} (hI : aI ad 13) {cI cZ : ClassId} (th : Int32) (nP nH rN : Nat) (nf pn : Int32) (sp sk : Int64) (ag : Nat → Int32) (V T : Nat → Nat → Int32) (pd py : Nat → Nat → Int32) (du : Nat → Int32) (mA mC mH mG mS mI mT mP : Int32) (hti : tys[0]? = some (cI, .int)) (htz : tys[1]? = some (cZ, .boolean))  (sz : Nat) : Met l yX6_keptBack (Cond.code yX6_keptBack cX6_keptBack 1 (some .long) :: wsL_law) (rmk 6 0 0) (va_Pc [.ref (ad 0)] (PC D tys ad 13 (mE cI cZ ad th nP nH rN nf pn sp sk ag (RV V) (RV T) (FL pd) (FL py) du mA mC mH mG mS mI mT mP) sz)) (Ql D ad 13 (fun r E1 => r = sk ∧ MW cI cZ ad 0 V T ag nP nH rN nf pn sp sk py pd E1) (cA ad 13 sz)) 0 0 (cA ad 13 sz) := by
  refine cm_of (own := RX6) (Qc := Ql D ad 13 (fun r E1 => r = sk ∧ MW cI cZ ad 0 V T ag nP nH rN nf pn sp sk py pd E1)) rfl (by decide +kernel) (Nat.le_of_ble_eq_true rfl) ?_ sz
  intro p e s m args below meth c ls Q B hT hX hW hr hlk hnm hl hS hA hQ
  have hx := B.1
  have hb := B.2.1
  have hl : lv_has ls 1 [(0, .ref (ad 0))] := hl
  refine lv_aload_n hx hb dX6_keptBack_0 rfl (lv_at hl 0 rfl) ?_
  refine lv_iconst (v := 0) hx hb dX6_keptBack_1 (by decide) ?_
  refine pfX6_55 B hT hI hA hW hS (by decide) mE_0 (Nat.le_of_ble_eq_true rfl) rfl (by first | rfl | decide) dX6_keptBack_2 (fun H locs hW hS => ?_)
  have hW := hW.eq (E' := mE cI cZ ad 0 nP nH rN nf pn sp sk ag (RV V) (RV T) (FL pd) (FL py) du mA mC mH mG mS mI mT mP) (mE_u0 _ _ _ _ _ _ _ _ _ _ _ _ _ _ _ _)
  refine lv_aload_n hx hb dX6_keptBack_5 rfl (lv_at hl 0 rfl) ?_
  refine gfX6_151 B hT hW (by decide) mE_0 rfl dX6_keptBack_6 ?_
  exact e_l hQ B hr hlk hS hW dX6_keptBack_9 (Nat.le_of_ble_eq_true rfl) (Nat.le_of_ble_eq_true rfl) (⟨rfl, MW.mk⟩)
set_option maxHeartbeats 4000000 in
set_option maxRecDepth 100000 in
theorem mm_facts {l : Launch} {D : va_G} {tys : List (ClassId × FieldType)} {ad : Nat → Nat} (hI : aI ad 13) {cI cZ : ClassId} (th : Int32) (nP nH rN : Nat) (nf pn : Int32) (sp sk : Int64) (ag : Nat → Int32) (V T : Nat → Nat → Int32) (pd py : Nat → Nat → Int32) (du : Nat → Int32) (mA mC mH mG mS mI mT mP : Int32) (hti : tys[0]? = some (cI, .int)) (htz : tys[1]? = some (cZ, .boolean))  (sz : Nat) : Met l yX6_facts (Cond.code yX6_facts cX6_facts 1 (some .int) :: wsL_law) (rmk 6 0 0) (va_Pc [.ref (ad 0)] (PC D tys ad 13 (mE cI cZ ad th nP nH rN nf pn sp sk ag (RV V) (RV T) (FL pd) (FL py) du mA mC mH mG mS mI mT mP) sz)) (Qi D ad 13 (fun r E1 => r = nf ∧ MW cI cZ ad 0 V T ag nP nH rN nf pn sp sk py pd E1) (cA ad 13 sz)) 0 0 (cA ad 13 sz) := by
  refine cm_of (own := RX6) (Qc := Qi D ad 13 (fun r E1 => r = nf ∧ MW cI cZ ad 0 V T ag nP nH rN nf pn sp sk py pd E1)) rfl (by decide +kernel) (Nat.le_of_ble_eq_true rfl) ?_ sz
  intro p e s m args below meth c ls Q B hT hX hW hr hlk hnm hl hS hA hQ
  have hx := B.1
  have hb := B.2.1
  have hl : lv_has ls 1 [(0, .ref (ad 0))] := hl
  refine lv_aload_n hx hb dX6_facts_0 rfl (lv_at hl 0 rfl) ?_
  refine lv_iconst (v := 0) hx hb dX6_facts_1 (by decide) ?_
  refine pfX6_55 B hT hI hA hW hS (by decide) mE_0 (Nat.le_of_ble_eq_true rfl) rfl (by first | rfl | decide) dX6_facts_2 (fun H locs hW hS => ?_)
  have hW := hW.eq (E' := mE cI cZ ad 0 nP nH rN nf pn sp sk ag (RV V) (RV T) (FL pd) (FL py) du mA mC mH mG mS mI mT mP) (mE_u0 _ _ _ _ _ _ _ _ _ _ _ _ _ _ _ _)
  refine lv_aload_n hx hb dX6_facts_5 rfl (lv_at hl 0 rfl) ?_
  refine gfX6_7 B hT hW (by decide) mE_0 rfl dX6_facts_6 ?_
  exact e_i hQ B hr hlk hS hW dX6_facts_9 (Nat.le_of_ble_eq_true rfl) (Nat.le_of_ble_eq_true rfl) (⟨rfl, MW.mk⟩)
set_option maxHeartbeats 4000000 in
set_option maxRecDepth 100000 in
theorem mm_payment {l : Launch} {D : va_G} {tys : List (ClassId × FieldType)} {ad : Nat → Nat} (hI : aI ad 13) {cI cZ : ClassId} (th : Int32) (nP nH rN : Nat) (nf pn : Int32) (sp sk : Int64) (ag : Nat → Int32) (V T : Nat → Nat → Int32) (pd py : Nat → Nat → Int32) (du : Nat → Int32) (mA mC mH mG mS mI mT mP : Int32) (x y : Int32) (so : Nat → Int32) (hti : tys[0]? = some (cI, .int)) (htz : tys[1]? = some (cZ, .boolean)) (hInv : Inv V T ag nP nH rN so pd)  (sz : Nat) : Met l yX6_payment (Cond.code yX6_payment cX6_payment 3 (some .int) :: wsL_law) (rmk 6 0 0) (va_Pc [.ref (ad 0), .int x, .int y] (PC D tys ad 13 (mE cI cZ ad th nP nH rN nf pn sp sk ag (RV V) (RV T) (FL pd) (FL py) du mA mC mH mG mS mI mT mP) sz)) (Qi D ad 13 (fun r E1 => (kPaym nH rN x y = 0 → r = py (ix x) (ix y)) ∧ MW cI cZ ad (kPaym nH rN x y) V T ag nP nH rN nf pn sp sk py pd E1) (cA ad 13 sz)) 0 0 (cA ad 13 sz) := by
  refine cm_of (own := RX6) (Qc := Qi D ad 13 (fun r E1 => (kPaym nH rN x y = 0 → r = py (ix x) (ix y)) ∧ MW cI cZ ad (kPaym nH rN x y) V T ag nP nH rN nf pn sp sk py pd E1)) rfl (by decide +kernel) (Nat.le_of_ble_eq_true rfl) ?_ sz
  intro p e s m args below meth c ls Q B hT hX hW hr hlk hnm hl hS hA hQ
  have hx := B.1
  have hb := B.2.1
  have hl : lv_has ls 3 [(0, .ref (ad 0)), (1, .int x), (2, .int y)] := hl
  obtain ⟨⟨hP8, hH4, hR12⟩, hTb, -, hso, -, -, hpd⟩ := id hInv
  refine lv_aload_n hx hb dX6_payment_0 rfl (lv_at hl 0 rfl) ?_
  refine lv_iload_n hx hb dX6_payment_1 rfl (lv_at hl 1 rfl) ?_
  refine lv_iload_n hx hb dX6_payment_2 rfl (lv_at hl 2 rfl) ?_
  refine b_ci (b_runV B hT hX hW hS (As := [.int x, .int y]) (rest := []) (fun sz => mm_isMonthOf hI th nP nH rN nf pn sp sk ag V T pd py du mA mC mH mG mS mI mT mP x y hti htz (by omega) sz) (cwX6_164 B.2.2.2.2.1 ⟨Nat.le_of_ble_eq_true rfl, Nat.le_of_ble_eq_true rfl⟩) (b_recv B hW (by decide) mE_0 rfl) rfl hl.1 (Nat.le_of_ble_eq_true rfl) dX6_payment_3 ⟨Nat.le_of_ble_eq_true rfl, Nat.le_of_ble_eq_true rfl⟩) hS (fun r_3 E1 H locs hp_3 hW hS => ?_)
  obtain ⟨hr_, hE_⟩ := hp_3
  subst hr_
  have hW := hW.eq hE_
  refine lv_if_ne (tgt := 15) hx hb dX6_payment_6 (by decide) (fun c_6 => ?_) (fun c_6 => ?_)
  · skip
    refine lv_iload_n hx hb dX6_payment_15 rfl (lv_at hl 2 rfl) ?_
    refine lv_aload_n hx hb dX6_payment_16 rfl (lv_at hl 0 rfl) ?_
    refine gfX6_145 B hT hW (by decide) mE_0 rfl dX6_payment_17 ?_
    refine lv_icmp_lt (tgt := 29) hx hb dX6_payment_20 (by decide) (fun c_20 => ?_) (fun c_20 => ?_)
    · skip
      have cc9 := c10_t c_6
      obtain ⟨i, hi, rfl⟩ := vp_in_of cc9.1 (by omega)
      obtain ⟨mo, hmo, rfl⟩ := vp_in_of cc9.2 (by omega)
      have ei : ix (nI i) = i := nI_clamp (by omega)
      have em : ix (nI mo) = mo := nI_clamp (by omega)
      refine lv_aload_n hx hb dX6_payment_29 rfl (lv_at hl 0 rfl) ?_
      refine lv_iconst (v := 0) hx hb dX6_payment_30 (by decide) ?_
      refine pfX6_55 B hT hI hA hW hS (by decide) mE_0 (Nat.le_of_ble_eq_true rfl) rfl (by first | rfl | decide) dX6_payment_31 (fun H locs hW hS => ?_)
      have hW := hW.eq (E' := mE cI cZ ad 0 nP nH rN nf pn sp sk ag (RV V) (RV T) (FL pd) (FL py) du mA mC mH mG mS mI mT mP) (mE_u0 _ _ _ _ _ _ _ _ _ _ _ _ _ _ _ _)
      refine lv_aload_n hx hb dX6_payment_34 rfl (lv_at hl 0 rfl) ?_
      refine gfX6_45 B hT hW (by decide) mE_0 rfl dX6_payment_35 ?_
      refine lv_bipush (v := (nI 12)) hx hb dX6_payment_38 (by decide) ?_
      refine lv_iload_n hx hb dX6_payment_40 rfl (lv_at hl 1 rfl) ?_
      refine lv_imul hx hb dX6_payment_41 ?_
      refine b_top (y := nI (12 * i)) (pk_mul _ _) ?_
      refine lv_iload_n hx hb dX6_payment_42 rfl (lv_at hl 2 rfl) ?_
      refine lv_iadd hx hb dX6_payment_43 ?_
      refine b_top (y := nI (12 * i + mo)) (nI_add _ _) ?_
      refine b_iald B hW hti (j := (12 * i + mo)) (by decide) mE_11 (vp_in_nI (by omega) (Nat.le_of_ble_eq_true rfl)) (nI_clamp (by omega)) dX6_payment_44 ?_
      refine b_top (y := py i mo) (FL_at (by omega) (by omega)) ?_
      exact e_i hQ B hr hlk hS hW dX6_payment_45 (Nat.le_of_ble_eq_true rfl) (Nat.le_of_ble_eq_true rfl) (by have hk : kPaym nH rN (nI i) (nI mo) = 0 := (by unfold kPaym; rw [cif_t ⟨vp_in_nI hi (by omega), vp_in_nI hmo (by omega)⟩, cif_t (vp_in_nI ((nI_ltI (by omega) (by omega)).mp c_20) (by omega))]); exact ⟨fun _ => (by rw [ei, em]), by rw [hk]; exact MW.mk⟩)
    · skip
      refine lv_aload_n hx hb dX6_payment_23 rfl (lv_at hl 0 rfl) ?_
      refine lv_iconst (v := 2) hx hb dX6_payment_24 (by decide) ?_
      refine b_ci (b_runV B hT hX hW hS (As := [.int 2]) (rest := []) (fun sz => mm_fails hI th nP nH rN nf pn sp sk ag V T pd py du mA mC mH mG mS mI mT mP 2 hti htz sz) (cwX6_68 B.2.2.2.2.1 ⟨Nat.le_of_ble_eq_true rfl, Nat.le_of_ble_eq_true rfl⟩) (b_recv B hW (by decide) mE_0 rfl) rfl hl.1 (Nat.le_of_ble_eq_true rfl) dX6_payment_25 ⟨Nat.le_of_ble_eq_true rfl, Nat.le_of_ble_eq_true rfl⟩) hS (fun r_25 E1 H locs hp_25 hW hS => ?_)
      obtain ⟨hr_, hE_⟩ := hp_25
      subst hr_
      have hW := hW.eq hE_
      exact e_i hQ B hr hlk hS hW dX6_payment_28 (Nat.le_of_ble_eq_true rfl) (Nat.le_of_ble_eq_true rfl) (by have hk : kPaym nH rN x y = 2 := (by unfold kPaym; rw [cif_t (c10_t c_6), cif_f (in_no2 (by omega) c_20)]); exact ⟨fun q => absurd (hk.symm.trans q) (by decide), by rw [hk]; exact MW.mk⟩)
  · skip
    refine lv_aload_n hx hb dX6_payment_9 rfl (lv_at hl 0 rfl) ?_
    refine lv_iconst (v := 1) hx hb dX6_payment_10 (by decide) ?_
    refine b_ci (b_runV B hT hX hW hS (As := [.int 1]) (rest := []) (fun sz => mm_fails hI th nP nH rN nf pn sp sk ag V T pd py du mA mC mH mG mS mI mT mP 1 hti htz sz) (cwX6_68 B.2.2.2.2.1 ⟨Nat.le_of_ble_eq_true rfl, Nat.le_of_ble_eq_true rfl⟩) (b_recv B hW (by decide) mE_0 rfl) rfl hl.1 (Nat.le_of_ble_eq_true rfl) dX6_payment_11 ⟨Nat.le_of_ble_eq_true rfl, Nat.le_of_ble_eq_true rfl⟩) hS (fun r_11 E1 H locs hp_11 hW hS => ?_)
    obtain ⟨hr_, hE_⟩ := hp_11
    subst hr_
    have hW := hW.eq hE_
    exact e_i hQ B hr hlk hS hW dX6_payment_14 (Nat.le_of_ble_eq_true rfl) (Nat.le_of_ble_eq_true rfl) (by have hk : kPaym nH rN x y = 1 := (by unfold kPaym; rw [cif_f (c10_f c_6)]); exact ⟨fun q => absurd (hk.symm.trans q) (by decide), by rw [hk]; exact MW.mk⟩)
set_option maxHeartbeats 4000000 in
set_option maxRecDepth 100000 in
theorem mm_paidFor {l : Launch} {D : va_G} {tys : List (ClassId × FieldType)} {ad : Nat → Nat} (hI : aI ad 13) {cI cZ : ClassId} (th : Int32) (nP nH rN : Nat) (nf pn : Int32) (sp sk : Int64) (ag : Nat → Int32) (V T : Nat → Nat → Int32) (pd py : Nat → Nat → Int32) (du : Nat → Int32) (mA mC mH mG mS mI mT mP : Int32) (x y : Int32) (so : Nat → Int32) (hti : tys[0]? = some (cI, .int)) (htz : tys[1]? = some (cZ, .boolean)) (hInv : Inv V T ag nP nH rN so pd)  (sz : Nat) : Met l yX6_paidFor (Cond.code yX6_paidFor cX6_paidFor 3 (some .int) :: wsL_law) (rmk 6 0 0) (va_Pc [.ref (ad 0), .int x, .int y] (PC D tys ad 13 (mE cI cZ ad th nP nH rN nf pn sp sk ag (RV V) (RV T) (FL pd) (FL py) du mA mC mH mG mS mI mT mP) sz)) (Qi D ad 13 (fun r E1 => (kMon nH x y = 0 → r = pd (ix x) (ix y)) ∧ MW cI cZ ad (kMon nH x y) V T ag nP nH rN nf pn sp sk py pd E1) (cA ad 13 sz)) 0 0 (cA ad 13 sz) := by
  refine cm_of (own := RX6) (Qc := Qi D ad 13 (fun r E1 => (kMon nH x y = 0 → r = pd (ix x) (ix y)) ∧ MW cI cZ ad (kMon nH x y) V T ag nP nH rN nf pn sp sk py pd E1)) rfl (by decide +kernel) (Nat.le_of_ble_eq_true rfl) ?_ sz
  intro p e s m args below meth c ls Q B hT hX hW hr hlk hnm hl hS hA hQ
  have hx := B.1
  have hb := B.2.1
  have hl : lv_has ls 3 [(0, .ref (ad 0)), (1, .int x), (2, .int y)] := hl
  obtain ⟨⟨hP8, hH4, hR12⟩, hTb, -, hso, -, -, hpd⟩ := id hInv
  refine lv_aload_n hx hb dX6_paidFor_0 rfl (lv_at hl 0 rfl) ?_
  refine lv_aload_n hx hb dX6_paidFor_1 rfl (lv_at hl 0 rfl) ?_
  refine lv_iload_n hx hb dX6_paidFor_2 rfl (lv_at hl 1 rfl) ?_
  refine lv_iload_n hx hb dX6_paidFor_3 rfl (lv_at hl 2 rfl) ?_
  refine b_ci (b_runV B hT hX hW hS (As := [.int x, .int y]) (rest := [.ref (ad 0)]) (fun sz => mm_isMonthOf hI th nP nH rN nf pn sp sk ag V T pd py du mA mC mH mG mS mI mT mP x y hti htz (by omega) sz) (cwX6_164 B.2.2.2.2.1 ⟨Nat.le_of_ble_eq_true rfl, Nat.le_of_ble_eq_true rfl⟩) (b_recv B hW (by decide) mE_0 rfl) rfl hl.1 (Nat.le_of_ble_eq_true rfl) dX6_paidFor_4 ⟨Nat.le_of_ble_eq_true rfl, Nat.le_of_ble_eq_true rfl⟩) hS (fun r_4 E1 H locs hp_4 hW hS => ?_)
  obtain ⟨hr_, hE_⟩ := hp_4
  subst hr_
  have hW := hW.eq hE_
  refine lv_if_eq (tgt := 14) hx hb dX6_paidFor_7 (by decide) (fun c_7 => ?_) (fun c_7 => ?_)
  · skip
    refine lv_iconst (v := 1) hx hb dX6_paidFor_14 (by decide) ?_
    refine pfX6_55 B hT hI hA hW hS (by decide) mE_0 (Nat.le_of_ble_eq_true rfl) rfl (by first | rfl | decide) dX6_paidFor_15 (fun H locs hW hS => ?_)
    have hW := hW.eq (E' := mE cI cZ ad 1 nP nH rN nf pn sp sk ag (RV V) (RV T) (FL pd) (FL py) du mA mC mH mG mS mI mT mP) (mE_u0 _ _ _ _ _ _ _ _ _ _ _ _ _ _ _ _)
    refine lv_aload_n hx hb dX6_paidFor_18 rfl (lv_at hl 0 rfl) ?_
    refine gfX6_55 B hT hW (by decide) mE_0 rfl dX6_paidFor_19 ?_
    refine lv_if_le (tgt := 29) hx hb dX6_paidFor_22 (by decide) (fun c_22 => ?_) (fun c_22 => ?_)
    · exact absurd c_22 (by decide)
    · skip
      refine lv_iconst (v := 0) hx hb dX6_paidFor_25 (by decide) ?_
      refine lv_goto (tgt := 40) hx hb dX6_paidFor_26 (by decide) ?_
      exact e_i hQ B hr hlk hS hW dX6_paidFor_40 (Nat.le_of_ble_eq_true rfl) (Nat.le_of_ble_eq_true rfl) (by have hk : kMon nH x y = 1 := (by unfold kMon; rw [cif_f (c10_f c_7)]); exact ⟨fun q => absurd (hk.symm.trans q) (by decide), by rw [hk]; exact MW.mk⟩)
  · skip
    refine lv_iconst (v := 0) hx hb dX6_paidFor_10 (by decide) ?_
    refine lv_goto (tgt := 15) hx hb dX6_paidFor_11 (by decide) ?_
    refine pfX6_55 B hT hI hA hW hS (by decide) mE_0 (Nat.le_of_ble_eq_true rfl) rfl (by first | rfl | decide) dX6_paidFor_15 (fun H locs hW hS => ?_)
    have hW := hW.eq (E' := mE cI cZ ad 0 nP nH rN nf pn sp sk ag (RV V) (RV T) (FL pd) (FL py) du mA mC mH mG mS mI mT mP) (mE_u0 _ _ _ _ _ _ _ _ _ _ _ _ _ _ _ _)
    refine lv_aload_n hx hb dX6_paidFor_18 rfl (lv_at hl 0 rfl) ?_
    refine gfX6_55 B hT hW (by decide) mE_0 rfl dX6_paidFor_19 ?_
    refine lv_if_le (tgt := 29) hx hb dX6_paidFor_22 (by decide) (fun c_22 => ?_) (fun c_22 => ?_)
    · skip
      have cc9 := c10_t c_7
      obtain ⟨i, hi, rfl⟩ := vp_in_of cc9.1 (by omega)
      obtain ⟨mo, hmo, rfl⟩ := vp_in_of cc9.2 (by omega)
      have ei : ix (nI i) = i := nI_clamp (by omega)
      have em : ix (nI mo) = mo := nI_clamp (by omega)
      refine lv_aload_n hx hb dX6_paidFor_29 rfl (lv_at hl 0 rfl) ?_
      refine gfX6_42 B hT hW (by decide) mE_0 rfl dX6_paidFor_30 ?_
      refine lv_bipush (v := (nI 12)) hx hb dX6_paidFor_33 (by decide) ?_
      refine lv_iload_n hx hb dX6_paidFor_35 rfl (lv_at hl 1 rfl) ?_
      refine lv_imul hx hb dX6_paidFor_36 ?_
      refine b_top (y := nI (12 * i)) (pk_mul _ _) ?_
      refine lv_iload_n hx hb dX6_paidFor_37 rfl (lv_at hl 2 rfl) ?_
      refine lv_iadd hx hb dX6_paidFor_38 ?_
      refine b_top (y := nI (12 * i + mo)) (nI_add _ _) ?_
      refine b_iald B hW hti (j := (12 * i + mo)) (by decide) mE_10 (vp_in_nI (by omega) (Nat.le_of_ble_eq_true rfl)) (nI_clamp (by omega)) dX6_paidFor_39 ?_
      refine b_top (y := pd i mo) (FL_at (by omega) (by omega)) ?_
      exact e_i hQ B hr hlk hS hW dX6_paidFor_40 (Nat.le_of_ble_eq_true rfl) (Nat.le_of_ble_eq_true rfl) (by have hk : kMon nH (nI i) (nI mo) = 0 := (by unfold kMon; rw [cif_t ⟨vp_in_nI hi (by omega), vp_in_nI hmo (by omega)⟩]); exact ⟨fun _ => (by rw [ei, em]), by rw [hk]; exact MW.mk⟩)
    · exact absurd (Int32.le_refl 0) c_22
set_option maxHeartbeats 4000000 in
set_option maxRecDepth 100000 in
theorem mm_entitlement {l : Launch} {D : va_G} {tys : List (ClassId × FieldType)} {ad : Nat → Nat} (hI : aI ad 13) {cI cZ : ClassId} (th : Int32) (nP nH rN : Nat) (nf pn : Int32) (sp sk : Int64) (ag : Nat → Int32) (V T : Nat → Nat → Int32) (pd py : Nat → Nat → Int32) (du : Nat → Int32) (mA mC mH mG mS mI mT mP : Int32) (x y : Int32) (so : Nat → Int32) (hti : tys[0]? = some (cI, .int)) (htz : tys[1]? = some (cZ, .boolean)) (hInv : Inv V T ag nP nH rN so pd)  (sz : Nat) : Met l yX6_entitlement (Cond.code yX6_entitlement cX6_entitlement 3 (some .int) :: wsL_law) (rmk 5 0 0) (va_Pc [.ref (ad 0), .int x, .int y] (PC D tys ad 13 (mE cI cZ ad th nP nH rN nf pn sp sk ag (RV V) (RV T) (FL pd) (FL py) du mA mC mH mG mS mI mT mP) sz)) (Qi D ad 13 (fun r E1 => (kMon nH x y = 0 → r = due V ag nP (ix x) (ix y)) ∧ MW cI cZ ad (kMon nH x y) V T ag nP nH rN nf pn sp sk py pd E1) (cA ad 13 sz)) 0 0 (cA ad 13 sz) := by
  refine cm_of (own := RX6) (Qc := Qi D ad 13 (fun r E1 => (kMon nH x y = 0 → r = due V ag nP (ix x) (ix y)) ∧ MW cI cZ ad (kMon nH x y) V T ag nP nH rN nf pn sp sk py pd E1)) rfl (by decide +kernel) (Nat.le_of_ble_eq_true rfl) ?_ sz
  intro p e s m args below meth c ls Q B hT hX hW hr hlk hnm hl hS hA hQ
  have hx := B.1
  have hb := B.2.1
  have hl : lv_has ls 3 [(0, .ref (ad 0)), (1, .int x), (2, .int y)] := hl
  obtain ⟨⟨hP8, hH4, hR12⟩, hTb, -, hso, -, -, hpd⟩ := id hInv
  refine lv_aload_n hx hb dX6_entitlement_0 rfl (lv_at hl 0 rfl) ?_
  refine lv_aload_n hx hb dX6_entitlement_1 rfl (lv_at hl 0 rfl) ?_
  refine lv_iload_n hx hb dX6_entitlement_2 rfl (lv_at hl 1 rfl) ?_
  refine lv_iload_n hx hb dX6_entitlement_3 rfl (lv_at hl 2 rfl) ?_
  refine b_ci (b_runV B hT hX hW hS (As := [.int x, .int y]) (rest := [.ref (ad 0)]) (fun sz => mm_isMonthOf hI th nP nH rN nf pn sp sk ag V T pd py du mA mC mH mG mS mI mT mP x y hti htz (by omega) sz) (cwX6_164 B.2.2.2.2.1 ⟨Nat.le_of_ble_eq_true rfl, Nat.le_of_ble_eq_true rfl⟩) (b_recv B hW (by decide) mE_0 rfl) rfl hl.1 (Nat.le_of_ble_eq_true rfl) dX6_entitlement_4 ⟨Nat.le_of_ble_eq_true rfl, Nat.le_of_ble_eq_true rfl⟩) hS (fun r_4 E1 H locs hp_4 hW hS => ?_)
  obtain ⟨hr_, hE_⟩ := hp_4
  subst hr_
  have hW := hW.eq hE_
  refine lv_if_eq (tgt := 14) hx hb dX6_entitlement_7 (by decide) (fun c_7 => ?_) (fun c_7 => ?_)
  · skip
    refine lv_iconst (v := 1) hx hb dX6_entitlement_14 (by decide) ?_
    refine pfX6_55 B hT hI hA hW hS (by decide) mE_0 (Nat.le_of_ble_eq_true rfl) rfl (by first | rfl | decide) dX6_entitlement_15 (fun H locs hW hS => ?_)
    have hW := hW.eq (E' := mE cI cZ ad 1 nP nH rN nf pn sp sk ag (RV V) (RV T) (FL pd) (FL py) du mA mC mH mG mS mI mT mP) (mE_u0 _ _ _ _ _ _ _ _ _ _ _ _ _ _ _ _)
    refine lv_aload_n hx hb dX6_entitlement_18 rfl (lv_at hl 0 rfl) ?_
    refine gfX6_55 B hT hW (by decide) mE_0 rfl dX6_entitlement_19 ?_
    refine lv_if_le (tgt := 29) hx hb dX6_entitlement_22 (by decide) (fun c_22 => ?_) (fun c_22 => ?_)
    · exact absurd c_22 (by decide)
    · skip
      refine lv_iconst (v := 0) hx hb dX6_entitlement_25 (by decide) ?_
      refine lv_goto (tgt := 35) hx hb dX6_entitlement_26 (by decide) ?_
      exact e_i hQ B hr hlk hS hW dX6_entitlement_35 (Nat.le_of_ble_eq_true rfl) (Nat.le_of_ble_eq_true rfl) (by have hk : kMon nH x y = 1 := (by unfold kMon; rw [cif_f (c10_f c_7)]); exact ⟨fun q => absurd (hk.symm.trans q) (by decide), by rw [hk]; exact MW.mk⟩)
  · skip
    refine lv_iconst (v := 0) hx hb dX6_entitlement_10 (by decide) ?_
    refine lv_goto (tgt := 15) hx hb dX6_entitlement_11 (by decide) ?_
    refine pfX6_55 B hT hI hA hW hS (by decide) mE_0 (Nat.le_of_ble_eq_true rfl) rfl (by first | rfl | decide) dX6_entitlement_15 (fun H locs hW hS => ?_)
    have hW := hW.eq (E' := mE cI cZ ad 0 nP nH rN nf pn sp sk ag (RV V) (RV T) (FL pd) (FL py) du mA mC mH mG mS mI mT mP) (mE_u0 _ _ _ _ _ _ _ _ _ _ _ _ _ _ _ _)
    refine lv_aload_n hx hb dX6_entitlement_18 rfl (lv_at hl 0 rfl) ?_
    refine gfX6_55 B hT hW (by decide) mE_0 rfl dX6_entitlement_19 ?_
    refine lv_if_le (tgt := 29) hx hb dX6_entitlement_22 (by decide) (fun c_22 => ?_) (fun c_22 => ?_)
    · skip
      have cc9 := c10_t c_7
      obtain ⟨i, hi, rfl⟩ := vp_in_of cc9.1 (by omega)
      obtain ⟨mo, hmo, rfl⟩ := vp_in_of cc9.2 (by omega)
      have ei : ix (nI i) = i := nI_clamp (by omega)
      have em : ix (nI mo) = mo := nI_clamp (by omega)
      refine lv_aload_n hx hb dX6_entitlement_29 rfl (lv_at hl 0 rfl) ?_
      refine lv_iload_n hx hb dX6_entitlement_30 rfl (lv_at hl 1 rfl) ?_
      refine lv_iload_n hx hb dX6_entitlement_31 rfl (lv_at hl 2 rfl) ?_
      refine b_ci (b_runV B hT hX hW hS (As := [.int (nI i), .int (nI mo)]) (rest := []) (fun sz => mm_sumOf hI 0 nP nH rN nf pn sp sk ag V T pd py du mA mC mH mG mS mI mT mP i mo so hti htz hInv (by omega) (by omega) sz) (cwX6_148 B.2.2.2.2.1 ⟨Nat.le_of_ble_eq_true rfl, Nat.le_of_ble_eq_true rfl⟩) (b_recv B hW (by decide) mE_0 rfl) rfl hl.1 (Nat.le_of_ble_eq_true rfl) dX6_entitlement_32 ⟨Nat.le_of_ble_eq_true rfl, Nat.le_of_ble_eq_true rfl⟩) hS (fun r_32 E1 H locs hp_32 hW hS => ?_)
      obtain ⟨hr_, jA_32, jB_32, jC_32, jD_32, jE_32, jF_32, jG_32, jH_32, hE_⟩ := hp_32
      subst hr_
      have hW := hW.eq hE_
      exact e_i hQ B hr hlk hS hW dX6_entitlement_35 (Nat.le_of_ble_eq_true rfl) (Nat.le_of_ble_eq_true rfl) (by have hk : kMon nH (nI i) (nI mo) = 0 := (by unfold kMon; rw [cif_t ⟨vp_in_nI hi (by omega), vp_in_nI hmo (by omega)⟩]); exact ⟨fun _ => (by rw [ei, em]), by rw [hk]; exact MW.mk⟩)
    · exact absurd (Int32.le_refl 0) c_22
set_option maxHeartbeats 4000000 in
set_option maxRecDepth 100000 in
theorem mm_entitlementByDays {l : Launch} {D : va_G} {tys : List (ClassId × FieldType)} {ad : Nat → Nat} (hI : aI ad 13) {cI cZ : ClassId} (th : Int32) (nP nH rN : Nat) (nf pn : Int32) (sp sk : Int64) (ag : Nat → Int32) (V T : Nat → Nat → Int32) (pd py : Nat → Nat → Int32) (du : Nat → Int32) (mA mC mH mG mS mI mT mP : Int32) (x y : Int32) (so : Nat → Int32) (hti : tys[0]? = some (cI, .int)) (htz : tys[1]? = some (cZ, .boolean)) (hInv : Inv V T ag nP nH rN so pd)  (sz : Nat) : Met l yX6_entitlementByDays (Cond.code yX6_entitlementByDays cX6_entitlementByDays 3 (some .int) :: wsL_law) (rmk 6 0 0) (va_Pc [.ref (ad 0), .int x, .int y] (PC D tys ad 13 (mE cI cZ ad th nP nH rN nf pn sp sk ag (RV V) (RV T) (FL pd) (FL py) du mA mC mH mG mS mI mT mP) sz)) (Qi D ad 13 (fun r E1 => (kMon nH x y = 0 → r = due V ag nP (ix x) (ix y)) ∧ MW cI cZ ad (kMon nH x y) V T ag nP nH rN nf pn sp sk py pd E1) (cA ad 13 sz)) 0 0 (cA ad 13 sz) := by
  refine cm_of (own := RX6) (Qc := Qi D ad 13 (fun r E1 => (kMon nH x y = 0 → r = due V ag nP (ix x) (ix y)) ∧ MW cI cZ ad (kMon nH x y) V T ag nP nH rN nf pn sp sk py pd E1)) rfl (by decide +kernel) (Nat.le_of_ble_eq_true rfl) ?_ sz
  intro p e s m args below meth c ls Q B hT hX hW hr hlk hnm hl hS hA hQ
  have hx := B.1
  have hb := B.2.1
  have hl : lv_has ls 3 [(0, .ref (ad 0)), (1, .int x), (2, .int y)] := hl
  refine lv_aload_n hx hb dX6_entitlementByDays_0 rfl (lv_at hl 0 rfl) ?_
  refine lv_iload_n hx hb dX6_entitlementByDays_1 rfl (lv_at hl 1 rfl) ?_
  refine lv_iload_n hx hb dX6_entitlementByDays_2 rfl (lv_at hl 2 rfl) ?_
  refine b_ci (b_runV B hT hX hW hS (As := [.int x, .int y]) (rest := []) (fun sz => mm_entitlement hI th nP nH rN nf pn sp sk ag V T pd py du mA mC mH mG mS mI mT mP x y so hti htz hInv sz) (cwX6_174 B.2.2.2.2.1 ⟨Nat.le_of_ble_eq_true rfl, Nat.le_of_ble_eq_true rfl⟩) (b_recv B hW (by decide) mE_0 rfl) rfl hl.1 (Nat.le_of_ble_eq_true rfl) dX6_entitlementByDays_3 ⟨Nat.le_of_ble_eq_true rfl, Nat.le_of_ble_eq_true rfl⟩) hS (fun r_3 E1 H locs hp_3 hW hS => ?_)
  obtain ⟨hr_, du2, mA2, mC2, mH2, mG2, mS2, mI2, mT2, mP2, hE_⟩ := hp_3
  have hW := hW.eq hE_
  exact e_i hQ B hr hlk hS hW dX6_entitlementByDays_6 (Nat.le_of_ble_eq_true rfl) (Nat.le_of_ble_eq_true rfl) (⟨hr_, MW.mk⟩)
set_option maxHeartbeats 4000000 in
set_option maxRecDepth 100000 in
theorem mm_homeOf {l : Launch} {D : va_G} {tys : List (ClassId × FieldType)} {ad : Nat → Nat} (hI : aI ad 13) {cI cZ : ClassId} (th : Int32) (nP nH rN : Nat) (nf pn : Int32) (sp sk : Int64) (ag : Nat → Int32) (V T : Nat → Nat → Int32) (pd py : Nat → Nat → Int32) (du : Nat → Int32) (mA mC mH mG mS mI mT mP : Int32) (x dy : Int32) (so : Nat → Int32) (hti : tys[0]? = some (cI, .int)) (htz : tys[1]? = some (cZ, .boolean)) (hInv : Inv V T ag nP nH rN so pd)  (sz : Nat) : Met l yX6_homeOf (Cond.code yX6_homeOf cX6_homeOf 3 (some .int) :: wsL_law) (rmk 6 0 0) (va_Pc [.ref (ad 0), .int x, .int dy] (PC D tys ad 13 (mE cI cZ ad th nP nH rN nf pn sp sk ag (RV V) (RV T) (FL pd) (FL py) du mA mC mH mG mS mI mT mP) sz)) (Qi D ad 13 (fun r E1 => (kAsk nP x dy = 0 → r = V (ix x) (ix dy)) ∧ MW cI cZ ad (kAsk nP x dy) V T ag nP nH rN nf pn sp sk py pd E1) (cA ad 13 sz)) 0 0 (cA ad 13 sz) := by
  refine cm_of (own := RX6) (Qc := Qi D ad 13 (fun r E1 => (kAsk nP x dy = 0 → r = V (ix x) (ix dy)) ∧ MW cI cZ ad (kAsk nP x dy) V T ag nP nH rN nf pn sp sk py pd E1)) rfl (by decide +kernel) (Nat.le_of_ble_eq_true rfl) ?_ sz
  intro p e s m args below meth c ls Q B hT hX hW hr hlk hnm hl hS hA hQ
  have hx := B.1
  have hb := B.2.1
  have hl : lv_has ls 3 [(0, .ref (ad 0)), (1, .int x), (2, .int dy)] := hl
  obtain ⟨⟨hP8, hH4, hR12⟩, hTb, -, hso, -, -, hpd⟩ := id hInv
  refine lv_aload_n hx hb dX6_homeOf_0 rfl (lv_at hl 0 rfl) ?_
  refine lv_aload_n hx hb dX6_homeOf_1 rfl (lv_at hl 0 rfl) ?_
  refine lv_iload_n hx hb dX6_homeOf_2 rfl (lv_at hl 1 rfl) ?_
  refine b_ci (b_runV B hT hX hW hS (As := [.int x]) (rest := [.ref (ad 0)]) (fun sz => mm_isPerson hI th nP nH rN nf pn sp sk ag V T pd py du mA mC mH mG mS mI mT mP x hti htz (by omega) sz) (cwX6_75 B.2.2.2.2.1 ⟨Nat.le_of_ble_eq_true rfl, Nat.le_of_ble_eq_true rfl⟩) (b_recv B hW (by decide) mE_0 rfl) rfl hl.1 (Nat.le_of_ble_eq_true rfl) dX6_homeOf_3 ⟨Nat.le_of_ble_eq_true rfl, Nat.le_of_ble_eq_true rfl⟩) hS (fun r_3 E1 H locs hp_3 hW hS => ?_)
  obtain ⟨hr_, hE_⟩ := hp_3
  subst hr_
  have hW := hW.eq hE_
  refine lv_if_ne (tgt := 13) hx hb dX6_homeOf_6 (by decide) (fun c_6 => ?_) (fun c_6 => ?_)
  · skip
    refine lv_iload_n hx hb dX6_homeOf_13 rfl (lv_at hl 2 rfl) ?_
    refine b_ci (b_runS B hT hX hW hS (As := [.int dy]) (rest := [.ref (ad 0)]) (fun sz => mm_isDay hI dy sz) (cwX6_82 B.2.2.2.2.1 ⟨Nat.le_of_ble_eq_true rfl, Nat.le_of_ble_eq_true rfl⟩) rfl hl.1 (Nat.le_of_ble_eq_true rfl) dX6_homeOf_14 ⟨Nat.le_of_ble_eq_true rfl, Nat.le_of_ble_eq_true rfl⟩) hS (fun r_14 E1 H locs hp_14 hW hS => ?_)
    obtain ⟨hr_, hE_⟩ := hp_14
    subst hr_
    have hW := hW.eq hE_
    refine lv_if_eq (tgt := 24) hx hb dX6_homeOf_17 (by decide) (fun c_17 => ?_) (fun c_17 => ?_)
    · skip
      refine lv_iconst (v := 2) hx hb dX6_homeOf_24 (by decide) ?_
      refine pfX6_55 B hT hI hA hW hS (by decide) mE_0 (Nat.le_of_ble_eq_true rfl) rfl (by first | rfl | decide) dX6_homeOf_25 (fun H locs hW hS => ?_)
      have hW := hW.eq (E' := mE cI cZ ad 2 nP nH rN nf pn sp sk ag (RV V) (RV T) (FL pd) (FL py) du mA mC mH mG mS mI mT mP) (mE_u0 _ _ _ _ _ _ _ _ _ _ _ _ _ _ _ _)
      refine lv_aload_n hx hb dX6_homeOf_28 rfl (lv_at hl 0 rfl) ?_
      refine gfX6_55 B hT hW (by decide) mE_0 rfl dX6_homeOf_29 ?_
      refine lv_if_le (tgt := 39) hx hb dX6_homeOf_32 (by decide) (fun c_32 => ?_) (fun c_32 => ?_)
      · exact absurd c_32 (by decide)
      · skip
        refine lv_iconst (v := 0) hx hb dX6_homeOf_35 (by decide) ?_
        refine lv_goto (tgt := 51) hx hb dX6_homeOf_36 (by decide) ?_
        exact e_i hQ B hr hlk hS hW dX6_homeOf_51 (Nat.le_of_ble_eq_true rfl) (Nat.le_of_ble_eq_true rfl) (by have hk : kAsk nP x dy = 2 := (by unfold kAsk; rw [cif_t (c10_t c_6), cif_f (c10_f c_17)]); exact ⟨fun q => absurd (hk.symm.trans q) (by decide), by rw [hk]; exact MW.mk⟩)
    · skip
      refine lv_iconst (v := 0) hx hb dX6_homeOf_20 (by decide) ?_
      refine lv_goto (tgt := 25) hx hb dX6_homeOf_21 (by decide) ?_
      refine pfX6_55 B hT hI hA hW hS (by decide) mE_0 (Nat.le_of_ble_eq_true rfl) rfl (by first | rfl | decide) dX6_homeOf_25 (fun H locs hW hS => ?_)
      have hW := hW.eq (E' := mE cI cZ ad 0 nP nH rN nf pn sp sk ag (RV V) (RV T) (FL pd) (FL py) du mA mC mH mG mS mI mT mP) (mE_u0 _ _ _ _ _ _ _ _ _ _ _ _ _ _ _ _)
      refine lv_aload_n hx hb dX6_homeOf_28 rfl (lv_at hl 0 rfl) ?_
      refine gfX6_55 B hT hW (by decide) mE_0 rfl dX6_homeOf_29 ?_
      refine lv_if_le (tgt := 39) hx hb dX6_homeOf_32 (by decide) (fun c_32 => ?_) (fun c_32 => ?_)
      · skip
        obtain ⟨i, hi, rfl⟩ := vp_in_of (c10_t c_6) (by omega)
        obtain ⟨d, hd, rfl⟩ := vp_in_of (c10_t c_17) (by omega)
        have ei : ix (nI i) = i := nI_clamp (by omega)
        have ed : ix (nI d) = d := nI_clamp (by omega)
        refine lv_aload_n hx hb dX6_homeOf_39 rfl (lv_at hl 0 rfl) ?_
        refine gfX6_17 B hT hW (by decide) mE_0 rfl dX6_homeOf_40 ?_
        refine lv_sipush (v := (nI 360)) hx hb dX6_homeOf_43 (by decide) ?_
        refine lv_iload_n hx hb dX6_homeOf_46 rfl (lv_at hl 1 rfl) ?_
        refine lv_imul hx hb dX6_homeOf_47 ?_
        refine b_top (y := nI (360 * i)) (pk_mul _ _) ?_
        refine lv_iload_n hx hb dX6_homeOf_48 rfl (lv_at hl 2 rfl) ?_
        refine lv_iadd hx hb dX6_homeOf_49 ?_
        refine b_top (y := nI (360 * i + d)) (nI_add _ _) ?_
        refine b_iald B hW hti (j := (360 * i + d)) (by decide) mE_2 (vp_in_nI (by omega) (Nat.le_of_ble_eq_true rfl)) (nI_clamp (by omega)) dX6_homeOf_50 ?_
        refine b_top (y := V i d) (RV_at (j := 0) (i := i) (d := d) (by omega) (show 360 * i + 360 ≤ 2880 by omega) (by omega) (Nat.zero_add _)) ?_
        exact e_i hQ B hr hlk hS hW dX6_homeOf_51 (Nat.le_of_ble_eq_true rfl) (Nat.le_of_ble_eq_true rfl) (by have hk : kAsk nP (nI i) (nI d) = 0 := (by unfold kAsk; rw [cif_t (vp_in_nI hi (by omega)), cif_t (vp_in_nI hd (by omega))]); exact ⟨fun _ => (by rw [ei, ed]), by rw [hk]; exact MW.mk⟩)
      · exact absurd (Int32.le_refl 0) c_32
  · skip
    refine lv_iconst (v := 1) hx hb dX6_homeOf_9 (by decide) ?_
    refine lv_goto (tgt := 25) hx hb dX6_homeOf_10 (by decide) ?_
    refine pfX6_55 B hT hI hA hW hS (by decide) mE_0 (Nat.le_of_ble_eq_true rfl) rfl (by first | rfl | decide) dX6_homeOf_25 (fun H locs hW hS => ?_)
    have hW := hW.eq (E' := mE cI cZ ad 1 nP nH rN nf pn sp sk ag (RV V) (RV T) (FL pd) (FL py) du mA mC mH mG mS mI mT mP) (mE_u0 _ _ _ _ _ _ _ _ _ _ _ _ _ _ _ _)
    refine lv_aload_n hx hb dX6_homeOf_28 rfl (lv_at hl 0 rfl) ?_
    refine gfX6_55 B hT hW (by decide) mE_0 rfl dX6_homeOf_29 ?_
    refine lv_if_le (tgt := 39) hx hb dX6_homeOf_32 (by decide) (fun c_32 => ?_) (fun c_32 => ?_)
    · exact absurd c_32 (by decide)
    · skip
      refine lv_iconst (v := 0) hx hb dX6_homeOf_35 (by decide) ?_
      refine lv_goto (tgt := 51) hx hb dX6_homeOf_36 (by decide) ?_
      exact e_i hQ B hr hlk hS hW dX6_homeOf_51 (Nat.le_of_ble_eq_true rfl) (Nat.le_of_ble_eq_true rfl) (by have hk : kAsk nP x dy = 1 := (by unfold kAsk; rw [cif_f (c10_f c_6)]); exact ⟨fun q => absurd (hk.symm.trans q) (by decide), by rw [hk]; exact MW.mk⟩)
set_option maxHeartbeats 4000000 in
set_option maxRecDepth 100000 in
theorem mm_ruleAt {l : Launch} {D : va_G} {tys : List (ClassId × FieldType)} {ad : Nat → Nat} (hI : aI ad 13) {cI cZ : ClassId} (th : Int32) (nP nH rN : Nat) (nf pn : Int32) (sp sk : Int64) (ag : Nat → Int32) (V T : Nat → Nat → Int32) (pd py : Nat → Nat → Int32) (du : Nat → Int32) (mA mC mH mG mS mI mT mP : Int32) (x dy : Int32) (so : Nat → Int32) (hti : tys[0]? = some (cI, .int)) (htz : tys[1]? = some (cZ, .boolean)) (hInv : Inv V T ag nP nH rN so pd)  (sz : Nat) : Met l yX6_ruleAt (Cond.code yX6_ruleAt cX6_ruleAt 4 (some .int) :: wsL_law) (rmk 6 0 0) (va_Pc [.ref (ad 0), .int x, .int dy] (PC D tys ad 13 (mE cI cZ ad th nP nH rN nf pn sp sk ag (RV V) (RV T) (FL pd) (FL py) du mA mC mH mG mS mI mT mP) sz)) (Qi D ad 13 (fun r E1 => (kRat x dy = 0 → r = V (20 + rIx x) (ix dy)) ∧ MW cI cZ ad (kRat x dy) V T ag nP nH rN nf pn sp sk py pd E1) (cA ad 13 sz)) 0 0 (cA ad 13 sz) := by
  refine cm_of (own := RX6) (Qc := Qi D ad 13 (fun r E1 => (kRat x dy = 0 → r = V (20 + rIx x) (ix dy)) ∧ MW cI cZ ad (kRat x dy) V T ag nP nH rN nf pn sp sk py pd E1)) rfl (by decide +kernel) (Nat.le_of_ble_eq_true rfl) ?_ sz
  intro p e s m args below meth c ls Q B hT hX hW hr hlk hnm hl hS hA hQ
  have hx := B.1
  have hb := B.2.1
  have hl : lv_has ls 4 [(0, .ref (ad 0)), (1, .int x), (2, .int dy)] := hl
  obtain ⟨⟨hP8, hH4, hR12⟩, hTb, -, hso, -, -, hpd⟩ := id hInv
  refine lv_iload_n hx hb dX6_ruleAt_0 rfl (lv_at hl 1 rfl) ?_
  refine b_ci (b_runS B hT hX hW hS (As := [.int x]) (rest := []) (fun sz => mm_place hI x sz) (cwX6_89 B.2.2.2.2.1 ⟨Nat.le_of_ble_eq_true rfl, Nat.le_of_ble_eq_true rfl⟩) rfl hl.1 (Nat.le_of_ble_eq_true rfl) dX6_ruleAt_1 ⟨Nat.le_of_ble_eq_true rfl, Nat.le_of_ble_eq_true rfl⟩) hS (fun r_1 E1 H locs hp_1 hW hS => ?_)
  obtain ⟨hr_, hE_⟩ := hp_1
  subst hr_
  have hW := hW.eq hE_
  refine lv_istore_n (lv' := [(3, .int (kPl x)), (0, .ref (ad 0)), (1, .int x), (2, .int dy)]) hx hb dX6_ruleAt_4 rfl hl (by decide) rfl (fun ls hl => ?_)
  refine lv_aload_n hx hb dX6_ruleAt_5 rfl (lv_at hl 1 rfl) ?_
  refine lv_iload_n hx hb dX6_ruleAt_6 rfl (lv_at hl 0 rfl) ?_
  refine lv_iconst (v := (-1)) hx hb dX6_ruleAt_7 (by decide) ?_
  refine lv_icmp_ne (tgt := 15) hx hb dX6_ruleAt_8 (by decide) (fun c_8 => ?_) (fun c_8 => ?_)
  · skip
    have hri := kPl_yes c_8
    rw [kPl_t hri] at hl
    refine lv_iload_n hx hb dX6_ruleAt_15 rfl (lv_at hl 3 rfl) ?_
    refine b_ci (b_runS B hT hX hW hS (As := [.int dy]) (rest := [.ref (ad 0)]) (fun sz => mm_isDay hI dy sz) (cwX6_82 B.2.2.2.2.1 ⟨Nat.le_of_ble_eq_true rfl, Nat.le_of_ble_eq_true rfl⟩) rfl hl.1 (Nat.le_of_ble_eq_true rfl) dX6_ruleAt_16 ⟨Nat.le_of_ble_eq_true rfl, Nat.le_of_ble_eq_true rfl⟩) hS (fun r_16 E1 H locs hp_16 hW hS => ?_)
    obtain ⟨hr_, hE_⟩ := hp_16
    subst hr_
    have hW := hW.eq hE_
    refine lv_if_eq (tgt := 26) hx hb dX6_ruleAt_19 (by decide) (fun c_19 => ?_) (fun c_19 => ?_)
    · skip
      refine lv_iconst (v := 2) hx hb dX6_ruleAt_26 (by decide) ?_
      refine pfX6_55 B hT hI hA hW hS (by decide) mE_0 (Nat.le_of_ble_eq_true rfl) rfl (by first | rfl | decide) dX6_ruleAt_27 (fun H locs hW hS => ?_)
      have hW := hW.eq (E' := mE cI cZ ad 2 nP nH rN nf pn sp sk ag (RV V) (RV T) (FL pd) (FL py) du mA mC mH mG mS mI mT mP) (mE_u0 _ _ _ _ _ _ _ _ _ _ _ _ _ _ _ _)
      refine lv_aload_n hx hb dX6_ruleAt_30 rfl (lv_at hl 1 rfl) ?_
      refine gfX6_55 B hT hW (by decide) mE_0 rfl dX6_ruleAt_31 ?_
      refine lv_if_le (tgt := 41) hx hb dX6_ruleAt_34 (by decide) (fun c_34 => ?_) (fun c_34 => ?_)
      · exact absurd c_34 (by decide)
      · skip
        refine lv_iconst (v := 0) hx hb dX6_ruleAt_37 (by decide) ?_
        refine lv_goto (tgt := 47) hx hb dX6_ruleAt_38 (by decide) ?_
        exact e_i hQ B hr hlk hS hW dX6_ruleAt_47 (Nat.le_of_ble_eq_true rfl) (Nat.le_of_ble_eq_true rfl) (by have hk : kRat x dy = 2 := (by unfold kRat; rw [cif_t hri, cif_f (c10_f c_19)]); exact ⟨fun q => absurd (hk.symm.trans q) (by decide), by rw [hk]; exact MW.mk⟩)
    · skip
      refine lv_iconst (v := 0) hx hb dX6_ruleAt_22 (by decide) ?_
      refine lv_goto (tgt := 27) hx hb dX6_ruleAt_23 (by decide) ?_
      refine pfX6_55 B hT hI hA hW hS (by decide) mE_0 (Nat.le_of_ble_eq_true rfl) rfl (by first | rfl | decide) dX6_ruleAt_27 (fun H locs hW hS => ?_)
      have hW := hW.eq (E' := mE cI cZ ad 0 nP nH rN nf pn sp sk ag (RV V) (RV T) (FL pd) (FL py) du mA mC mH mG mS mI mT mP) (mE_u0 _ _ _ _ _ _ _ _ _ _ _ _ _ _ _ _)
      refine lv_aload_n hx hb dX6_ruleAt_30 rfl (lv_at hl 1 rfl) ?_
      refine gfX6_55 B hT hW (by decide) mE_0 rfl dX6_ruleAt_31 ?_
      refine lv_if_le (tgt := 41) hx hb dX6_ruleAt_34 (by decide) (fun c_34 => ?_) (fun c_34 => ?_)
      · skip
        obtain ⟨d, hd, rfl⟩ := vp_in_of (c10_t c_19) (by omega)
        have ed : ix (nI d) = d := nI_clamp (by omega)
        refine lv_aload_n hx hb dX6_ruleAt_41 rfl (lv_at hl 1 rfl) ?_
        refine lv_iload_n hx hb dX6_ruleAt_42 rfl (lv_at hl 0 rfl) ?_
        refine lv_iload_n hx hb dX6_ruleAt_43 rfl (lv_at hl 3 rfl) ?_
        refine b_ci (b_runV B hT hX hW hS (As := [.int (nI (rIx x)), .int (nI d)]) (rest := []) (fun sz => mm_at hI 0 nP nH rN nf pn sp sk ag V T pd py du mA mC mH mG mS mI mT mP (rIx x) d hti htz (by omega) (by omega) sz) (cwX6_108 B.2.2.2.2.1 ⟨Nat.le_of_ble_eq_true rfl, Nat.le_of_ble_eq_true rfl⟩) (b_recv B hW (by decide) mE_0 rfl) rfl hl.1 (Nat.le_of_ble_eq_true rfl) dX6_ruleAt_44 ⟨Nat.le_of_ble_eq_true rfl, Nat.le_of_ble_eq_true rfl⟩) hS (fun r_44 E1 H locs hp_44 hW hS => ?_)
        obtain ⟨hr_, hE_⟩ := hp_44
        subst hr_
        have hW := hW.eq hE_
        exact e_i hQ B hr hlk hS hW dX6_ruleAt_47 (Nat.le_of_ble_eq_true rfl) (Nat.le_of_ble_eq_true rfl) (by have hk : kRat x (nI d) = 0 := (by unfold kRat; rw [cif_t hri, cif_t (vp_in_nI hd (by omega))]); exact ⟨fun _ => (by rw [ed]), by rw [hk]; exact MW.mk⟩)
      · exact absurd (Int32.le_refl 0) c_34
  · skip
    refine lv_iconst (v := 1) hx hb dX6_ruleAt_11 (by decide) ?_
    refine lv_goto (tgt := 27) hx hb dX6_ruleAt_12 (by decide) ?_
    refine pfX6_55 B hT hI hA hW hS (by decide) mE_0 (Nat.le_of_ble_eq_true rfl) rfl (by first | rfl | decide) dX6_ruleAt_27 (fun H locs hW hS => ?_)
    have hW := hW.eq (E' := mE cI cZ ad 1 nP nH rN nf pn sp sk ag (RV V) (RV T) (FL pd) (FL py) du mA mC mH mG mS mI mT mP) (mE_u0 _ _ _ _ _ _ _ _ _ _ _ _ _ _ _ _)
    refine lv_aload_n hx hb dX6_ruleAt_30 rfl (lv_at hl 1 rfl) ?_
    refine gfX6_55 B hT hW (by decide) mE_0 rfl dX6_ruleAt_31 ?_
    refine lv_if_le (tgt := 41) hx hb dX6_ruleAt_34 (by decide) (fun c_34 => ?_) (fun c_34 => ?_)
    · exact absurd c_34 (by decide)
    · skip
      refine lv_iconst (v := 0) hx hb dX6_ruleAt_37 (by decide) ?_
      refine lv_goto (tgt := 47) hx hb dX6_ruleAt_38 (by decide) ?_
      exact e_i hQ B hr hlk hS hW dX6_ruleAt_47 (Nat.le_of_ble_eq_true rfl) (Nat.le_of_ble_eq_true rfl) (by have hk : kRat x dy = 1 := (by unfold kRat; rw [cif_f (kPl_no c_8)]); exact ⟨fun q => absurd (hk.symm.trans q) (by decide), by rw [hk]; exact MW.mk⟩)
theorem c10_h {n : Nat} {x : Int32} (h : kHou n x = 0) : ¬ cif (vp_in x n) (1 : Int32) 0 = 0 := by
  intro q
  have z := c10_f q
  unfold kHou at h
  rw [cif_f z] at h
  exact absurd h (by decide)
set_option maxHeartbeats 4000000 in
set_option maxRecDepth 100000 in
theorem mm_balance {l : Launch} {D : va_G} {tys : List (ClassId × FieldType)} {ad : Nat → Nat} (hI : aI ad 13) {cI cZ : ClassId} (th : Int32) (nP nH rN : Nat) (nf pn : Int32) (sp sk : Int64) (ag : Nat → Int32) (V T : Nat → Nat → Int32) (pd py : Nat → Nat → Int32) (du : Nat → Int32) (mA mC mH mG mS mI mT mP : Int32) (x : Int32) (so : Nat → Int32) (hti : tys[0]? = some (cI, .int)) (htz : tys[1]? = some (cZ, .boolean)) (hInv : Inv V T ag nP nH rN so pd)  (sz : Nat) : Met l yX6_balance (Cond.code yX6_balance cX6_balance 4 (some .int) :: wsL_law) (rmk 6 0 0) (va_Pc [.ref (ad 0), .int x] (PC D tys ad 13 (mE cI cZ ad th nP nH rN nf pn sp sk ag (RV V) (RV T) (FL pd) (FL py) du mA mC mH mG mS mI mT mP) sz)) (Qi D ad 13 (fun r E1 => (kHou nH x = 0 → r = bal (due V ag nP (ix x)) (pd (ix x)) rN) ∧ MW cI cZ ad (kHou nH x) V T ag nP nH rN nf pn sp sk py pd E1) (cA ad 13 sz)) 0 0 (cA ad 13 sz) := by
  refine cm_of (own := RX6) (Qc := Qi D ad 13 (fun r E1 => (kHou nH x = 0 → r = bal (due V ag nP (ix x)) (pd (ix x)) rN) ∧ MW cI cZ ad (kHou nH x) V T ag nP nH rN nf pn sp sk py pd E1)) rfl (by decide +kernel) (Nat.le_of_ble_eq_true rfl) ?_ sz
  intro p e s m args below meth c ls Q B hT hX hW hr hlk hnm hl hS hA hQ
  have hx := B.1
  have hb := B.2.1
  have hl : lv_has ls 4 [(0, .ref (ad 0)), (1, .int x)] := hl
  obtain ⟨⟨hP8, hH4, hR12⟩, -⟩ := id hInv
  have L_14 : ∀ (n_ : Nat) (i : Nat) (mo : Nat) (mA1 : Int32) (mC1 : Int32) (mH1 : Int32) (mG1 : Int32) (mS1 : Int32) (mI1 : Int32) (mT1 : Int32) (mP1 : Int32), (hxi : x = nI i) → (hi : i < nH) → (hmo : mo ≤ rN) → (hn : rN < n_ + mo) → ∀ (H : Heap) (locs : List Loc) (ls : Array Slot), hH D ad 13 (mE cI cZ ad (kHou nH (nI i)) nP nH rN nf pn sp sk ag (RV V) (RV T) (FL pd) (FL py) du mA1 mC1 mH1 mG1 mS1 mI1 mT1 mP1) H → va_S (cA ad 13 s.heap.size) s.heap H locs → lv_has ls 4 [(0, .ref (ad 0)), (1, .int (nI i)), (2, .int (bal (due V ag nP i) (pd i) mo)), (3, .int (nI mo))] → W p l e (rmk 6 0 0) s m args below meth c H locs 0 0 Q (F0 m 14 ls []) := by
    intro n_
    induction n_ with
    | zero =>
      intro i mo mA1 mC1 mH1 mG1 mS1 mI1 mT1 mP1 hxi hi hmo hn
      omega
    | succ n_ ih =>
      intro i mo mA1 mC1 mH1 mG1 mS1 mI1 mT1 mP1 hxi hi hmo hn
      subst hxi
      intro H locs ls hW hS hl
      refine lv_iload_n hx hb dX6_balance_14 rfl (lv_at hl 3 rfl) ?_
      refine lv_aload_n hx hb dX6_balance_15 rfl (lv_at hl 0 rfl) ?_
      refine gfX6_145 B hT hW (by decide) mE_0 rfl dX6_balance_16 ?_
      refine lv_icmp_ge (tgt := 49) hx hb dX6_balance_19 (by decide) (fun c_19 => ?_) (fun c_19 => ?_)
      · skip
        refine lv_iload_n hx hb dX6_balance_49 rfl (lv_at hl 2 rfl) ?_
        exact e_i hQ B hr hlk hS hW dX6_balance_50 (Nat.le_of_ble_eq_true rfl) (Nat.le_of_ble_eq_true rfl) (⟨fun _ => by rw [ix_nI (by omega), show mo = rN from Nat.le_antisymm hmo ((nI_leI (by omega) (by omega)).mp c_19)], MW.mk⟩)
      · skip
        have q19 : mo < rN := Nat.lt_of_not_le (fun q => c_19 ((nI_leI (by omega) (by omega)).mpr q))
        refine lv_iload_n hx hb dX6_balance_22 rfl (lv_at hl 2 rfl) ?_
        refine lv_aload_n hx hb dX6_balance_23 rfl (lv_at hl 0 rfl) ?_
        refine lv_iload_n hx hb dX6_balance_24 rfl (lv_at hl 1 rfl) ?_
        refine lv_iload_n hx hb dX6_balance_25 rfl (lv_at hl 3 rfl) ?_
        refine b_ci (b_runV B hT hX hW hS (As := [.int (nI i), .int (nI mo)]) (rest := [.int (bal (due V ag nP i) (pd i) mo)]) (fun sz => mm_sumOf hI (kHou nH (nI i)) nP nH rN nf pn sp sk ag V T pd py du mA1 mC1 mH1 mG1 mS1 mI1 mT1 mP1 i mo so hti htz hInv (by omega) (by omega) sz) (cwX6_148 B.2.2.2.2.1 ⟨Nat.le_of_ble_eq_true rfl, Nat.le_of_ble_eq_true rfl⟩) (b_recv B hW (by decide) mE_0 rfl) rfl hl.1 (Nat.le_of_ble_eq_true rfl) dX6_balance_26 ⟨Nat.le_of_ble_eq_true rfl, Nat.le_of_ble_eq_true rfl⟩) hS (fun r_26 E1 H locs hp_26 hW hS => ?_)
        obtain ⟨hr_, jA_26, jB_26, jC_26, jD_26, jE_26, jF_26, jG_26, jH_26, hE_⟩ := hp_26
        subst hr_
        have hW := hW.eq hE_
        refine lv_aload_n hx hb dX6_balance_29 rfl (lv_at hl 0 rfl) ?_
        refine gfX6_42 B hT hW (by decide) mE_0 rfl dX6_balance_30 ?_
        refine lv_bipush (v := (nI 12)) hx hb dX6_balance_33 (by decide) ?_
        refine lv_iload_n hx hb dX6_balance_35 rfl (lv_at hl 1 rfl) ?_
        refine lv_imul hx hb dX6_balance_36 ?_
        refine b_top (y := nI (12 * i)) (pk_mul _ _) ?_
        refine lv_iload_n hx hb dX6_balance_37 rfl (lv_at hl 3 rfl) ?_
        refine lv_iadd hx hb dX6_balance_38 ?_
        refine b_top (y := nI (12 * i + mo)) (nI_add _ _) ?_
        refine b_iald B hW hti (j := (12 * i + mo)) (by decide) mE_10 (vp_in_nI (by omega) (Nat.le_of_ble_eq_true rfl)) (nI_clamp (by omega)) dX6_balance_39 ?_
        refine b_top (y := pd i mo) (FL_at (by omega) (by omega)) ?_
        refine lv_isub hx hb dX6_balance_40 ?_
        refine lv_iadd hx hb dX6_balance_41 ?_
        refine b_top (y := bal (due V ag nP i) (pd i) (mo + 1)) rfl ?_
        refine lv_istore_n (lv' := [(2, .int (bal (due V ag nP i) (pd i) (mo + 1))), (0, .ref (ad 0)), (1, .int (nI i)), (3, .int (nI mo))]) hx hb dX6_balance_42 rfl hl (by decide) rfl (fun ls hl => ?_)
        refine lv_iinc (v := (nI (mo + 1))) (lv' := [(3, .int (nI (mo + 1))), (2, .int (bal (due V ag nP i) (pd i) (mo + 1))), (0, .ref (ad 0)), (1, .int (nI i))]) hx hb dX6_balance_43 hl (k := 3) rfl (nI_1 mo) (by decide) rfl (fun ls hl => ?_)
        refine lv_goto (tgt := 14) hx hb dX6_balance_46 (by decide) ?_
        exact ih i (mo + 1) jA_26 jB_26 jC_26 jD_26 jE_26 jF_26 jG_26 jH_26 rfl hi (by omega) (by omega) _ _ _ hW hS (lv_sub hl [2, 3, 1, 0] rfl)
  refine lv_aload_n hx hb dX6_balance_0 rfl (lv_at hl 0 rfl) ?_
  refine lv_iload_n hx hb dX6_balance_1 rfl (lv_at hl 1 rfl) ?_
  refine b_ci (b_runV B hT hX hW hS (As := [.int x]) (rest := []) (fun sz => mm_isKnown hI th nP nH rN nf pn sp sk ag V T pd py du mA mC mH mG mS mI mT mP x hti htz (by omega) sz) (cwX6_168 B.2.2.2.2.1 ⟨Nat.le_of_ble_eq_true rfl, Nat.le_of_ble_eq_true rfl⟩) (b_recv B hW (by decide) mE_0 rfl) rfl hl.1 (Nat.le_of_ble_eq_true rfl) dX6_balance_2 ⟨Nat.le_of_ble_eq_true rfl, Nat.le_of_ble_eq_true rfl⟩) hS (fun r_2 E1 H locs hp_2 hW hS => ?_)
  obtain ⟨hr_, hE_⟩ := hp_2
  subst hr_
  have hW := hW.eq hE_
  refine lv_if_ne (tgt := 10) hx hb dX6_balance_5 (by decide) (fun c_5 => ?_) (fun c_5 => ?_)
  · skip
    obtain ⟨i, hi, rfl⟩ := vp_in_of (c10_t c_5) (by omega)
    refine lv_iconst (v := 0) hx hb dX6_balance_10 (by decide) ?_
    refine b_top (y := bal (due V ag nP i) (pd i) 0) rfl ?_
    refine lv_istore_n (lv' := [(2, .int (bal (due V ag nP i) (pd i) 0)), (0, .ref (ad 0)), (1, .int (nI i))]) hx hb dX6_balance_11 rfl hl (by decide) rfl (fun ls hl => ?_)
    refine lv_iconst (v := 0) hx hb dX6_balance_12 (by decide) ?_
    refine lv_istore_n (lv' := [(3, .int 0), (2, .int (bal (due V ag nP i) (pd i) 0)), (0, .ref (ad 0)), (1, .int (nI i))]) hx hb dX6_balance_13 rfl hl (by decide) rfl (fun ls hl => ?_)
    exact L_14 13 i 0 mA mC mH mG mS mI mT mP rfl hi (by omega) (by omega) _ _ _ hW hS (lv_sub hl [2, 3, 1, 0] rfl)
  · skip
    refine lv_iconst (v := 0) hx hb dX6_balance_8 (by decide) ?_
    exact e_i hQ B hr hlk hS hW dX6_balance_9 (Nat.le_of_ble_eq_true rfl) (Nat.le_of_ble_eq_true rfl) (⟨fun q => absurd (c10_t (c10_h q)) (c10_f c_5), MW.mk⟩)
set_option maxHeartbeats 4000000 in
set_option maxRecDepth 100000 in
theorem mm_isSettled {l : Launch} {D : va_G} {tys : List (ClassId × FieldType)} {ad : Nat → Nat} (hI : aI ad 13) {cI cZ : ClassId} (th : Int32) (nP nH rN : Nat) (nf pn : Int32) (sp sk : Int64) (ag : Nat → Int32) (V T : Nat → Nat → Int32) (pd py : Nat → Nat → Int32) (du : Nat → Int32) (mA mC mH mG mS mI mT mP : Int32) (x : Int32) (so : Nat → Int32) (hti : tys[0]? = some (cI, .int)) (htz : tys[1]? = some (cZ, .boolean)) (hInv : Inv V T ag nP nH rN so pd)  (sz : Nat) : Met l yX6_isSettled (Cond.code yX6_isSettled cX6_isSettled 4 (some .boolean) :: wsL_law) (rmk 6 0 0) (va_Pc [.ref (ad 0), .int x] (PC D tys ad 13 (mE cI cZ ad th nP nH rN nf pn sp sk ag (RV V) (RV T) (FL pd) (FL py) du mA mC mH mG mS mI mT mP) sz)) (Qi D ad 13 (fun r E1 => (kHou nH x = 0 → r = stl (due V ag nP (ix x)) (pd (ix x)) rN) ∧ MW cI cZ ad (kHou nH x) V T ag nP nH rN nf pn sp sk py pd E1) (cA ad 13 sz)) 0 0 (cA ad 13 sz) := by
  refine cm_of (own := RX6) (Qc := Qi D ad 13 (fun r E1 => (kHou nH x = 0 → r = stl (due V ag nP (ix x)) (pd (ix x)) rN) ∧ MW cI cZ ad (kHou nH x) V T ag nP nH rN nf pn sp sk py pd E1)) rfl (by decide +kernel) (Nat.le_of_ble_eq_true rfl) ?_ sz
  intro p e s m args below meth c ls Q B hT hX hW hr hlk hnm hl hS hA hQ
  have hx := B.1
  have hb := B.2.1
  have hl : lv_has ls 4 [(0, .ref (ad 0)), (1, .int x)] := hl
  obtain ⟨⟨hP8, hH4, hR12⟩, -⟩ := id hInv
  have L_14 : ∀ (n_ : Nat) (i : Nat) (mo : Nat) (mA1 : Int32) (mC1 : Int32) (mH1 : Int32) (mG1 : Int32) (mS1 : Int32) (mI1 : Int32) (mT1 : Int32) (mP1 : Int32), (hxi : x = nI i) → (hi : i < nH) → (hmo : mo ≤ rN) → (hn : rN < n_ + mo) → ∀ (H : Heap) (locs : List Loc) (ls : Array Slot), hH D ad 13 (mE cI cZ ad (kHou nH (nI i)) nP nH rN nf pn sp sk ag (RV V) (RV T) (FL pd) (FL py) du mA1 mC1 mH1 mG1 mS1 mI1 mT1 mP1) H → va_S (cA ad 13 s.heap.size) s.heap H locs → lv_has ls 4 [(0, .ref (ad 0)), (1, .int (nI i)), (2, .int (stl (due V ag nP i) (pd i) mo)), (3, .int (nI mo))] → W p l e (rmk 6 0 0) s m args below meth c H locs 0 0 Q (F0 m 14 ls []) := by
    intro n_
    induction n_ with
    | zero =>
      intro i mo mA1 mC1 mH1 mG1 mS1 mI1 mT1 mP1 hxi hi hmo hn
      omega
    | succ n_ ih =>
      intro i mo mA1 mC1 mH1 mG1 mS1 mI1 mT1 mP1 hxi hi hmo hn
      subst hxi
      intro H locs ls hW hS hl
      refine lv_iload_n hx hb dX6_isSettled_14 rfl (lv_at hl 3 rfl) ?_
      refine lv_aload_n hx hb dX6_isSettled_15 rfl (lv_at hl 0 rfl) ?_
      refine gfX6_145 B hT hW (by decide) mE_0 rfl dX6_isSettled_16 ?_
      refine lv_icmp_ge (tgt := 58) hx hb dX6_isSettled_19 (by decide) (fun c_19 => ?_) (fun c_19 => ?_)
      · skip
        refine lv_iload_n hx hb dX6_isSettled_58 rfl (lv_at hl 2 rfl) ?_
        exact e_n hQ B hr hlk hS (by first | rfl | decide | exact bo01 (stl_01 _)) hW dX6_isSettled_59 (Nat.le_of_ble_eq_true rfl) (Nat.le_of_ble_eq_true rfl) (⟨fun _ => by rw [ix_nI (by omega), show mo = rN from Nat.le_antisymm hmo ((nI_leI (by omega) (by omega)).mp c_19)], MW.mk⟩)
      · skip
        have q19 : mo < rN := Nat.lt_of_not_le (fun q => c_19 ((nI_leI (by omega) (by omega)).mpr q))
        refine lv_iload_n hx hb dX6_isSettled_22 rfl (lv_at hl 2 rfl) ?_
        refine lv_if_eq (tgt := 50) hx hb dX6_isSettled_23 (by decide) (fun c_23 => ?_) (fun c_23 => ?_)
        · skip
          refine lv_iconst (v := 0) hx hb dX6_isSettled_50 (by decide) ?_
          refine b_top (y := stl (due V ag nP i) (pd i) (mo + 1)) (by rw [stl, if_pos c_23]) ?_
          refine lv_istore_n (lv' := [(2, .int (stl (due V ag nP i) (pd i) (mo + 1))), (0, .ref (ad 0)), (1, .int (nI i)), (3, .int (nI mo))]) hx hb dX6_isSettled_51 rfl hl (by decide) rfl (fun ls hl => ?_)
          refine lv_iinc (v := (nI (mo + 1))) (lv' := [(3, .int (nI (mo + 1))), (2, .int (stl (due V ag nP i) (pd i) (mo + 1))), (0, .ref (ad 0)), (1, .int (nI i))]) hx hb dX6_isSettled_52 hl (k := 3) rfl (nI_1 mo) (by decide) rfl (fun ls hl => ?_)
          refine lv_goto (tgt := 14) hx hb dX6_isSettled_55 (by decide) ?_
          exact ih i (mo + 1) mA1 mC1 mH1 mG1 mS1 mI1 mT1 mP1 rfl hi (by omega) (by omega) _ _ _ hW hS (lv_sub hl [2, 3, 1, 0] rfl)
        · skip
          refine lv_aload_n hx hb dX6_isSettled_26 rfl (lv_at hl 0 rfl) ?_
          refine lv_iload_n hx hb dX6_isSettled_27 rfl (lv_at hl 1 rfl) ?_
          refine lv_iload_n hx hb dX6_isSettled_28 rfl (lv_at hl 3 rfl) ?_
          refine b_ci (b_runV B hT hX hW hS (As := [.int (nI i), .int (nI mo)]) (rest := []) (fun sz => mm_sumOf hI (kHou nH (nI i)) nP nH rN nf pn sp sk ag V T pd py du mA1 mC1 mH1 mG1 mS1 mI1 mT1 mP1 i mo so hti htz hInv (by omega) (by omega) sz) (cwX6_148 B.2.2.2.2.1 ⟨Nat.le_of_ble_eq_true rfl, Nat.le_of_ble_eq_true rfl⟩) (b_recv B hW (by decide) mE_0 rfl) rfl hl.1 (Nat.le_of_ble_eq_true rfl) dX6_isSettled_29 ⟨Nat.le_of_ble_eq_true rfl, Nat.le_of_ble_eq_true rfl⟩) hS (fun r_29 E1 H locs hp_29 hW hS => ?_)
          obtain ⟨hr_, jA_29, jB_29, jC_29, jD_29, jE_29, jF_29, jG_29, jH_29, hE_⟩ := hp_29
          subst hr_
          have hW := hW.eq hE_
          refine lv_aload_n hx hb dX6_isSettled_32 rfl (lv_at hl 0 rfl) ?_
          refine gfX6_42 B hT hW (by decide) mE_0 rfl dX6_isSettled_33 ?_
          refine lv_bipush (v := (nI 12)) hx hb dX6_isSettled_36 (by decide) ?_
          refine lv_iload_n hx hb dX6_isSettled_38 rfl (lv_at hl 1 rfl) ?_
          refine lv_imul hx hb dX6_isSettled_39 ?_
          refine b_top (y := nI (12 * i)) (pk_mul _ _) ?_
          refine lv_iload_n hx hb dX6_isSettled_40 rfl (lv_at hl 3 rfl) ?_
          refine lv_iadd hx hb dX6_isSettled_41 ?_
          refine b_top (y := nI (12 * i + mo)) (nI_add _ _) ?_
          refine b_iald B hW hti (j := (12 * i + mo)) (by decide) mE_10 (vp_in_nI (by omega) (Nat.le_of_ble_eq_true rfl)) (nI_clamp (by omega)) dX6_isSettled_42 ?_
          refine b_top (y := pd i mo) (FL_at (by omega) (by omega)) ?_
          refine lv_icmp_ne (tgt := 50) hx hb dX6_isSettled_43 (by decide) (fun c_43 => ?_) (fun c_43 => ?_)
          · skip
            refine lv_iconst (v := 0) hx hb dX6_isSettled_50 (by decide) ?_
            refine b_top (y := stl (due V ag nP i) (pd i) (mo + 1)) (by rw [stl, if_neg c_23, if_neg c_43]) ?_
            refine lv_istore_n (lv' := [(2, .int (stl (due V ag nP i) (pd i) (mo + 1))), (0, .ref (ad 0)), (1, .int (nI i)), (3, .int (nI mo))]) hx hb dX6_isSettled_51 rfl hl (by decide) rfl (fun ls hl => ?_)
            refine lv_iinc (v := (nI (mo + 1))) (lv' := [(3, .int (nI (mo + 1))), (2, .int (stl (due V ag nP i) (pd i) (mo + 1))), (0, .ref (ad 0)), (1, .int (nI i))]) hx hb dX6_isSettled_52 hl (k := 3) rfl (nI_1 mo) (by decide) rfl (fun ls hl => ?_)
            refine lv_goto (tgt := 14) hx hb dX6_isSettled_55 (by decide) ?_
            exact ih i (mo + 1) jA_29 jB_29 jC_29 jD_29 jE_29 jF_29 jG_29 jH_29 rfl hi (by omega) (by omega) _ _ _ hW hS (lv_sub hl [2, 3, 1, 0] rfl)
          · skip
            refine lv_iconst (v := 1) hx hb dX6_isSettled_46 (by decide) ?_
            refine lv_goto (tgt := 51) hx hb dX6_isSettled_47 (by decide) ?_
            refine b_top (y := stl (due V ag nP i) (pd i) (mo + 1)) (by rw [stl, if_neg c_23, if_pos c_43]) ?_
            refine lv_istore_n (lv' := [(2, .int (stl (due V ag nP i) (pd i) (mo + 1))), (0, .ref (ad 0)), (1, .int (nI i)), (3, .int (nI mo))]) hx hb dX6_isSettled_51 rfl hl (by decide) rfl (fun ls hl => ?_)
            refine lv_iinc (v := (nI (mo + 1))) (lv' := [(3, .int (nI (mo + 1))), (2, .int (stl (due V ag nP i) (pd i) (mo + 1))), (0, .ref (ad 0)), (1, .int (nI i))]) hx hb dX6_isSettled_52 hl (k := 3) rfl (nI_1 mo) (by decide) rfl (fun ls hl => ?_)
            refine lv_goto (tgt := 14) hx hb dX6_isSettled_55 (by decide) ?_
            exact ih i (mo + 1) jA_29 jB_29 jC_29 jD_29 jE_29 jF_29 jG_29 jH_29 rfl hi (by omega) (by omega) _ _ _ hW hS (lv_sub hl [2, 3, 1, 0] rfl)
  refine lv_aload_n hx hb dX6_isSettled_0 rfl (lv_at hl 0 rfl) ?_
  refine lv_iload_n hx hb dX6_isSettled_1 rfl (lv_at hl 1 rfl) ?_
  refine b_ci (b_runV B hT hX hW hS (As := [.int x]) (rest := []) (fun sz => mm_isKnown hI th nP nH rN nf pn sp sk ag V T pd py du mA mC mH mG mS mI mT mP x hti htz (by omega) sz) (cwX6_168 B.2.2.2.2.1 ⟨Nat.le_of_ble_eq_true rfl, Nat.le_of_ble_eq_true rfl⟩) (b_recv B hW (by decide) mE_0 rfl) rfl hl.1 (Nat.le_of_ble_eq_true rfl) dX6_isSettled_2 ⟨Nat.le_of_ble_eq_true rfl, Nat.le_of_ble_eq_true rfl⟩) hS (fun r_2 E1 H locs hp_2 hW hS => ?_)
  obtain ⟨hr_, hE_⟩ := hp_2
  subst hr_
  have hW := hW.eq hE_
  refine lv_if_ne (tgt := 10) hx hb dX6_isSettled_5 (by decide) (fun c_5 => ?_) (fun c_5 => ?_)
  · skip
    obtain ⟨i, hi, rfl⟩ := vp_in_of (c10_t c_5) (by omega)
    refine lv_iconst (v := 1) hx hb dX6_isSettled_10 (by decide) ?_
    refine b_top (y := stl (due V ag nP i) (pd i) 0) rfl ?_
    refine lv_istore_n (lv' := [(2, .int (stl (due V ag nP i) (pd i) 0)), (0, .ref (ad 0)), (1, .int (nI i))]) hx hb dX6_isSettled_11 rfl hl (by decide) rfl (fun ls hl => ?_)
    refine lv_iconst (v := 0) hx hb dX6_isSettled_12 (by decide) ?_
    refine lv_istore_n (lv' := [(3, .int 0), (2, .int (stl (due V ag nP i) (pd i) 0)), (0, .ref (ad 0)), (1, .int (nI i))]) hx hb dX6_isSettled_13 rfl hl (by decide) rfl (fun ls hl => ?_)
    exact L_14 13 i 0 mA mC mH mG mS mI mT mP rfl hi (by omega) (by omega) _ _ _ hW hS (lv_sub hl [2, 3, 1, 0] rfl)
  · skip
    refine lv_iconst (v := 0) hx hb dX6_isSettled_8 (by decide) ?_
    exact e_n hQ B hr hlk hS (by first | rfl | decide | exact bo01 (stl_01 _)) hW dX6_isSettled_9 (Nat.le_of_ble_eq_true rfl) (Nat.le_of_ble_eq_true rfl) (⟨fun q => absurd (c10_t (c10_h q)) (c10_f c_5), MW.mk⟩)
