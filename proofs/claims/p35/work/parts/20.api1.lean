theorem cwX5_60 {R : Room} {s : State} {args : Array Value} {rm : Room} (hts : ∀ w ∈ wsL_law, w.before args s = true) (hR : rm.frames + 1 ≤ R.frames ∧ 8 + (1 + 11) + rm.locals ≤ R.locals) : CWS R s args RX5 60 yX5_requireNumber cX5_requireNumber 1 none rm rm.cells rm.slots 1 :=
  va_cwS 1 hts (gi_S (r5_in _ (List.mem_of_getElem? (i := 14) rfl)) (r5_in _ (List.mem_of_getElem? (i := 15) rfl)) (r1_in _ (List.mem_of_getElem? (i := 2) rfl)) (r5_in _ (List.mem_of_getElem? (i := 16) rfl))) rfl rfl rfl (by decide +kernel) hR
theorem pfX5_74 {p : Program} {l : Launch} {e : Env} {R : Room} {s : State} {m : MethodId} {args : Array Value} {below : List Frame} {meth : Method} {c : Code} {H : Heap} {locs : List Loc} {cells slots : Nat} {Q : State → Prop} {cc : ByteArray} {pc nL : Nat} {ls : Array Slot} {rest : List Value} {D : va_G} {tys : List (ClassId × FieldType)} {ad : Nat → Nat} {N : Nat} {E : Nat → va_E} {k : Nat} {fs : List Value} {v : Value} {A : Nat → Prop} {H0 : Heap} (B : MB p c cc nL RX5 s m args D tys) (hT : TX s) (hI : aI ad N) (hA : ∀ k : Nat, k < N → A (ad k)) (hW : hH D ad N E H) (hS : va_S A H0 H locs) (hk : k < N) (he : E k = .inr (2, fs)) (hl : 0 < fs.length) (hn : narrow .int v = v) (hfit : fits .int v = true) (hdg : decode cc pc = .ok (.putfield 74, 3)) (kk : ∀ (H1 : Heap) (locs1 : List Loc), hH D ad N (va_up E k (.inr (2, fs.set 0 v))) H1 → va_S A H0 H1 locs1 → W p l e R s m args below meth c H1 locs1 cells slots Q (F0 m (pc + 3) ls rest)) : W p l e R s m args below meth c H locs cells slots Q (F0 m pc ls (v :: .ref (ad k) :: rest)) :=
  b_putN B hT hI hA hW hS (host := "BenefitOffice") inlX2 tyX2 tyX2_ok nmX2 rfl 0 (by decide) (List.mem_of_getElem? (i := 8) rfl) rfl rfl (by decide +kernel) hk he hl hn hfit hdg kk
theorem pfX5_63 {p : Program} {l : Launch} {e : Env} {R : Room} {s : State} {m : MethodId} {args : Array Value} {below : List Frame} {meth : Method} {c : Code} {H : Heap} {locs : List Loc} {cells slots : Nat} {Q : State → Prop} {cc : ByteArray} {pc nL : Nat} {ls : Array Slot} {rest : List Value} {D : va_G} {tys : List (ClassId × FieldType)} {ad : Nat → Nat} {N : Nat} {E : Nat → va_E} {k : Nat} {fs : List Value} {v : Value} {A : Nat → Prop} {H0 : Heap} (B : MB p c cc nL RX5 s m args D tys) (hT : TX s) (hI : aI ad N) (hA : ∀ k : Nat, k < N → A (ad k)) (hW : hH D ad N E H) (hS : va_S A H0 H locs) (hk : k < N) (he : E k = .inr (5, fs)) (hl : 3 < fs.length) (hn : narrow .int v = v) (hfit : fits .int v = true) (hdg : decode cc pc = .ok (.putfield 63, 3)) (kk : ∀ (H1 : Heap) (locs1 : List Loc), hH D ad N (va_up E k (.inr (5, fs.set 3 v))) H1 → va_S A H0 H1 locs1 → W p l e R s m args below meth c H1 locs1 cells slots Q (F0 m (pc + 3) ls rest)) : W p l e R s m args below meth c H locs cells slots Q (F0 m pc ls (v :: .ref (ad k) :: rest)) :=
  b_put B hI hA hW hS inlX5 tyX5 tyX5_ok nmX5 rfl 3 (by decide) (r5_in _ (List.mem_of_getElem? (i := 13) rfl)) rfl rfl (by decide +kernel) hk he hl hn hfit hdg kk
theorem pfX5_77 {p : Program} {l : Launch} {e : Env} {R : Room} {s : State} {m : MethodId} {args : Array Value} {below : List Frame} {meth : Method} {c : Code} {H : Heap} {locs : List Loc} {cells slots : Nat} {Q : State → Prop} {cc : ByteArray} {pc nL : Nat} {ls : Array Slot} {rest : List Value} {D : va_G} {tys : List (ClassId × FieldType)} {ad : Nat → Nat} {N : Nat} {E : Nat → va_E} {k : Nat} {fs : List Value} {v : Value} {A : Nat → Prop} {H0 : Heap} (B : MB p c cc nL RX5 s m args D tys) (hT : TX s) (hI : aI ad N) (hA : ∀ k : Nat, k < N → A (ad k)) (hW : hH D ad N E H) (hS : va_S A H0 H locs) (hk : k < N) (he : E k = .inr (5, fs)) (hl : 4 < fs.length) (hn : narrow .int v = v) (hfit : fits .int v = true) (hdg : decode cc pc = .ok (.putfield 77, 3)) (kk : ∀ (H1 : Heap) (locs1 : List Loc), hH D ad N (va_up E k (.inr (5, fs.set 4 v))) H1 → va_S A H0 H1 locs1 → W p l e R s m args below meth c H1 locs1 cells slots Q (F0 m (pc + 3) ls rest)) : W p l e R s m args below meth c H locs cells slots Q (F0 m pc ls (v :: .ref (ad k) :: rest)) :=
  b_put B hI hA hW hS inlX5 tyX5 tyX5_ok nmX5 rfl 4 (by decide) (r6_in _ (List.mem_of_getElem? (i := 2) rfl)) rfl rfl (by decide +kernel) hk he hl hn hfit hdg kk
theorem cwX5_82 {R : Room} {s : State} {args : Array Value} {rm : Room} (hts : ∀ w ∈ wsL_law, w.before args s = true) (hR : rm.frames + 1 ≤ R.frames ∧ 8 + (2 + 11) + rm.locals ≤ R.locals) : CWV R s args RX5 RX5 82 yX5_personNumbered cX5_personNumbered 2 (some (.object "BenefitOffice$Person")) rm rm.cells rm.slots 1 :=
  cwV 1 hts (gi_V (r6_in _ (List.mem_of_getElem? (i := 11) rfl)) (r6_in _ (List.mem_of_getElem? (i := 12) rfl)) (r6_in _ (List.mem_of_getElem? (i := 13) rfl)) (r1_in _ (List.mem_of_getElem? (i := 2) rfl)) (r6_in _ (List.mem_of_getElem? (i := 14) rfl))) rfl rfl rfl (by decide +kernel) hR
theorem cwX5_89 {R : Room} {s : State} {args : Array Value} {rm : Room} (hts : ∀ w ∈ wsL_law, w.before args s = true) (hR : rm.frames + 1 ≤ R.frames ∧ 8 + (1 + 11) + rm.locals ≤ R.locals) : CWS R s args RX5 89 yX5_requireDay cX5_requireDay 1 none rm rm.cells rm.slots 1 :=
  va_cwS 1 hts (gi_S (r6_in _ (List.mem_of_getElem? (i := 21) rfl)) (r6_in _ (List.mem_of_getElem? (i := 22) rfl)) (r1_in _ (List.mem_of_getElem? (i := 2) rfl)) (r6_in _ (List.mem_of_getElem? (i := 23) rfl))) rfl rfl rfl (by decide +kernel) hR
theorem cwX5_56 {R : Room} {s : State} {args : Array Value} {rm : Room} (hts : ∀ w ∈ wsL_law, w.before args s = true) (hR : rm.frames + 1 ≤ R.frames ∧ 8 + (5 + 11) + rm.locals ≤ R.locals) : CWV R s args RX5 RX5 56 yX5_tell cX5_tell 5 (some .int) rm rm.cells rm.slots 3 :=
  cwV 3 hts (gi_V (r3_in _ (List.mem_of_getElem? (i := 17) rfl)) (r3_in _ (List.mem_of_getElem? (i := 18) rfl)) (r3_in _ (List.mem_of_getElem? (i := 19) rfl)) (r1_in _ (List.mem_of_getElem? (i := 2) rfl)) (r3_in _ (List.mem_of_getElem? (i := 20) rfl))) rfl rfl rfl (by decide +kernel) hR
theorem gfX5_96 {p : Program} {l : Launch} {e : Env} {R : Room} {s : State} {m : MethodId} {args : Array Value} {below : List Frame} {meth : Method} {c : Code} {H : Heap} {locs : List Loc} {cells slots : Nat} {Q : State → Prop} {cc : ByteArray} {pc nL : Nat} {ls : Array Slot} {rest : List Value} {D : va_G} {tys : List (ClassId × FieldType)} {ad : Nat → Nat} {N : Nat} {E : Nat → va_E} {k : Nat} {fs : List Value} {v : Value} (B : MB p c cc nL RX5 s m args D tys) (hT : TX s) (hW : hH D ad N E H) (hk : k < N) (he : E k = .inr (2, fs)) (hv : fs[2]? = some v) (hdg : decode cc pc = .ok (.getfield 96, 3)) (kk : W p l e R s m args below meth c H locs cells slots Q (F0 m (pc + 3) ls (v :: rest))) : W p l e R s m args below meth c H locs cells slots Q (F0 m pc ls (.ref (ad k) :: rest)) :=
  b_getN B hT hW (host := "BenefitOffice") inlX2 rfl 2 (by decide) (List.mem_of_getElem? (i := 12) rfl) rfl hk he hv hdg kk
theorem cwX5_99 {R : Room} {s : State} {args : Array Value} {rm : Room} (hts : ∀ w ∈ wsL_law, w.before args s = true) (hR : rm.frames + 1 ≤ R.frames ∧ 8 + (2 + 11) + rm.locals ≤ R.locals) : CWV R s args RX5 RX5 99 yX5_householdNumbered cX5_householdNumbered 2 (some (.object "BenefitOffice$Household")) rm rm.cells rm.slots 1 :=
  cwV 1 hts (gi_V (r8_in _ (List.mem_of_getElem? (i := 4) rfl)) (r8_in _ (List.mem_of_getElem? (i := 5) rfl)) (r8_in _ (List.mem_of_getElem? (i := 6) rfl)) (r1_in _ (List.mem_of_getElem? (i := 2) rfl)) (r8_in _ (List.mem_of_getElem? (i := 7) rfl))) rfl rfl rfl (by decide +kernel) hR
theorem cwX5_106 {R : Room} {s : State} {args : Array Value} {rm : Room} (hts : ∀ w ∈ wsL_law, w.before args s = true) (hR : rm.frames + 1 ≤ R.frames ∧ 8 + (2 + 11) + rm.locals ≤ R.locals) : CWS R s args RX5 106 yX5_ruleIndex cX5_ruleIndex 2 (some .int) rm rm.cells rm.slots 1 :=
  va_cwS 1 hts (gi_S (r12_in _ (List.mem_of_getElem? (i := 6) rfl)) (r12_in _ (List.mem_of_getElem? (i := 7) rfl)) (r1_in _ (List.mem_of_getElem? (i := 2) rfl)) (r12_in _ (List.mem_of_getElem? (i := 8) rfl))) rfl rfl rfl (by decide +kernel) hR
theorem cwX5_118 {R : Room} {s : State} {args : Array Value} {rm : Room} (hts : ∀ w ∈ wsL_law, w.before args s = true) (hR : rm.frames + 1 ≤ R.frames ∧ 8 + (2 + 11) + rm.locals ≤ R.locals) : CWS R s args RX5 118 yX5_requireFact cX5_requireFact 2 none rm rm.cells rm.slots 2 :=
  va_cwS 2 hts (gi_S (r13_in _ (List.mem_of_getElem? (i := 3) rfl)) (r13_in _ (List.mem_of_getElem? (i := 4) rfl)) (r1_in _ (List.mem_of_getElem? (i := 2) rfl)) (r13_in _ (List.mem_of_getElem? (i := 5) rfl))) rfl rfl rfl (by decide +kernel) hR
theorem cwX5_122 {R : Room} {s : State} {args : Array Value} {rm : Room} (hts : ∀ w ∈ wsL_law, w.before args s = true) (hR : rm.frames + 1 ≤ R.frames ∧ 8 + (4 + 11) + rm.locals ≤ R.locals) : CWV R s args RX5 RX5 122 yX5_takeBack cX5_takeBack 4 (some .int) rm rm.cells rm.slots 2 :=
  cwV 2 hts (gi_V (r13_in _ (List.mem_of_getElem? (i := 6) rfl)) (r13_in _ (List.mem_of_getElem? (i := 7) rfl)) (r13_in _ (List.mem_of_getElem? (i := 8) rfl)) (r1_in _ (List.mem_of_getElem? (i := 2) rfl)) (r13_in _ (List.mem_of_getElem? (i := 9) rfl))) rfl rfl rfl (by decide +kernel) hR
theorem CW.mk {cI cZ cH cP cT : ClassId} {ad : Nat → Nat} {V T : Nat → Nat → Int32} {ag : Nat → Int32} {nP nH rN : Nat} {nf pn : Int32} {sp sk : Int64} {py pd : Nat → Nat → Int32} {so en : Nat → Int32} {rA rC rI aA aC aH aT aP : Int32} (h : Inv V T ag nP nH rN so pd) : CW cI cZ cH cP cT ad V T ag nP nH rN nf pn sp sk py pd (cE cI cZ cH cP cT ad V T ag nP nH rN nf pn sp sk py pd so en rA rC rI aA aC aH aT aP) := ⟨so, en, rA, rC, rI, aA, aC, aH, aT, aP, rfl, h⟩
theorem bo01 {x : Int32} (h : x = 0 ∨ x = 1) : narrow .boolean (.int x) = .int x := by
  rcases h with rfl | rfl <;> rfl
set_option maxHeartbeats 4000000 in
set_option maxRecDepth 100000 in
theorem mt_addPerson {l : Launch} (hlf : l.stackTraces = false) {D : va_G} {tys : List (ClassId × FieldType)} {ad : Nat → Nat} (hI : aI ad 109) {cI cZ cH cP cT : ClassId} (V T : Nat → Nat → Int32) (ag : Nat → Int32) (nP nH rN : Nat) (nf pn : Int32) (sp sk : Int64) (py pd : Nat → Nat → Int32) (so en : Nat → Int32) (rA rC rI aA aC aH aT aP : Int32) (x : Int32) (hti : tys[0]? = some (cI, .int)) (htz : cZ = cI) (hth : tys[2]? = some (cH, .object RX1)) (htp : tys[3]? = some (cP, .object RX2)) (htt : tys[4]? = some (cT, .object RX4)) (hInv : Inv V T ag nP nH rN so pd)  (sz : Nat) : vx_Met l yX5_addPerson (Cond.code yX5_addPerson cX5_addPerson 2 (some .int) :: wsL_law) (rmk 6 8 48) (va_Pc [.ref (ad 0), .int x] (PC D tys ad 109 (cE cI cZ cH cP cT ad V T ag nP nH rN nf pn sp sk py pd so en rA rC rI aA aC aH aT aP) sz)) (Qi D ad 109 (fun r E1 => (kAddP nP x = 0 ∧ r = nI nP) ∧ CW cI cZ cH cP cT ad V T (upd ag nP x) (nP + 1) nH rN nf pn sp sk py pd E1) (cA ad 109 sz)) (Xx D ad 109 (fun Ex E1 => (Ex = xIAE ∧ kAddP nP x = 1 ∨ Ex = xISE ∧ kAddP nP x = 2) ∧ CW cI cZ cH cP cT ad V T ag nP nH rN nf pn sp sk py pd E1) (cA ad 109 sz)) 8 48 (cA ad 109 sz) := by
  refine cx_of (own := RX5) (Qc := Qi D ad 109 (fun r E1 => (kAddP nP x = 0 ∧ r = nI nP) ∧ CW cI cZ cH cP cT ad V T (upd ag nP x) (nP + 1) nH rN nf pn sp sk py pd E1)) (XC := Xx D ad 109 (fun Ex E1 => (Ex = xIAE ∧ kAddP nP x = 1 ∨ Ex = xISE ∧ kAddP nP x = 2) ∧ CW cI cZ cH cP cT ad V T ag nP nH rN nf pn sp sk py pd E1)) rfl (by decide +kernel) (Nat.le_of_ble_eq_true rfl) ?_ sz
  intro p e s m args below meth c ls Q B hT hX hW hr hlk htb hl hS hA hQ
  have hx := B.1
  have hb := B.2.1
  have hl : lv_has ls 2 [(0, .ref (ad 0)), (1, .int x)] := hl
  obtain ⟨⟨hP8, hH4, hR12⟩, hTb, -, hso, -, -, hpd⟩ := id hInv
  refine lv_iload_n hx hb dX5_addPerson_0 rfl (lv_at hl 1 rfl) ?_
  refine b_xcv hQ (b_xrunS B hT hX hW hS (As := [.int x]) (rest := []) (fun sz => mt_reqNumber hlf hI x sz) (cwX5_60 B.2.2.2.2.1 ⟨Nat.le_of_ble_eq_true rfl, Nat.le_of_ble_eq_true rfl⟩) rfl hl.1 (Nat.le_of_ble_eq_true rfl) dX5_addPerson_1 ⟨Nat.le_of_ble_eq_true rfl, Nat.le_of_ble_eq_true rfl⟩) hS htb hlk (Nat.le_of_ble_eq_true rfl) (Nat.le_of_ble_eq_true rfl) (fun Ex E1 h => ⟨Or.inl (⟨h.1, by unfold kAddP; rw [cif_f h.2.1]⟩), by rw [h.2.2]; exact CW.mk hInv⟩) (fun E1 H locs hp_1 hW hS => ?_)
  obtain ⟨hv_1, hE_⟩ := hp_1
  have hW := hW.eq hE_
  obtain ⟨a, ha, rfl⟩ := vp_in_of hv_1 (by omega)
  refine lv_aload_n hx hb dX5_addPerson_4 rfl (lv_at hl 0 rfl) ?_
  refine gfX5_63 B hT hW (by decide) cE_0 rfl dX5_addPerson_5 ?_
  refine lv_bipush (v := (nI 8)) hx hb dX5_addPerson_8 (by decide) ?_
  refine lv_icmp_lt (tgt := 23) hx hb dX5_addPerson_10 (by decide) (fun c_10 => ?_) (fun c_10 => ?_)
  · skip
    have q10 : nP < 8 := (nI_ltI (by omega) (by omega)).mp c_10
    refine lv_aload_n hx hb dX5_addPerson_23 rfl (lv_at hl 0 rfl) ?_
    refine gfX5_11 B hT hW (by decide) cE_0 rfl dX5_addPerson_24 ?_
    refine lv_aload_n hx hb dX5_addPerson_27 rfl (lv_at hl 0 rfl) ?_
    refine gfX5_63 B hT hW (by decide) cE_0 rfl dX5_addPerson_28 ?_
    refine b_aald B hW 3 htp (j := nP) (by decide) cE_1 (vp_in_nI (by omega) (Nat.le_of_ble_eq_true rfl)) (nI_clamp (by omega)) rfl dX5_addPerson_31 ?_
    refine lv_iload_n hx hb dX5_addPerson_32 rfl (lv_at hl 1 rfl) ?_
    refine pfX5_74 B hT hI hA hW hS (by omega) (cE_per (by omega)) (Nat.le_of_ble_eq_true rfl) rfl (by first | rfl | decide) dX5_addPerson_33 (fun H locs hW hS => ?_)
    have hW := hW.eq (E' := cE cI cZ cH cP cT ad V T (upd ag nP (nI a)) nP nH rN nf pn sp sk py pd so en rA rC rI aA aC aH aT aP) (cE_uP (by omega) _)
    refine lv_iload_n hx hb dX5_addPerson_36 rfl (lv_at hl 1 rfl) ?_
    refine lv_sipush (v := (nI 360)) hx hb dX5_addPerson_37 (by decide) ?_
    refine lv_icmp_ge (tgt := 53) hx hb dX5_addPerson_40 (by decide) (fun c_40 => ?_) (fun c_40 => ?_)
    · skip
      refine lv_aload_n hx hb dX5_addPerson_53 rfl (lv_at hl 0 rfl) ?_
      refine lv_dup hx hb dX5_addPerson_54 rfl ?_
      refine gfX5_63 B hT hW (by decide) cE_0 rfl dX5_addPerson_55 ?_
      refine lv_iconst (v := 1) hx hb dX5_addPerson_58 (by decide) ?_
      refine lv_iadd hx hb dX5_addPerson_59 ?_
      refine b_top (y := nI (nP + 1)) (nI_1 nP) ?_
      refine pfX5_63 B hT hI hA hW hS (by decide) cE_0 (Nat.le_of_ble_eq_true rfl) rfl (by first | rfl | decide) dX5_addPerson_60 (fun H locs hW hS => ?_)
      have hW := hW.eq (E' := cE cI cZ cH cP cT ad V T (upd ag nP (nI a)) (nP + 1) nH rN nf pn sp sk py pd so en rA rC rI aA aC aH aT aP) (cE_u0 _ _ _ _ _ _ _)
      refine lv_aload_n hx hb dX5_addPerson_63 rfl (lv_at hl 0 rfl) ?_
      refine gfX5_63 B hT hW (by decide) cE_0 rfl dX5_addPerson_64 ?_
      refine lv_iconst (v := 1) hx hb dX5_addPerson_67 (by decide) ?_
      refine lv_isub hx hb dX5_addPerson_68 ?_
      refine b_top (y := nI nP) nI_m1 ?_
      exact x_i hQ B hr hlk hS hW dX5_addPerson_69 (Nat.le_of_ble_eq_true rfl) (Nat.le_of_ble_eq_true rfl) (⟨⟨by unfold kAddP; rw [cif_t (vp_in_nI ha (by omega)), cif_t q10], rfl⟩, by have hz := hInv.person q10 ha; rw [if_pos ((nI_leI (by omega) (by omega)).mp c_40)] at hz; exact CW.mk hz⟩)
    · skip
      have q40 : a < 360 := Nat.lt_of_not_le (fun q => c_40 ((nI_leI (by omega) (by omega)).mpr q))
      refine lv_aload_n hx hb dX5_addPerson_43 rfl (lv_at hl 0 rfl) ?_
      refine gfX5_27 B hT hW (by decide) cE_0 rfl dX5_addPerson_44 ?_
      refine lv_iload_n hx hb dX5_addPerson_47 rfl (lv_at hl 1 rfl) ?_
      refine lv_dup2_11 hx hb dX5_addPerson_48 rfl rfl ?_
      refine b_iald B hW hti (j := a) (by decide) cE_4 (vp_in_nI (by omega) (Nat.le_of_ble_eq_true rfl)) (nI_clamp (by omega)) dX5_addPerson_49 ?_
      refine lv_iconst (v := 1) hx hb dX5_addPerson_50 (by decide) ?_
      refine lv_iadd hx hb dX5_addPerson_51 ?_
      refine b_iast B hI hA hW hS hti (j := a) (by decide) cE_4 (vp_in_nI (by omega) (Nat.le_of_ble_eq_true rfl)) (nI_clamp (by omega)) dX5_addPerson_52 (fun H locs hW hS => ?_)
      have hW := hW.eq (E' := cE cI cZ cH cP cT ad V T (upd ag nP (nI a)) nP nH rN nf pn sp sk py pd (upd so a ((so a) + 1)) en rA rC rI aA aC aH aT aP) (cE_u4 _)
      refine lv_aload_n hx hb dX5_addPerson_53 rfl (lv_at hl 0 rfl) ?_
      refine lv_dup hx hb dX5_addPerson_54 rfl ?_
      refine gfX5_63 B hT hW (by decide) cE_0 rfl dX5_addPerson_55 ?_
      refine lv_iconst (v := 1) hx hb dX5_addPerson_58 (by decide) ?_
      refine lv_iadd hx hb dX5_addPerson_59 ?_
      refine b_top (y := nI (nP + 1)) (nI_1 nP) ?_
      refine pfX5_63 B hT hI hA hW hS (by decide) cE_0 (Nat.le_of_ble_eq_true rfl) rfl (by first | rfl | decide) dX5_addPerson_60 (fun H locs hW hS => ?_)
      have hW := hW.eq (E' := cE cI cZ cH cP cT ad V T (upd ag nP (nI a)) (nP + 1) nH rN nf pn sp sk py pd (upd so a ((so a) + 1)) en rA rC rI aA aC aH aT aP) (cE_u0 _ _ _ _ _ _ _)
      refine lv_aload_n hx hb dX5_addPerson_63 rfl (lv_at hl 0 rfl) ?_
      refine gfX5_63 B hT hW (by decide) cE_0 rfl dX5_addPerson_64 ?_
      refine lv_iconst (v := 1) hx hb dX5_addPerson_67 (by decide) ?_
      refine lv_isub hx hb dX5_addPerson_68 ?_
      refine b_top (y := nI nP) nI_m1 ?_
      exact x_i hQ B hr hlk hS hW dX5_addPerson_69 (Nat.le_of_ble_eq_true rfl) (Nat.le_of_ble_eq_true rfl) (⟨⟨by unfold kAddP; rw [cif_t (vp_in_nI ha (by omega)), cif_t q10], rfl⟩, by have hz := hInv.person q10 ha; rw [if_neg ((fun q => c_40 ((nI_leI (by omega) (by omega)).mpr q)))] at hz; exact CW.mk hz⟩)
  · skip
    exact b_throw hQ B hT hX hW hS hlf xf_ISE (List.mem_of_getElem? (i := 0) rfl) hl.1 dX5_addPerson_13 dX5_addPerson_16 dX5_addPerson_17 dX5_addPerson_19 dX5_addPerson_22 htb hlk (Nat.le_of_ble_eq_true rfl) (Nat.le_of_ble_eq_true rfl) (Nat.le_of_ble_eq_true rfl) (Nat.le_of_ble_eq_true rfl) (Nat.le_of_ble_eq_true rfl) (Nat.le_of_ble_eq_true rfl) (⟨Or.inr (⟨rfl, by unfold kAddP; rw [cif_t (vp_in_nI ha (by omega)), cif_f (fun q => c_10 ((nI_ltI (by omega) (by omega)).mpr q))]⟩), CW.mk hInv⟩)
set_option maxHeartbeats 4000000 in
set_option maxRecDepth 100000 in
theorem mt_addHousehold {l : Launch} (hlf : l.stackTraces = false) {D : va_G} {tys : List (ClassId × FieldType)} {ad : Nat → Nat} (hI : aI ad 109) {cI cZ cH cP cT : ClassId} (V T : Nat → Nat → Int32) (ag : Nat → Int32) (nP nH rN : Nat) (nf pn : Int32) (sp sk : Int64) (py pd : Nat → Nat → Int32) (so en : Nat → Int32) (rA rC rI aA aC aH aT aP : Int32) (hti : tys[0]? = some (cI, .int)) (htz : cZ = cI) (hth : tys[2]? = some (cH, .object RX1)) (htp : tys[3]? = some (cP, .object RX2)) (htt : tys[4]? = some (cT, .object RX4)) (hInv : Inv V T ag nP nH rN so pd)  (sz : Nat) : vx_Met l yX5_addHousehold (Cond.code yX5_addHousehold cX5_addHousehold 1 (some .int) :: wsL_law) (rmk 6 8 48) (va_Pc [.ref (ad 0)] (PC D tys ad 109 (cE cI cZ cH cP cT ad V T ag nP nH rN nf pn sp sk py pd so en rA rC rI aA aC aH aT aP) sz)) (Qi D ad 109 (fun r E1 => (kAddH nH = 0 ∧ r = nI nH) ∧ CW cI cZ cH cP cT ad V T ag nP (nH + 1) rN nf pn sp sk py pd E1) (cA ad 109 sz)) (Xx D ad 109 (fun Ex E1 => (Ex = xISE ∧ kAddH nH = 1) ∧ CW cI cZ cH cP cT ad V T ag nP nH rN nf pn sp sk py pd E1) (cA ad 109 sz)) 8 48 (cA ad 109 sz) := by
  refine cx_of (own := RX5) (Qc := Qi D ad 109 (fun r E1 => (kAddH nH = 0 ∧ r = nI nH) ∧ CW cI cZ cH cP cT ad V T ag nP (nH + 1) rN nf pn sp sk py pd E1)) (XC := Xx D ad 109 (fun Ex E1 => (Ex = xISE ∧ kAddH nH = 1) ∧ CW cI cZ cH cP cT ad V T ag nP nH rN nf pn sp sk py pd E1)) rfl (by decide +kernel) (Nat.le_of_ble_eq_true rfl) ?_ sz
  intro p e s m args below meth c ls Q B hT hX hW hr hlk htb hl hS hA hQ
  have hx := B.1
  have hb := B.2.1
  have hl : lv_has ls 1 [(0, .ref (ad 0))] := hl
  obtain ⟨⟨hP8, hH4, hR12⟩, hTb, -, hso, -, -, hpd⟩ := id hInv
  refine lv_aload_n hx hb dX5_addHousehold_0 rfl (lv_at hl 0 rfl) ?_
  refine gfX5_77 B hT hW (by decide) cE_0 rfl dX5_addHousehold_1 ?_
  refine lv_iconst (v := (nI 4)) hx hb dX5_addHousehold_4 (by decide) ?_
  refine lv_icmp_lt (tgt := 18) hx hb dX5_addHousehold_5 (by decide) (fun c_5 => ?_) (fun c_5 => ?_)
  · skip
    have q5 : nH < 4 := (nI_ltI (by omega) (by omega)).mp c_5
    refine lv_aload_n hx hb dX5_addHousehold_18 rfl (lv_at hl 0 rfl) ?_
    refine lv_dup hx hb dX5_addHousehold_19 rfl ?_
    refine gfX5_77 B hT hW (by decide) cE_0 rfl dX5_addHousehold_20 ?_
    refine lv_iconst (v := 1) hx hb dX5_addHousehold_23 (by decide) ?_
    refine lv_iadd hx hb dX5_addHousehold_24 ?_
    refine b_top (y := nI (nH + 1)) (nI_1 nH) ?_
    refine pfX5_77 B hT hI hA hW hS (by decide) cE_0 (Nat.le_of_ble_eq_true rfl) rfl (by first | rfl | decide) dX5_addHousehold_25 (fun H locs hW hS => ?_)
    have hW := hW.eq (E' := cE cI cZ cH cP cT ad V T ag nP (nH + 1) rN nf pn sp sk py pd so en rA rC rI aA aC aH aT aP) (cE_u0 _ _ _ _ _ _ _)
    refine lv_aload_n hx hb dX5_addHousehold_28 rfl (lv_at hl 0 rfl) ?_
    refine gfX5_77 B hT hW (by decide) cE_0 rfl dX5_addHousehold_29 ?_
    refine lv_iconst (v := 1) hx hb dX5_addHousehold_32 (by decide) ?_
    refine lv_isub hx hb dX5_addHousehold_33 ?_
    refine b_top (y := nI nH) nI_m1 ?_
    exact x_i hQ B hr hlk hS hW dX5_addHousehold_34 (Nat.le_of_ble_eq_true rfl) (Nat.le_of_ble_eq_true rfl) (⟨⟨by unfold kAddH; rw [cif_t q5], rfl⟩, CW.mk ⟨⟨hP8, by omega, hR12⟩, hInv.2⟩⟩)
  · skip
    exact b_throw hQ B hT hX hW hS hlf xf_ISE (List.mem_of_getElem? (i := 1) rfl) hl.1 dX5_addHousehold_8 dX5_addHousehold_11 dX5_addHousehold_12 dX5_addHousehold_14 dX5_addHousehold_17 htb hlk (Nat.le_of_ble_eq_true rfl) (Nat.le_of_ble_eq_true rfl) (Nat.le_of_ble_eq_true rfl) (Nat.le_of_ble_eq_true rfl) (Nat.le_of_ble_eq_true rfl) (Nat.le_of_ble_eq_true rfl) (⟨⟨rfl, by unfold kAddH; rw [cif_f (fun q => c_5 ((nI_ltI (by omega) (by omega)).mpr q))]⟩, CW.mk hInv⟩)
set_option maxHeartbeats 4000000 in
set_option maxRecDepth 100000 in
theorem mt_move {l : Launch} (hlf : l.stackTraces = false) {D : va_G} {tys : List (ClassId × FieldType)} {ad : Nat → Nat} (hI : aI ad 109) {cI cZ cH cP cT : ClassId} (V T : Nat → Nat → Int32) (ag : Nat → Int32) (nP nH rN : Nat) (nf pn : Int32) (sp sk : Int64) (py pd : Nat → Nat → Int32) (so en : Nat → Int32) (rA rC rI aA aC aH aT aP : Int32) (x hh dy : Int32) (hti : tys[0]? = some (cI, .int)) (htz : cZ = cI) (hth : tys[2]? = some (cH, .object RX1)) (htp : tys[3]? = some (cP, .object RX2)) (htt : tys[4]? = some (cT, .object RX4)) (hInv : Inv V T ag nP nH rN so pd)  (sz : Nat) : vx_Met l yX5_move (Cond.code yX5_move cX5_move 5 (some .int) :: wsL_law) (rmk 6 8 48) (va_Pc [.ref (ad 0), .int x, .int hh, .int dy] (PC D tys ad 109 (cE cI cZ cH cP cT ad V T ag nP nH rN nf pn sp sk py pd so en rA rC rI aA aC aH aT aP) sz)) (Qi D ad 109 (fun r E1 => (kMove nP nH x hh dy = 0 ∧ r = V (ix x) (ix dy)) ∧ CW cI cZ cH cP cT ad (upd2 V (ix x) (tellV (V (ix x)) (T (ix x)) (ix dy) hh)) (upd2 T (ix x) (upd (T (ix x)) (ix dy) 1)) ag nP nH rN (if T (ix x) (ix dy) = 0 then nf + 1 else nf) pn sp sk py pd E1) (cA ad 109 sz)) (Xx D ad 109 (fun Ex E1 => (Ex = xIOB ∧ kMove nP nH x hh dy = 1 ∨ Ex = xIAE ∧ kMove nP nH x hh dy = 2) ∧ CW cI cZ cH cP cT ad V T ag nP nH rN nf pn sp sk py pd E1) (cA ad 109 sz)) 8 48 (cA ad 109 sz) := by
  refine cx_of (own := RX5) (Qc := Qi D ad 109 (fun r E1 => (kMove nP nH x hh dy = 0 ∧ r = V (ix x) (ix dy)) ∧ CW cI cZ cH cP cT ad (upd2 V (ix x) (tellV (V (ix x)) (T (ix x)) (ix dy) hh)) (upd2 T (ix x) (upd (T (ix x)) (ix dy) 1)) ag nP nH rN (if T (ix x) (ix dy) = 0 then nf + 1 else nf) pn sp sk py pd E1)) (XC := Xx D ad 109 (fun Ex E1 => (Ex = xIOB ∧ kMove nP nH x hh dy = 1 ∨ Ex = xIAE ∧ kMove nP nH x hh dy = 2) ∧ CW cI cZ cH cP cT ad V T ag nP nH rN nf pn sp sk py pd E1)) rfl (by decide +kernel) (Nat.le_of_ble_eq_true rfl) ?_ sz
  intro p e s m args below meth c ls Q B hT hX hW hr hlk htb hl hS hA hQ
  have hx := B.1
  have hb := B.2.1
  have hl : lv_has ls 5 [(0, .ref (ad 0)), (1, .int x), (2, .int hh), (3, .int dy)] := hl
  obtain ⟨⟨hP8, hH4, hR12⟩, hTb, -, hso, -, -, hpd⟩ := id hInv
  refine lv_aload_n hx hb dX5_move_0 rfl (lv_at hl 0 rfl) ?_
  refine lv_iload_n hx hb dX5_move_1 rfl (lv_at hl 1 rfl) ?_
  refine b_xcq hQ (b_xrunV B hT hX hW hS (As := [.int x]) (rest := []) (fun sz => mt_persNum hlf hI V T ag nP nH rN nf pn sp sk py pd so en rA rC rI aA aC aH aT aP x hti htz hth htp htt hP8 sz) (cwX5_82 B.2.2.2.2.1 ⟨Nat.le_of_ble_eq_true rfl, Nat.le_of_ble_eq_true rfl⟩) (b_recv B hW (by decide) cE_0 rfl) rfl hl.1 (Nat.le_of_ble_eq_true rfl) dX5_move_2 ⟨Nat.le_of_ble_eq_true rfl, Nat.le_of_ble_eq_true rfl⟩) hS htb hlk (Nat.le_of_ble_eq_true rfl) (Nat.le_of_ble_eq_true rfl) (fun Ex E1 h => ⟨Or.inl (⟨h.1, by unfold kMove; rw [cif_f (fun q => h.2.1 q.1)]⟩), by rw [h.2.2]; exact CW.mk hInv⟩) (fun r_2 E1 H locs hp_2 hW hS => ?_)
  obtain ⟨hv_2, hr_, hE_⟩ := hp_2
  subst hr_
  have hW := hW.eq hE_
  obtain ⟨i, hi, rfl⟩ := vp_in_of hv_2 (by omega)
  refine W.eq (g2 := F0 m 5 ls [.ref (ad (8 + i))]) (by show F0 m 5 ls _ = _; rw [show ix (nI i) = i from nI_clamp (by omega)]; rfl) ?_
  refine lv_astore (lv' := [(4, .ref (ad (8 + i))), (0, .ref (ad 0)), (1, .int (nI i)), (2, .int hh), (3, .int dy)]) hx hb dX5_move_5 hl (by decide) rfl (fun ls hl => ?_)
  refine lv_iload_n hx hb dX5_move_7 rfl (lv_at hl 3 rfl) ?_
  refine lv_iconst (v := (-1)) hx hb dX5_move_8 (by decide) ?_
  refine lv_icmp_eq (tgt := 17) hx hb dX5_move_9 (by decide) (fun c_9 => ?_) (fun c_9 => ?_)
  · skip
    have hm : hh = -1 ∨ vp_in hh nH := Or.inl c_9
    refine lv_iload_n hx hb dX5_move_17 rfl (lv_at hl 4 rfl) ?_
    refine b_xcv hQ (b_xrunS B hT hX hW hS (As := [.int dy]) (rest := []) (fun sz => mt_reqDay hlf hI dy sz) (cwX5_89 B.2.2.2.2.1 ⟨Nat.le_of_ble_eq_true rfl, Nat.le_of_ble_eq_true rfl⟩) rfl hl.1 (Nat.le_of_ble_eq_true rfl) dX5_move_18 ⟨Nat.le_of_ble_eq_true rfl, Nat.le_of_ble_eq_true rfl⟩) hS htb hlk (Nat.le_of_ble_eq_true rfl) (Nat.le_of_ble_eq_true rfl) (fun Ex E1 h => ⟨Or.inr (⟨h.1, by unfold kMove; rw [cif_t ⟨vp_in_nI hi (by omega), hm⟩, cif_f h.2.1]⟩), by rw [h.2.2]; exact CW.mk hInv⟩) (fun E1 H locs hp_18 hW hS => ?_)
    obtain ⟨hv_18, hE_⟩ := hp_18
    have hW := hW.eq hE_
    obtain ⟨d, hd, rfl⟩ := vp_in_of hv_18 (by omega)
    have ei : ix (nI i) = i := nI_clamp (by omega)
    have ed : ix (nI d) = d := nI_clamp (by omega)
    refine lv_aload_n hx hb dX5_move_21 rfl (lv_at hl 1 rfl) ?_
    refine lv_aload hx hb dX5_move_22 (lv_at hl 0 rfl) ?_
    refine gfX5_92 B hT hW (by omega) (cE_per (by omega)) rfl dX5_move_24 ?_
    refine lv_iload_n hx hb dX5_move_27 rfl (lv_at hl 3 rfl) ?_
    refine lv_iload_n hx hb dX5_move_28 rfl (lv_at hl 4 rfl) ?_
    refine b_ci (b_runV B hT hX hW hS (As := [.ref (ad (20 + i)), .int hh, .int (nI d)]) (rest := []) (fun sz => mt_tell hI V T ag nP nH rN nf pn sp sk py pd so en rA rC rI aA aC aH aT aP i d hh hti htz hth htp htt (by omega) (by omega) (bo01 (hTb _ (by omega) _ (by omega))) sz) (cwX5_56 B.2.2.2.2.1 ⟨Nat.le_of_ble_eq_true rfl, Nat.le_of_ble_eq_true rfl⟩) (b_recv B hW (by decide) cE_0 rfl) rfl hl.1 (Nat.le_of_ble_eq_true rfl) dX5_move_29 ⟨Nat.le_of_ble_eq_true rfl, Nat.le_of_ble_eq_true rfl⟩) hS (fun r_29 E1 H locs hp_29 hW hS => ?_)
    obtain ⟨hr_, hE_⟩ := hp_29
    subst hr_
    have hW := hW.eq hE_
    exact x_i hQ B hr hlk hS hW dX5_move_32 (Nat.le_of_ble_eq_true rfl) (Nat.le_of_ble_eq_true rfl) (by rw [ei, ed]; exact ⟨⟨by unfold kMove; rw [cif_t ⟨vp_in_nI hi (by omega), Or.inl c_9⟩, cif_t (vp_in_nI hd (by omega))], rfl⟩, CW.mk (hInv.tell (by omega) hd (fun q _ => absurd q (by omega)) (fun r hr q => absurd q (by omega)))⟩)
  · skip
    refine lv_aload_n hx hb dX5_move_12 rfl (lv_at hl 1 rfl) ?_
    refine lv_iload_n hx hb dX5_move_13 rfl (lv_at hl 3 rfl) ?_
    refine b_xcv hQ (b_xrunV B hT hX hW hS (As := [.int hh]) (rest := []) (fun sz => mt_reqHouse hlf hI V T ag nP nH rN nf pn sp sk py pd so en rA rC rI aA aC aH aT aP hh hH4 sz) (cwX5_86 B.2.2.2.2.1 ⟨Nat.le_of_ble_eq_true rfl, Nat.le_of_ble_eq_true rfl⟩) (b_recv B hW (by decide) cE_0 rfl) rfl hl.1 (Nat.le_of_ble_eq_true rfl) dX5_move_14 ⟨Nat.le_of_ble_eq_true rfl, Nat.le_of_ble_eq_true rfl⟩) hS htb hlk (Nat.le_of_ble_eq_true rfl) (Nat.le_of_ble_eq_true rfl) (fun Ex E1 h => ⟨Or.inl (⟨h.1, by unfold kMove; rw [cif_f (fun q => q.2.elim c_9 h.2.1)]⟩), by rw [h.2.2]; exact CW.mk hInv⟩) (fun E1 H locs hp_14 hW hS => ?_)
    obtain ⟨hv_14, hE_⟩ := hp_14
    have hW := hW.eq hE_
    have hm : hh = -1 ∨ vp_in hh nH := Or.inr hv_14
    refine lv_iload_n hx hb dX5_move_17 rfl (lv_at hl 4 rfl) ?_
    refine b_xcv hQ (b_xrunS B hT hX hW hS (As := [.int dy]) (rest := []) (fun sz => mt_reqDay hlf hI dy sz) (cwX5_89 B.2.2.2.2.1 ⟨Nat.le_of_ble_eq_true rfl, Nat.le_of_ble_eq_true rfl⟩) rfl hl.1 (Nat.le_of_ble_eq_true rfl) dX5_move_18 ⟨Nat.le_of_ble_eq_true rfl, Nat.le_of_ble_eq_true rfl⟩) hS htb hlk (Nat.le_of_ble_eq_true rfl) (Nat.le_of_ble_eq_true rfl) (fun Ex E1 h => ⟨Or.inr (⟨h.1, by unfold kMove; rw [cif_t ⟨vp_in_nI hi (by omega), hm⟩, cif_f h.2.1]⟩), by rw [h.2.2]; exact CW.mk hInv⟩) (fun E1 H locs hp_18 hW hS => ?_)
    obtain ⟨hv_18, hE_⟩ := hp_18
    have hW := hW.eq hE_
    obtain ⟨d, hd, rfl⟩ := vp_in_of hv_18 (by omega)
    have ei : ix (nI i) = i := nI_clamp (by omega)
    have ed : ix (nI d) = d := nI_clamp (by omega)
    refine lv_aload_n hx hb dX5_move_21 rfl (lv_at hl 1 rfl) ?_
    refine lv_aload hx hb dX5_move_22 (lv_at hl 0 rfl) ?_
    refine gfX5_92 B hT hW (by omega) (cE_per (by omega)) rfl dX5_move_24 ?_
    refine lv_iload_n hx hb dX5_move_27 rfl (lv_at hl 3 rfl) ?_
    refine lv_iload_n hx hb dX5_move_28 rfl (lv_at hl 4 rfl) ?_
    refine b_ci (b_runV B hT hX hW hS (As := [.ref (ad (20 + i)), .int hh, .int (nI d)]) (rest := []) (fun sz => mt_tell hI V T ag nP nH rN nf pn sp sk py pd so en rA rC rI aA aC aH aT aP i d hh hti htz hth htp htt (by omega) (by omega) (bo01 (hTb _ (by omega) _ (by omega))) sz) (cwX5_56 B.2.2.2.2.1 ⟨Nat.le_of_ble_eq_true rfl, Nat.le_of_ble_eq_true rfl⟩) (b_recv B hW (by decide) cE_0 rfl) rfl hl.1 (Nat.le_of_ble_eq_true rfl) dX5_move_29 ⟨Nat.le_of_ble_eq_true rfl, Nat.le_of_ble_eq_true rfl⟩) hS (fun r_29 E1 H locs hp_29 hW hS => ?_)
    obtain ⟨hr_, hE_⟩ := hp_29
    subst hr_
    have hW := hW.eq hE_
    exact x_i hQ B hr hlk hS hW dX5_move_32 (Nat.le_of_ble_eq_true rfl) (Nat.le_of_ble_eq_true rfl) (by rw [ei, ed]; exact ⟨⟨by unfold kMove; rw [cif_t ⟨vp_in_nI hi (by omega), Or.inr hv_14⟩, cif_t (vp_in_nI hd (by omega))], rfl⟩, CW.mk (hInv.tell (by omega) hd (fun q _ => absurd q (by omega)) (fun r hr q => absurd q (by omega)))⟩)
set_option maxHeartbeats 4000000 in
set_option maxRecDepth 100000 in
theorem mt_setIncome {l : Launch} (hlf : l.stackTraces = false) {D : va_G} {tys : List (ClassId × FieldType)} {ad : Nat → Nat} (hI : aI ad 109) {cI cZ cH cP cT : ClassId} (V T : Nat → Nat → Int32) (ag : Nat → Int32) (nP nH rN : Nat) (nf pn : Int32) (sp sk : Int64) (py pd : Nat → Nat → Int32) (so en : Nat → Int32) (rA rC rI aA aC aH aT aP : Int32) (x v dy : Int32) (hti : tys[0]? = some (cI, .int)) (htz : cZ = cI) (hth : tys[2]? = some (cH, .object RX1)) (htp : tys[3]? = some (cP, .object RX2)) (htt : tys[4]? = some (cT, .object RX4)) (hInv : Inv V T ag nP nH rN so pd)  (sz : Nat) : vx_Met l yX5_setIncome (Cond.code yX5_setIncome cX5_setIncome 5 (some .int) :: wsL_law) (rmk 6 8 48) (va_Pc [.ref (ad 0), .int x, .int v, .int dy] (PC D tys ad 109 (cE cI cZ cH cP cT ad V T ag nP nH rN nf pn sp sk py pd so en rA rC rI aA aC aH aT aP) sz)) (Qi D ad 109 (fun r E1 => (kSet nP x v dy = 0 ∧ r = V (8 + ix x) (ix dy)) ∧ CW cI cZ cH cP cT ad (upd2 V (8 + ix x) (tellV (V (8 + ix x)) (T (8 + ix x)) (ix dy) v)) (upd2 T (8 + ix x) (upd (T (8 + ix x)) (ix dy) 1)) ag nP nH rN (if T (8 + ix x) (ix dy) = 0 then nf + 1 else nf) pn sp sk py pd E1) (cA ad 109 sz)) (Xx D ad 109 (fun Ex E1 => (Ex = xIOB ∧ kSet nP x v dy = 1 ∨ Ex = xIAE ∧ kSet nP x v dy = 2) ∧ CW cI cZ cH cP cT ad V T ag nP nH rN nf pn sp sk py pd E1) (cA ad 109 sz)) 8 48 (cA ad 109 sz) := by
  refine cx_of (own := RX5) (Qc := Qi D ad 109 (fun r E1 => (kSet nP x v dy = 0 ∧ r = V (8 + ix x) (ix dy)) ∧ CW cI cZ cH cP cT ad (upd2 V (8 + ix x) (tellV (V (8 + ix x)) (T (8 + ix x)) (ix dy) v)) (upd2 T (8 + ix x) (upd (T (8 + ix x)) (ix dy) 1)) ag nP nH rN (if T (8 + ix x) (ix dy) = 0 then nf + 1 else nf) pn sp sk py pd E1)) (XC := Xx D ad 109 (fun Ex E1 => (Ex = xIOB ∧ kSet nP x v dy = 1 ∨ Ex = xIAE ∧ kSet nP x v dy = 2) ∧ CW cI cZ cH cP cT ad V T ag nP nH rN nf pn sp sk py pd E1)) rfl (by decide +kernel) (Nat.le_of_ble_eq_true rfl) ?_ sz
  intro p e s m args below meth c ls Q B hT hX hW hr hlk htb hl hS hA hQ
  have hx := B.1
  have hb := B.2.1
  have hl : lv_has ls 5 [(0, .ref (ad 0)), (1, .int x), (2, .int v), (3, .int dy)] := hl
  obtain ⟨⟨hP8, hH4, hR12⟩, hTb, -, hso, -, -, hpd⟩ := id hInv
  refine lv_aload_n hx hb dX5_setIncome_0 rfl (lv_at hl 0 rfl) ?_
  refine lv_iload_n hx hb dX5_setIncome_1 rfl (lv_at hl 1 rfl) ?_
  refine b_xcq hQ (b_xrunV B hT hX hW hS (As := [.int x]) (rest := []) (fun sz => mt_persNum hlf hI V T ag nP nH rN nf pn sp sk py pd so en rA rC rI aA aC aH aT aP x hti htz hth htp htt hP8 sz) (cwX5_82 B.2.2.2.2.1 ⟨Nat.le_of_ble_eq_true rfl, Nat.le_of_ble_eq_true rfl⟩) (b_recv B hW (by decide) cE_0 rfl) rfl hl.1 (Nat.le_of_ble_eq_true rfl) dX5_setIncome_2 ⟨Nat.le_of_ble_eq_true rfl, Nat.le_of_ble_eq_true rfl⟩) hS htb hlk (Nat.le_of_ble_eq_true rfl) (Nat.le_of_ble_eq_true rfl) (fun Ex E1 h => ⟨Or.inl (⟨h.1, by unfold kSet; rw [cif_f h.2.1]⟩), by rw [h.2.2]; exact CW.mk hInv⟩) (fun r_2 E1 H locs hp_2 hW hS => ?_)
  obtain ⟨hv_2, hr_, hE_⟩ := hp_2
  subst hr_
  have hW := hW.eq hE_
  obtain ⟨i, hi, rfl⟩ := vp_in_of hv_2 (by omega)
  refine W.eq (g2 := F0 m 5 ls [.ref (ad (8 + i))]) (by show F0 m 5 ls _ = _; rw [show ix (nI i) = i from nI_clamp (by omega)]; rfl) ?_
  refine lv_astore (lv' := [(4, .ref (ad (8 + i))), (0, .ref (ad 0)), (1, .int (nI i)), (2, .int v), (3, .int dy)]) hx hb dX5_setIncome_5 hl (by decide) rfl (fun ls hl => ?_)
  refine lv_iload_n hx hb dX5_setIncome_7 rfl (lv_at hl 3 rfl) ?_
  refine b_xcv hQ (b_xrunS B hT hX hW hS (As := [.int v]) (rest := []) (fun sz => mt_reqNumber hlf hI v sz) (cwX5_60 B.2.2.2.2.1 ⟨Nat.le_of_ble_eq_true rfl, Nat.le_of_ble_eq_true rfl⟩) rfl hl.1 (Nat.le_of_ble_eq_true rfl) dX5_setIncome_8 ⟨Nat.le_of_ble_eq_true rfl, Nat.le_of_ble_eq_true rfl⟩) hS htb hlk (Nat.le_of_ble_eq_true rfl) (Nat.le_of_ble_eq_true rfl) (fun Ex E1 h => ⟨Or.inr (⟨h.1, by unfold kSet; rw [cif_t (vp_in_nI hi (by omega)), cif_f (fun q => h.2.1 q.1)]⟩), by rw [h.2.2]; exact CW.mk hInv⟩) (fun E1 H locs hp_8 hW hS => ?_)
  obtain ⟨hv_8, hE_⟩ := hp_8
  have hW := hW.eq hE_
  refine lv_iload_n hx hb dX5_setIncome_11 rfl (lv_at hl 4 rfl) ?_
  refine b_xcv hQ (b_xrunS B hT hX hW hS (As := [.int dy]) (rest := []) (fun sz => mt_reqDay hlf hI dy sz) (cwX5_89 B.2.2.2.2.1 ⟨Nat.le_of_ble_eq_true rfl, Nat.le_of_ble_eq_true rfl⟩) rfl hl.1 (Nat.le_of_ble_eq_true rfl) dX5_setIncome_12 ⟨Nat.le_of_ble_eq_true rfl, Nat.le_of_ble_eq_true rfl⟩) hS htb hlk (Nat.le_of_ble_eq_true rfl) (Nat.le_of_ble_eq_true rfl) (fun Ex E1 h => ⟨Or.inr (⟨h.1, by unfold kSet; rw [cif_t (vp_in_nI hi (by omega)), cif_f (fun q => h.2.1 q.2)]⟩), by rw [h.2.2]; exact CW.mk hInv⟩) (fun E1 H locs hp_12 hW hS => ?_)
  obtain ⟨hv_12, hE_⟩ := hp_12
  have hW := hW.eq hE_
  obtain ⟨d, hd, rfl⟩ := vp_in_of hv_12 (by omega)
  have ei : ix (nI i) = i := nI_clamp (by omega)
  have ed : ix (nI d) = d := nI_clamp (by omega)
  have hvr := vp_in_iff.mp hv_8
  refine lv_aload_n hx hb dX5_setIncome_15 rfl (lv_at hl 1 rfl) ?_
  refine lv_aload hx hb dX5_setIncome_16 (lv_at hl 0 rfl) ?_
  refine gfX5_96 B hT hW (by omega) (cE_per (by omega)) rfl dX5_setIncome_18 ?_
  refine lv_iload_n hx hb dX5_setIncome_21 rfl (lv_at hl 3 rfl) ?_
  refine lv_iload_n hx hb dX5_setIncome_22 rfl (lv_at hl 4 rfl) ?_
  refine b_ci (b_runV B hT hX hW hS (As := [.ref (ad (20 + (8 + i))), .int v, .int (nI d)]) (rest := []) (fun sz => mt_tell hI V T ag nP nH rN nf pn sp sk py pd so en rA rC rI aA aC aH aT aP (8 + i) d v hti htz hth htp htt (by omega) (by omega) (bo01 (hTb _ (by omega) _ (by omega))) sz) (cwX5_56 B.2.2.2.2.1 ⟨Nat.le_of_ble_eq_true rfl, Nat.le_of_ble_eq_true rfl⟩) (b_recv B hW (by decide) cE_0 rfl) rfl hl.1 (Nat.le_of_ble_eq_true rfl) dX5_setIncome_23 ⟨Nat.le_of_ble_eq_true rfl, Nat.le_of_ble_eq_true rfl⟩) hS (fun r_23 E1 H locs hp_23 hW hS => ?_)
  obtain ⟨hr_, hE_⟩ := hp_23
  subst hr_
  have hW := hW.eq hE_
  exact x_i hQ B hr hlk hS hW dX5_setIncome_26 (Nat.le_of_ble_eq_true rfl) (Nat.le_of_ble_eq_true rfl) (by rw [ei, ed]; exact ⟨⟨by unfold kSet; rw [cif_t (vp_in_nI hi (by omega)), cif_t ⟨hv_8, vp_in_nI hd (by omega)⟩], rfl⟩, CW.mk (hInv.tell (by omega) hd (fun _ _ => by omega) (fun r hr q => absurd q (by omega)))⟩)
set_option maxHeartbeats 4000000 in
set_option maxRecDepth 100000 in
theorem mt_setRent {l : Launch} (hlf : l.stackTraces = false) {D : va_G} {tys : List (ClassId × FieldType)} {ad : Nat → Nat} (hI : aI ad 109) {cI cZ cH cP cT : ClassId} (V T : Nat → Nat → Int32) (ag : Nat → Int32) (nP nH rN : Nat) (nf pn : Int32) (sp sk : Int64) (py pd : Nat → Nat → Int32) (so en : Nat → Int32) (rA rC rI aA aC aH aT aP : Int32) (x v dy : Int32) (hti : tys[0]? = some (cI, .int)) (htz : cZ = cI) (hth : tys[2]? = some (cH, .object RX1)) (htp : tys[3]? = some (cP, .object RX2)) (htt : tys[4]? = some (cT, .object RX4)) (hInv : Inv V T ag nP nH rN so pd)  (sz : Nat) : vx_Met l yX5_setRent (Cond.code yX5_setRent cX5_setRent 5 (some .int) :: wsL_law) (rmk 6 8 48) (va_Pc [.ref (ad 0), .int x, .int v, .int dy] (PC D tys ad 109 (cE cI cZ cH cP cT ad V T ag nP nH rN nf pn sp sk py pd so en rA rC rI aA aC aH aT aP) sz)) (Qi D ad 109 (fun r E1 => (kSet nH x v dy = 0 ∧ r = V (16 + ix x) (ix dy)) ∧ CW cI cZ cH cP cT ad (upd2 V (16 + ix x) (tellV (V (16 + ix x)) (T (16 + ix x)) (ix dy) v)) (upd2 T (16 + ix x) (upd (T (16 + ix x)) (ix dy) 1)) ag nP nH rN (if T (16 + ix x) (ix dy) = 0 then nf + 1 else nf) pn sp sk py pd E1) (cA ad 109 sz)) (Xx D ad 109 (fun Ex E1 => (Ex = xIOB ∧ kSet nH x v dy = 1 ∨ Ex = xIAE ∧ kSet nH x v dy = 2) ∧ CW cI cZ cH cP cT ad V T ag nP nH rN nf pn sp sk py pd E1) (cA ad 109 sz)) 8 48 (cA ad 109 sz) := by
  refine cx_of (own := RX5) (Qc := Qi D ad 109 (fun r E1 => (kSet nH x v dy = 0 ∧ r = V (16 + ix x) (ix dy)) ∧ CW cI cZ cH cP cT ad (upd2 V (16 + ix x) (tellV (V (16 + ix x)) (T (16 + ix x)) (ix dy) v)) (upd2 T (16 + ix x) (upd (T (16 + ix x)) (ix dy) 1)) ag nP nH rN (if T (16 + ix x) (ix dy) = 0 then nf + 1 else nf) pn sp sk py pd E1)) (XC := Xx D ad 109 (fun Ex E1 => (Ex = xIOB ∧ kSet nH x v dy = 1 ∨ Ex = xIAE ∧ kSet nH x v dy = 2) ∧ CW cI cZ cH cP cT ad V T ag nP nH rN nf pn sp sk py pd E1)) rfl (by decide +kernel) (Nat.le_of_ble_eq_true rfl) ?_ sz
  intro p e s m args below meth c ls Q B hT hX hW hr hlk htb hl hS hA hQ
  have hx := B.1
  have hb := B.2.1
  have hl : lv_has ls 5 [(0, .ref (ad 0)), (1, .int x), (2, .int v), (3, .int dy)] := hl
  obtain ⟨⟨hP8, hH4, hR12⟩, hTb, -, hso, -, -, hpd⟩ := id hInv
  refine lv_aload_n hx hb dX5_setRent_0 rfl (lv_at hl 0 rfl) ?_
  refine lv_iload_n hx hb dX5_setRent_1 rfl (lv_at hl 1 rfl) ?_
  refine b_xcq hQ (b_xrunV B hT hX hW hS (As := [.int x]) (rest := []) (fun sz => mt_houseNum hlf hI V T ag nP nH rN nf pn sp sk py pd so en rA rC rI aA aC aH aT aP x hti htz hth htp htt hH4 sz) (cwX5_99 B.2.2.2.2.1 ⟨Nat.le_of_ble_eq_true rfl, Nat.le_of_ble_eq_true rfl⟩) (b_recv B hW (by decide) cE_0 rfl) rfl hl.1 (Nat.le_of_ble_eq_true rfl) dX5_setRent_2 ⟨Nat.le_of_ble_eq_true rfl, Nat.le_of_ble_eq_true rfl⟩) hS htb hlk (Nat.le_of_ble_eq_true rfl) (Nat.le_of_ble_eq_true rfl) (fun Ex E1 h => ⟨Or.inl (⟨h.1, by unfold kSet; rw [cif_f h.2.1]⟩), by rw [h.2.2]; exact CW.mk hInv⟩) (fun r_2 E1 H locs hp_2 hW hS => ?_)
  obtain ⟨hv_2, hr_, hE_⟩ := hp_2
  subst hr_
  have hW := hW.eq hE_
  obtain ⟨i, hi, rfl⟩ := vp_in_of hv_2 (by omega)
  refine W.eq (g2 := F0 m 5 ls [.ref (ad (16 + i))]) (by show F0 m 5 ls _ = _; rw [show ix (nI i) = i from nI_clamp (by omega)]; rfl) ?_
  refine lv_astore (lv' := [(4, .ref (ad (16 + i))), (0, .ref (ad 0)), (1, .int (nI i)), (2, .int v), (3, .int dy)]) hx hb dX5_setRent_5 hl (by decide) rfl (fun ls hl => ?_)
  refine lv_iload_n hx hb dX5_setRent_7 rfl (lv_at hl 3 rfl) ?_
  refine b_xcv hQ (b_xrunS B hT hX hW hS (As := [.int v]) (rest := []) (fun sz => mt_reqNumber hlf hI v sz) (cwX5_60 B.2.2.2.2.1 ⟨Nat.le_of_ble_eq_true rfl, Nat.le_of_ble_eq_true rfl⟩) rfl hl.1 (Nat.le_of_ble_eq_true rfl) dX5_setRent_8 ⟨Nat.le_of_ble_eq_true rfl, Nat.le_of_ble_eq_true rfl⟩) hS htb hlk (Nat.le_of_ble_eq_true rfl) (Nat.le_of_ble_eq_true rfl) (fun Ex E1 h => ⟨Or.inr (⟨h.1, by unfold kSet; rw [cif_t (vp_in_nI hi (by omega)), cif_f (fun q => h.2.1 q.1)]⟩), by rw [h.2.2]; exact CW.mk hInv⟩) (fun E1 H locs hp_8 hW hS => ?_)
  obtain ⟨hv_8, hE_⟩ := hp_8
  have hW := hW.eq hE_
  refine lv_iload_n hx hb dX5_setRent_11 rfl (lv_at hl 4 rfl) ?_
  refine b_xcv hQ (b_xrunS B hT hX hW hS (As := [.int dy]) (rest := []) (fun sz => mt_reqDay hlf hI dy sz) (cwX5_89 B.2.2.2.2.1 ⟨Nat.le_of_ble_eq_true rfl, Nat.le_of_ble_eq_true rfl⟩) rfl hl.1 (Nat.le_of_ble_eq_true rfl) dX5_setRent_12 ⟨Nat.le_of_ble_eq_true rfl, Nat.le_of_ble_eq_true rfl⟩) hS htb hlk (Nat.le_of_ble_eq_true rfl) (Nat.le_of_ble_eq_true rfl) (fun Ex E1 h => ⟨Or.inr (⟨h.1, by unfold kSet; rw [cif_t (vp_in_nI hi (by omega)), cif_f (fun q => h.2.1 q.2)]⟩), by rw [h.2.2]; exact CW.mk hInv⟩) (fun E1 H locs hp_12 hW hS => ?_)
  obtain ⟨hv_12, hE_⟩ := hp_12
  have hW := hW.eq hE_
  obtain ⟨d, hd, rfl⟩ := vp_in_of hv_12 (by omega)
  have ei : ix (nI i) = i := nI_clamp (by omega)
  have ed : ix (nI d) = d := nI_clamp (by omega)
  have hvr := vp_in_iff.mp hv_8
  refine lv_aload_n hx hb dX5_setRent_15 rfl (lv_at hl 1 rfl) ?_
  refine lv_aload hx hb dX5_setRent_16 (lv_at hl 0 rfl) ?_
  refine gfX5_103 B hT hW (by omega) (cE_hh (by omega)) rfl dX5_setRent_18 ?_
  refine lv_iload_n hx hb dX5_setRent_21 rfl (lv_at hl 3 rfl) ?_
  refine lv_iload_n hx hb dX5_setRent_22 rfl (lv_at hl 4 rfl) ?_
  refine b_ci (b_runV B hT hX hW hS (As := [.ref (ad (20 + (16 + i))), .int v, .int (nI d)]) (rest := []) (fun sz => mt_tell hI V T ag nP nH rN nf pn sp sk py pd so en rA rC rI aA aC aH aT aP (16 + i) d v hti htz hth htp htt (by omega) (by omega) (bo01 (hTb _ (by omega) _ (by omega))) sz) (cwX5_56 B.2.2.2.2.1 ⟨Nat.le_of_ble_eq_true rfl, Nat.le_of_ble_eq_true rfl⟩) (b_recv B hW (by decide) cE_0 rfl) rfl hl.1 (Nat.le_of_ble_eq_true rfl) dX5_setRent_23 ⟨Nat.le_of_ble_eq_true rfl, Nat.le_of_ble_eq_true rfl⟩) hS (fun r_23 E1 H locs hp_23 hW hS => ?_)
  obtain ⟨hr_, hE_⟩ := hp_23
  subst hr_
  have hW := hW.eq hE_
  exact x_i hQ B hr hlk hS hW dX5_setRent_26 (Nat.le_of_ble_eq_true rfl) (Nat.le_of_ble_eq_true rfl) (by rw [ei, ed]; exact ⟨⟨by unfold kSet; rw [cif_t (vp_in_nI hi (by omega)), cif_t ⟨hv_8, vp_in_nI hd (by omega)⟩], rfl⟩, CW.mk (hInv.tell (by omega) hd (fun _ _ => by omega) (fun r hr q => absurd q (by omega)))⟩)
set_option maxHeartbeats 4000000 in
set_option maxRecDepth 100000 in
theorem mt_setRule {l : Launch} (hlf : l.stackTraces = false) {D : va_G} {tys : List (ClassId × FieldType)} {ad : Nat → Nat} (hI : aI ad 109) {cI cZ cH cP cT : ClassId} (V T : Nat → Nat → Int32) (ag : Nat → Int32) (nP nH rN : Nat) (nf pn : Int32) (sp sk : Int64) (py pd : Nat → Nat → Int32) (so en : Nat → Int32) (rA rC rI aA aC aH aT aP : Int32) (x v dy : Int32) (hti : tys[0]? = some (cI, .int)) (htz : cZ = cI) (hth : tys[2]? = some (cH, .object RX1)) (htp : tys[3]? = some (cP, .object RX2)) (htt : tys[4]? = some (cT, .object RX4)) (hInv : Inv V T ag nP nH rN so pd)  (sz : Nat) : vx_Met l yX5_setRule (Cond.code yX5_setRule cX5_setRule 5 (some .int) :: wsL_law) (rmk 6 8 48) (va_Pc [.ref (ad 0), .int x, .int v, .int dy] (PC D tys ad 109 (cE cI cZ cH cP cT ad V T ag nP nH rN nf pn sp sk py pd so en rA rC rI aA aC aH aT aP) sz)) (Qi D ad 109 (fun r E1 => (kRule x v dy = 0 ∧ r = V (20 + rIx x) (ix dy)) ∧ CW cI cZ cH cP cT ad (upd2 V (20 + rIx x) (tellV (V (20 + rIx x)) (T (20 + rIx x)) (ix dy) v)) (upd2 T (20 + rIx x) (upd (T (20 + rIx x)) (ix dy) 1)) ag nP nH rN (if T (20 + rIx x) (ix dy) = 0 then nf + 1 else nf) pn sp sk py pd E1) (cA ad 109 sz)) (Xx D ad 109 (fun Ex E1 => (Ex = xNSE ∧ kRule x v dy = 1 ∨ Ex = xIAE ∧ kRule x v dy = 2) ∧ CW cI cZ cH cP cT ad V T ag nP nH rN nf pn sp sk py pd E1) (cA ad 109 sz)) 8 48 (cA ad 109 sz) := by
  refine cx_of (own := RX5) (Qc := Qi D ad 109 (fun r E1 => (kRule x v dy = 0 ∧ r = V (20 + rIx x) (ix dy)) ∧ CW cI cZ cH cP cT ad (upd2 V (20 + rIx x) (tellV (V (20 + rIx x)) (T (20 + rIx x)) (ix dy) v)) (upd2 T (20 + rIx x) (upd (T (20 + rIx x)) (ix dy) 1)) ag nP nH rN (if T (20 + rIx x) (ix dy) = 0 then nf + 1 else nf) pn sp sk py pd E1)) (XC := Xx D ad 109 (fun Ex E1 => (Ex = xNSE ∧ kRule x v dy = 1 ∨ Ex = xIAE ∧ kRule x v dy = 2) ∧ CW cI cZ cH cP cT ad V T ag nP nH rN nf pn sp sk py pd E1)) rfl (by decide +kernel) (Nat.le_of_ble_eq_true rfl) ?_ sz
  intro p e s m args below meth c ls Q B hT hX hW hr hlk htb hl hS hA hQ
  have hx := B.1
  have hb := B.2.1
  have hl : lv_has ls 5 [(0, .ref (ad 0)), (1, .int x), (2, .int v), (3, .int dy)] := hl
  obtain ⟨⟨hP8, hH4, hR12⟩, hTb, -, hso, -, -, hpd⟩ := id hInv
  refine lv_iload_n hx hb dX5_setRule_0 rfl (lv_at hl 1 rfl) ?_
  refine b_xci hQ (b_xrunS B hT hX hW hS (As := [.int x]) (rest := []) (fun sz => mt_ruleIx hlf hI x sz) (cwX5_106 B.2.2.2.2.1 ⟨Nat.le_of_ble_eq_true rfl, Nat.le_of_ble_eq_true rfl⟩) rfl hl.1 (Nat.le_of_ble_eq_true rfl) dX5_setRule_1 ⟨Nat.le_of_ble_eq_true rfl, Nat.le_of_ble_eq_true rfl⟩) hS htb hlk (Nat.le_of_ble_eq_true rfl) (Nat.le_of_ble_eq_true rfl) (fun Ex E1 h => ⟨Or.inl (⟨h.1, by unfold kRule; rw [cif_f (by rw [rIx_no h.2.1]; decide)]⟩), by rw [h.2.2]; exact CW.mk hInv⟩) (fun r_1 E1 H locs hp_1 hW hS => ?_)
  obtain ⟨ri, hri, hr_, hlet, hE_⟩ := hp_1
  subst hr_
  have hW := hW.eq hE_
  subst hlet
  have el : rIx (ruLet ri) = ri := rIx_of ri hri
  refine lv_istore (lv' := [(4, .int (nI ri)), (0, .ref (ad 0)), (1, .int (ruLet ri)), (2, .int v), (3, .int dy)]) hx hb dX5_setRule_4 hl (by decide) rfl (fun ls hl => ?_)
  refine lv_iload_n hx hb dX5_setRule_6 rfl (lv_at hl 3 rfl) ?_
  refine lv_if_lt (tgt := 20) hx hb dX5_setRule_7 (by decide) (fun c_7 => ?_) (fun c_7 => ?_)
  · skip
    exact b_throw hQ B hT hX hW hS hlf xf_IAE (List.mem_of_getElem? (i := 2) rfl) hl.1 dX5_setRule_20 dX5_setRule_23 dX5_setRule_24 dX5_setRule_26 dX5_setRule_29 htb hlk (Nat.le_of_ble_eq_true rfl) (Nat.le_of_ble_eq_true rfl) (Nat.le_of_ble_eq_true rfl) (Nat.le_of_ble_eq_true rfl) (Nat.le_of_ble_eq_true rfl) (Nat.le_of_ble_eq_true rfl) (⟨Or.inr (⟨rfl, by unfold kRule; rw [cif_t (by rw [el]; exact hri), cif_f (fun q => q.1.1 c_7)]⟩), CW.mk hInv⟩)
  · skip
    refine lv_iload_n hx hb dX5_setRule_10 rfl (lv_at hl 3 rfl) ?_
    refine b_tabI B hX.2.2.1 hS (r12_in _ (List.mem_of_getElem? (i := 19) rfl)) dX5_setRule_11 (fun t_11 ht_11 => ?_)
    refine lv_iload hx hb dX5_setRule_14 (lv_at hl 0 rfl) ?_
    refine va_ti hx hb ht_11 hS (vp_in_nI hri (by decide)) (v := .int (ruGr ri)) (by show Value.int (ruGr _) = _; rw [(nI_clamp (by omega))]) dX5_setRule_16 ?_
    refine lv_icmp_le (tgt := 30) hx hb dX5_setRule_17 (by decide) (fun c_17 => ?_) (fun c_17 => ?_)
    · skip
      refine lv_iload_n hx hb dX5_setRule_30 rfl (lv_at hl 4 rfl) ?_
      refine b_xcv hQ (b_xrunS B hT hX hW hS (As := [.int dy]) (rest := []) (fun sz => mt_reqDay hlf hI dy sz) (cwX5_89 B.2.2.2.2.1 ⟨Nat.le_of_ble_eq_true rfl, Nat.le_of_ble_eq_true rfl⟩) rfl hl.1 (Nat.le_of_ble_eq_true rfl) dX5_setRule_31 ⟨Nat.le_of_ble_eq_true rfl, Nat.le_of_ble_eq_true rfl⟩) hS htb hlk (Nat.le_of_ble_eq_true rfl) (Nat.le_of_ble_eq_true rfl) (fun Ex E1 h => ⟨Or.inr (⟨h.1, by unfold kRule; rw [cif_t (by rw [el]; exact hri), cif_f (fun q => h.2.1 q.2)]⟩), by rw [h.2.2]; exact CW.mk hInv⟩) (fun E1 H locs hp_31 hW hS => ?_)
      obtain ⟨hv_31, hE_⟩ := hp_31
      have hW := hW.eq hE_
      obtain ⟨d, hd, rfl⟩ := vp_in_of hv_31 (by omega)
      have ed : ix (nI d) = d := nI_clamp (by omega)
      refine lv_aload_n hx hb dX5_setRule_34 rfl (lv_at hl 1 rfl) ?_
      refine lv_aload_n hx hb dX5_setRule_35 rfl (lv_at hl 1 rfl) ?_
      refine gfX5_23 B hT hW (by decide) cE_0 rfl dX5_setRule_36 ?_
      refine lv_iload hx hb dX5_setRule_39 (lv_at hl 0 rfl) ?_
      refine b_aald B hW 4 htt (j := ri) (by decide) cE_3 (vp_in_nI hri (by decide)) (nI_clamp (by omega)) rfl dX5_setRule_41 ?_
      refine lv_iload_n hx hb dX5_setRule_42 rfl (lv_at hl 3 rfl) ?_
      refine lv_iload_n hx hb dX5_setRule_43 rfl (lv_at hl 4 rfl) ?_
      refine b_ci (b_runV B hT hX hW hS (As := [.ref (ad (20 + (20 + ri))), .int v, .int (nI d)]) (rest := []) (fun sz => mt_tell hI V T ag nP nH rN nf pn sp sk py pd so en rA rC rI aA aC aH aT aP (20 + ri) d v hti htz hth htp htt (by omega) (by omega) (bo01 (hTb _ (by omega) _ (by omega))) sz) (cwX5_56 B.2.2.2.2.1 ⟨Nat.le_of_ble_eq_true rfl, Nat.le_of_ble_eq_true rfl⟩) (b_recv B hW (by decide) cE_0 rfl) rfl hl.1 (Nat.le_of_ble_eq_true rfl) dX5_setRule_44 ⟨Nat.le_of_ble_eq_true rfl, Nat.le_of_ble_eq_true rfl⟩) hS (fun r_44 E1 H locs hp_44 hW hS => ?_)
      obtain ⟨hr_, hE_⟩ := hp_44
      subst hr_
      have hW := hW.eq hE_
      exact x_i hQ B hr hlk hS hW dX5_setRule_47 (Nat.le_of_ble_eq_true rfl) (Nat.le_of_ble_eq_true rfl) (by rw [el, ed]; exact ⟨⟨by unfold kRule; rw [cif_t (by rw [el]; exact hri), cif_t ⟨⟨c_7, by rw [el]; exact c_17⟩, vp_in_nI hd (by omega)⟩], rfl⟩, CW.mk (hInv.tell (by omega) hd (fun _ q => absurd q (by omega)) (fun r hr q => by rw [show r = ri by omega]; exact ⟨by have := mt (fa_lt v 0).mpr c_7; have h0 : (0 : Int32).toInt = 0 := rfl; omega, (fa_le _ _).mp c_17⟩))⟩)
    · skip
      exact b_throw hQ B hT hX hW hS hlf xf_IAE (List.mem_of_getElem? (i := 2) rfl) hl.1 dX5_setRule_20 dX5_setRule_23 dX5_setRule_24 dX5_setRule_26 dX5_setRule_29 htb hlk (Nat.le_of_ble_eq_true rfl) (Nat.le_of_ble_eq_true rfl) (Nat.le_of_ble_eq_true rfl) (Nat.le_of_ble_eq_true rfl) (Nat.le_of_ble_eq_true rfl) (Nat.le_of_ble_eq_true rfl) (⟨Or.inr (⟨rfl, by unfold kRule; rw [cif_t (by rw [el]; exact hri), cif_f (fun q => c_17 (by have := q.1.2; rw [el] at this; exact this))]⟩), CW.mk hInv⟩)
set_option maxHeartbeats 4000000 in
set_option maxRecDepth 100000 in
theorem mt_takeBackMove {l : Launch} (hlf : l.stackTraces = false) {D : va_G} {tys : List (ClassId × FieldType)} {ad : Nat → Nat} (hI : aI ad 109) {cI cZ cH cP cT : ClassId} (V T : Nat → Nat → Int32) (ag : Nat → Int32) (nP nH rN : Nat) (nf pn : Int32) (sp sk : Int64) (py pd : Nat → Nat → Int32) (so en : Nat → Int32) (rA rC rI aA aC aH aT aP : Int32) (x dy : Int32) (hti : tys[0]? = some (cI, .int)) (htz : cZ = cI) (hth : tys[2]? = some (cH, .object RX1)) (htp : tys[3]? = some (cP, .object RX2)) (htt : tys[4]? = some (cT, .object RX4)) (hInv : Inv V T ag nP nH rN so pd)  (sz : Nat) : vx_Met l yX5_takeBackMove (Cond.code yX5_takeBackMove cX5_takeBackMove 4 (some .int) :: wsL_law) (rmk 6 8 48) (va_Pc [.ref (ad 0), .int x, .int dy] (PC D tys ad 109 (cE cI cZ cH cP cT ad V T ag nP nH rN nf pn sp sk py pd so en rA rC rI aA aC aH aT aP) sz)) (Qi D ad 109 (fun r E1 => (kTake T 0 nP x dy = 0 ∧ r = V (0 + ix x) (ix dy)) ∧ CW cI cZ cH cP cT ad (upd2 V (0 + ix x) (takeV (V (0 + ix x)) (T (0 + ix x)) (ix dy) (w0 (0 + ix x)))) (upd2 T (0 + ix x) (upd (T (0 + ix x)) (ix dy) 0)) ag nP nH rN (nf - 1) pn sp sk py pd E1) (cA ad 109 sz)) (Xx D ad 109 (fun Ex E1 => (Ex = xIOB ∧ kTake T 0 nP x dy = 1 ∨ Ex = xNSE ∧ kTake T 0 nP x dy = 2) ∧ CW cI cZ cH cP cT ad V T ag nP nH rN nf pn sp sk py pd E1) (cA ad 109 sz)) 8 48 (cA ad 109 sz) := by
  refine cx_of (own := RX5) (Qc := Qi D ad 109 (fun r E1 => (kTake T 0 nP x dy = 0 ∧ r = V (0 + ix x) (ix dy)) ∧ CW cI cZ cH cP cT ad (upd2 V (0 + ix x) (takeV (V (0 + ix x)) (T (0 + ix x)) (ix dy) (w0 (0 + ix x)))) (upd2 T (0 + ix x) (upd (T (0 + ix x)) (ix dy) 0)) ag nP nH rN (nf - 1) pn sp sk py pd E1)) (XC := Xx D ad 109 (fun Ex E1 => (Ex = xIOB ∧ kTake T 0 nP x dy = 1 ∨ Ex = xNSE ∧ kTake T 0 nP x dy = 2) ∧ CW cI cZ cH cP cT ad V T ag nP nH rN nf pn sp sk py pd E1)) rfl (by decide +kernel) (Nat.le_of_ble_eq_true rfl) ?_ sz
  intro p e s m args below meth c ls Q B hT hX hW hr hlk htb hl hS hA hQ
  have hx := B.1
  have hb := B.2.1
  have hl : lv_has ls 4 [(0, .ref (ad 0)), (1, .int x), (2, .int dy)] := hl
  obtain ⟨⟨hP8, hH4, hR12⟩, hTb, -, hso, -, -, hpd⟩ := id hInv
  refine lv_aload_n hx hb dX5_takeBackMove_0 rfl (lv_at hl 0 rfl) ?_
  refine lv_iload_n hx hb dX5_takeBackMove_1 rfl (lv_at hl 1 rfl) ?_
  refine b_xcq hQ (b_xrunV B hT hX hW hS (As := [.int x]) (rest := []) (fun sz => mt_persNum hlf hI V T ag nP nH rN nf pn sp sk py pd so en rA rC rI aA aC aH aT aP x hti htz hth htp htt hP8 sz) (cwX5_82 B.2.2.2.2.1 ⟨Nat.le_of_ble_eq_true rfl, Nat.le_of_ble_eq_true rfl⟩) (b_recv B hW (by decide) cE_0 rfl) rfl hl.1 (Nat.le_of_ble_eq_true rfl) dX5_takeBackMove_2 ⟨Nat.le_of_ble_eq_true rfl, Nat.le_of_ble_eq_true rfl⟩) hS htb hlk (Nat.le_of_ble_eq_true rfl) (Nat.le_of_ble_eq_true rfl) (fun Ex E1 h => ⟨Or.inl (⟨h.1, by unfold kTake; rw [cif_f h.2.1]⟩), by rw [h.2.2]; exact CW.mk hInv⟩) (fun r_2 E1 H locs hp_2 hW hS => ?_)
  obtain ⟨hv_2, hr_, hE_⟩ := hp_2
  subst hr_
  have hW := hW.eq hE_
  obtain ⟨i, hi, rfl⟩ := vp_in_of hv_2 (by omega)
  refine W.eq (g2 := F0 m 5 ls [.ref (ad (8 + i))]) (by show F0 m 5 ls _ = _; rw [show ix (nI i) = i from nI_clamp (by omega)]; rfl) ?_
  have ei : ix (nI i) = i := nI_clamp (by omega)
  refine lv_astore_n (lv' := [(3, .ref (ad (8 + i))), (0, .ref (ad 0)), (1, .int (nI i)), (2, .int dy)]) hx hb dX5_takeBackMove_5 rfl hl (by decide) rfl (fun ls hl => ?_)
  refine lv_aload_n hx hb dX5_takeBackMove_6 rfl (lv_at hl 0 rfl) ?_
  refine gfX5_92 B hT hW (by omega) (cE_per (by omega)) rfl dX5_takeBackMove_7 ?_
  refine lv_iload_n hx hb dX5_takeBackMove_10 rfl (lv_at hl 3 rfl) ?_
  refine b_xcv hQ (b_xrunS B hT hX hW hS (As := [.ref (ad (20 + i)), .int dy]) (rest := []) (fun sz => mt_reqFact hlf hI V T ag nP nH rN nf pn sp sk py pd so en rA rC rI aA aC aH aT aP i dy hti htz hth htp htt (by omega) (fun d hd => bo01 (hTb _ (by omega) d hd)) sz) (cwX5_118 B.2.2.2.2.1 ⟨Nat.le_of_ble_eq_true rfl, Nat.le_of_ble_eq_true rfl⟩) rfl hl.1 (Nat.le_of_ble_eq_true rfl) dX5_takeBackMove_11 ⟨Nat.le_of_ble_eq_true rfl, Nat.le_of_ble_eq_true rfl⟩) hS htb hlk (Nat.le_of_ble_eq_true rfl) (Nat.le_of_ble_eq_true rfl) (fun Ex E1 h => ⟨Or.inr (⟨h.1, by unfold kTake; rw [cif_t (vp_in_nI hi (by omega)), cif_f (by rw [ei, Nat.zero_add]; exact h.2.1)]⟩), by rw [h.2.2]; exact CW.mk hInv⟩) (fun E1 H locs hp_11 hW hS => ?_)
  obtain ⟨⟨hv_11, hw_11⟩, hE_⟩ := hp_11
  have hW := hW.eq hE_
  obtain ⟨d, hd, rfl⟩ := vp_in_of hv_11 (by omega)
  rw [ix, nI_clamp (by omega)] at hw_11
  have ed : ix (nI d) = d := nI_clamp (by omega)
  refine lv_aload_n hx hb dX5_takeBackMove_14 rfl (lv_at hl 1 rfl) ?_
  refine lv_aload_n hx hb dX5_takeBackMove_15 rfl (lv_at hl 0 rfl) ?_
  refine gfX5_92 B hT hW (by omega) (cE_per (by omega)) rfl dX5_takeBackMove_16 ?_
  refine lv_iload_n hx hb dX5_takeBackMove_19 rfl (lv_at hl 3 rfl) ?_
  refine b_ci (b_runV B hT hX hW hS (As := [.ref (ad (20 + i)), .int (nI d)]) (rest := []) (fun sz => mt_takeBack hI V T ag nP nH rN nf pn sp sk py pd so en rA rC rI aA aC aH aT aP i d hti htz hth htp htt (by omega) (by omega) sz) (cwX5_122 B.2.2.2.2.1 ⟨Nat.le_of_ble_eq_true rfl, Nat.le_of_ble_eq_true rfl⟩) (b_recv B hW (by decide) cE_0 rfl) rfl hl.1 (Nat.le_of_ble_eq_true rfl) dX5_takeBackMove_20 ⟨Nat.le_of_ble_eq_true rfl, Nat.le_of_ble_eq_true rfl⟩) hS (fun r_20 E1 H locs hp_20 hW hS => ?_)
  obtain ⟨hr_, hE_⟩ := hp_20
  subst hr_
  have hW := hW.eq hE_
  exact x_i hQ B hr hlk hS hW dX5_takeBackMove_23 (Nat.le_of_ble_eq_true rfl) (Nat.le_of_ble_eq_true rfl) (by rw [ei, ed, Nat.zero_add]; exact ⟨⟨by unfold kTake; rw [cif_t (vp_in_nI hi (by omega)), cif_t ⟨vp_in_nI hd (by omega), by rw [ei, ed, Nat.zero_add]; exact hw_11⟩], rfl⟩, CW.mk (hInv.take (by omega) hd hw_11)⟩)
set_option maxHeartbeats 4000000 in
set_option maxRecDepth 100000 in
theorem mt_takeBackIncome {l : Launch} (hlf : l.stackTraces = false) {D : va_G} {tys : List (ClassId × FieldType)} {ad : Nat → Nat} (hI : aI ad 109) {cI cZ cH cP cT : ClassId} (V T : Nat → Nat → Int32) (ag : Nat → Int32) (nP nH rN : Nat) (nf pn : Int32) (sp sk : Int64) (py pd : Nat → Nat → Int32) (so en : Nat → Int32) (rA rC rI aA aC aH aT aP : Int32) (x dy : Int32) (hti : tys[0]? = some (cI, .int)) (htz : cZ = cI) (hth : tys[2]? = some (cH, .object RX1)) (htp : tys[3]? = some (cP, .object RX2)) (htt : tys[4]? = some (cT, .object RX4)) (hInv : Inv V T ag nP nH rN so pd)  (sz : Nat) : vx_Met l yX5_takeBackIncome (Cond.code yX5_takeBackIncome cX5_takeBackIncome 4 (some .int) :: wsL_law) (rmk 6 8 48) (va_Pc [.ref (ad 0), .int x, .int dy] (PC D tys ad 109 (cE cI cZ cH cP cT ad V T ag nP nH rN nf pn sp sk py pd so en rA rC rI aA aC aH aT aP) sz)) (Qi D ad 109 (fun r E1 => (kTake T 8 nP x dy = 0 ∧ r = V (8 + ix x) (ix dy)) ∧ CW cI cZ cH cP cT ad (upd2 V (8 + ix x) (takeV (V (8 + ix x)) (T (8 + ix x)) (ix dy) (w0 (8 + ix x)))) (upd2 T (8 + ix x) (upd (T (8 + ix x)) (ix dy) 0)) ag nP nH rN (nf - 1) pn sp sk py pd E1) (cA ad 109 sz)) (Xx D ad 109 (fun Ex E1 => (Ex = xIOB ∧ kTake T 8 nP x dy = 1 ∨ Ex = xNSE ∧ kTake T 8 nP x dy = 2) ∧ CW cI cZ cH cP cT ad V T ag nP nH rN nf pn sp sk py pd E1) (cA ad 109 sz)) 8 48 (cA ad 109 sz) := by
  refine cx_of (own := RX5) (Qc := Qi D ad 109 (fun r E1 => (kTake T 8 nP x dy = 0 ∧ r = V (8 + ix x) (ix dy)) ∧ CW cI cZ cH cP cT ad (upd2 V (8 + ix x) (takeV (V (8 + ix x)) (T (8 + ix x)) (ix dy) (w0 (8 + ix x)))) (upd2 T (8 + ix x) (upd (T (8 + ix x)) (ix dy) 0)) ag nP nH rN (nf - 1) pn sp sk py pd E1)) (XC := Xx D ad 109 (fun Ex E1 => (Ex = xIOB ∧ kTake T 8 nP x dy = 1 ∨ Ex = xNSE ∧ kTake T 8 nP x dy = 2) ∧ CW cI cZ cH cP cT ad V T ag nP nH rN nf pn sp sk py pd E1)) rfl (by decide +kernel) (Nat.le_of_ble_eq_true rfl) ?_ sz
  intro p e s m args below meth c ls Q B hT hX hW hr hlk htb hl hS hA hQ
  have hx := B.1
  have hb := B.2.1
  have hl : lv_has ls 4 [(0, .ref (ad 0)), (1, .int x), (2, .int dy)] := hl
  obtain ⟨⟨hP8, hH4, hR12⟩, hTb, -, hso, -, -, hpd⟩ := id hInv
  refine lv_aload_n hx hb dX5_takeBackIncome_0 rfl (lv_at hl 0 rfl) ?_
  refine lv_iload_n hx hb dX5_takeBackIncome_1 rfl (lv_at hl 1 rfl) ?_
  refine b_xcq hQ (b_xrunV B hT hX hW hS (As := [.int x]) (rest := []) (fun sz => mt_persNum hlf hI V T ag nP nH rN nf pn sp sk py pd so en rA rC rI aA aC aH aT aP x hti htz hth htp htt hP8 sz) (cwX5_82 B.2.2.2.2.1 ⟨Nat.le_of_ble_eq_true rfl, Nat.le_of_ble_eq_true rfl⟩) (b_recv B hW (by decide) cE_0 rfl) rfl hl.1 (Nat.le_of_ble_eq_true rfl) dX5_takeBackIncome_2 ⟨Nat.le_of_ble_eq_true rfl, Nat.le_of_ble_eq_true rfl⟩) hS htb hlk (Nat.le_of_ble_eq_true rfl) (Nat.le_of_ble_eq_true rfl) (fun Ex E1 h => ⟨Or.inl (⟨h.1, by unfold kTake; rw [cif_f h.2.1]⟩), by rw [h.2.2]; exact CW.mk hInv⟩) (fun r_2 E1 H locs hp_2 hW hS => ?_)
  obtain ⟨hv_2, hr_, hE_⟩ := hp_2
  subst hr_
  have hW := hW.eq hE_
  obtain ⟨i, hi, rfl⟩ := vp_in_of hv_2 (by omega)
  refine W.eq (g2 := F0 m 5 ls [.ref (ad (8 + i))]) (by show F0 m 5 ls _ = _; rw [show ix (nI i) = i from nI_clamp (by omega)]; rfl) ?_
  have ei : ix (nI i) = i := nI_clamp (by omega)
  refine lv_astore_n (lv' := [(3, .ref (ad (8 + i))), (0, .ref (ad 0)), (1, .int (nI i)), (2, .int dy)]) hx hb dX5_takeBackIncome_5 rfl hl (by decide) rfl (fun ls hl => ?_)
  refine lv_aload_n hx hb dX5_takeBackIncome_6 rfl (lv_at hl 0 rfl) ?_
  refine gfX5_96 B hT hW (by omega) (cE_per (by omega)) rfl dX5_takeBackIncome_7 ?_
  refine lv_iload_n hx hb dX5_takeBackIncome_10 rfl (lv_at hl 3 rfl) ?_
  refine b_xcv hQ (b_xrunS B hT hX hW hS (As := [.ref (ad (20 + (8 + i))), .int dy]) (rest := []) (fun sz => mt_reqFact hlf hI V T ag nP nH rN nf pn sp sk py pd so en rA rC rI aA aC aH aT aP (8 + i) dy hti htz hth htp htt (by omega) (fun d hd => bo01 (hTb _ (by omega) d hd)) sz) (cwX5_118 B.2.2.2.2.1 ⟨Nat.le_of_ble_eq_true rfl, Nat.le_of_ble_eq_true rfl⟩) rfl hl.1 (Nat.le_of_ble_eq_true rfl) dX5_takeBackIncome_11 ⟨Nat.le_of_ble_eq_true rfl, Nat.le_of_ble_eq_true rfl⟩) hS htb hlk (Nat.le_of_ble_eq_true rfl) (Nat.le_of_ble_eq_true rfl) (fun Ex E1 h => ⟨Or.inr (⟨h.1, by unfold kTake; rw [cif_t (vp_in_nI hi (by omega)), cif_f (by rw [ei]; exact h.2.1)]⟩), by rw [h.2.2]; exact CW.mk hInv⟩) (fun E1 H locs hp_11 hW hS => ?_)
  obtain ⟨⟨hv_11, hw_11⟩, hE_⟩ := hp_11
  have hW := hW.eq hE_
  obtain ⟨d, hd, rfl⟩ := vp_in_of hv_11 (by omega)
  rw [ix, nI_clamp (by omega)] at hw_11
  have ed : ix (nI d) = d := nI_clamp (by omega)
  refine lv_aload_n hx hb dX5_takeBackIncome_14 rfl (lv_at hl 1 rfl) ?_
  refine lv_aload_n hx hb dX5_takeBackIncome_15 rfl (lv_at hl 0 rfl) ?_
  refine gfX5_96 B hT hW (by omega) (cE_per (by omega)) rfl dX5_takeBackIncome_16 ?_
  refine lv_iload_n hx hb dX5_takeBackIncome_19 rfl (lv_at hl 3 rfl) ?_
  refine b_ci (b_runV B hT hX hW hS (As := [.ref (ad (20 + (8 + i))), .int (nI d)]) (rest := []) (fun sz => mt_takeBack hI V T ag nP nH rN nf pn sp sk py pd so en rA rC rI aA aC aH aT aP (8 + i) d hti htz hth htp htt (by omega) (by omega) sz) (cwX5_122 B.2.2.2.2.1 ⟨Nat.le_of_ble_eq_true rfl, Nat.le_of_ble_eq_true rfl⟩) (b_recv B hW (by decide) cE_0 rfl) rfl hl.1 (Nat.le_of_ble_eq_true rfl) dX5_takeBackIncome_20 ⟨Nat.le_of_ble_eq_true rfl, Nat.le_of_ble_eq_true rfl⟩) hS (fun r_20 E1 H locs hp_20 hW hS => ?_)
  obtain ⟨hr_, hE_⟩ := hp_20
  subst hr_
  have hW := hW.eq hE_
  exact x_i hQ B hr hlk hS hW dX5_takeBackIncome_23 (Nat.le_of_ble_eq_true rfl) (Nat.le_of_ble_eq_true rfl) (by rw [ei, ed]; exact ⟨⟨by unfold kTake; rw [cif_t (vp_in_nI hi (by omega)), cif_t ⟨vp_in_nI hd (by omega), by rw [ei, ed]; exact hw_11⟩], rfl⟩, CW.mk (hInv.take (by omega) hd hw_11)⟩)
set_option maxHeartbeats 4000000 in
set_option maxRecDepth 100000 in
theorem mt_takeBackRule {l : Launch} (hlf : l.stackTraces = false) {D : va_G} {tys : List (ClassId × FieldType)} {ad : Nat → Nat} (hI : aI ad 109) {cI cZ cH cP cT : ClassId} (V T : Nat → Nat → Int32) (ag : Nat → Int32) (nP nH rN : Nat) (nf pn : Int32) (sp sk : Int64) (py pd : Nat → Nat → Int32) (so en : Nat → Int32) (rA rC rI aA aC aH aT aP : Int32) (x dy : Int32) (hti : tys[0]? = some (cI, .int)) (htz : cZ = cI) (hth : tys[2]? = some (cH, .object RX1)) (htp : tys[3]? = some (cP, .object RX2)) (htt : tys[4]? = some (cT, .object RX4)) (hInv : Inv V T ag nP nH rN so pd)  (sz : Nat) : vx_Met l yX5_takeBackRule (Cond.code yX5_takeBackRule cX5_takeBackRule 4 (some .int) :: wsL_law) (rmk 6 8 48) (va_Pc [.ref (ad 0), .int x, .int dy] (PC D tys ad 109 (cE cI cZ cH cP cT ad V T ag nP nH rN nf pn sp sk py pd so en rA rC rI aA aC aH aT aP) sz)) (Qi D ad 109 (fun r E1 => (kTakeR T x dy = 0 ∧ r = V (20 + rIx x) (ix dy)) ∧ CW cI cZ cH cP cT ad (upd2 V (20 + rIx x) (takeV (V (20 + rIx x)) (T (20 + rIx x)) (ix dy) (w0 (20 + rIx x)))) (upd2 T (20 + rIx x) (upd (T (20 + rIx x)) (ix dy) 0)) ag nP nH rN (nf - 1) pn sp sk py pd E1) (cA ad 109 sz)) (Xx D ad 109 (fun Ex E1 => (Ex = xNSE ∧ kTakeR T x dy = 1 ∨ Ex = xUOE ∧ kTakeR T x dy = 2) ∧ CW cI cZ cH cP cT ad V T ag nP nH rN nf pn sp sk py pd E1) (cA ad 109 sz)) 8 48 (cA ad 109 sz) := by
  refine cx_of (own := RX5) (Qc := Qi D ad 109 (fun r E1 => (kTakeR T x dy = 0 ∧ r = V (20 + rIx x) (ix dy)) ∧ CW cI cZ cH cP cT ad (upd2 V (20 + rIx x) (takeV (V (20 + rIx x)) (T (20 + rIx x)) (ix dy) (w0 (20 + rIx x)))) (upd2 T (20 + rIx x) (upd (T (20 + rIx x)) (ix dy) 0)) ag nP nH rN (nf - 1) pn sp sk py pd E1)) (XC := Xx D ad 109 (fun Ex E1 => (Ex = xNSE ∧ kTakeR T x dy = 1 ∨ Ex = xUOE ∧ kTakeR T x dy = 2) ∧ CW cI cZ cH cP cT ad V T ag nP nH rN nf pn sp sk py pd E1)) rfl (by decide +kernel) (Nat.le_of_ble_eq_true rfl) ?_ sz
  intro p e s m args below meth c ls Q B hT hX hW hr hlk htb hl hS hA hQ
  have hx := B.1
  have hb := B.2.1
  have hl : lv_has ls 4 [(0, .ref (ad 0)), (1, .int x), (2, .int dy)] := hl
  obtain ⟨⟨hP8, hH4, hR12⟩, hTb, -, hso, -, -, hpd⟩ := id hInv
  refine lv_aload_n hx hb dX5_takeBackRule_0 rfl (lv_at hl 0 rfl) ?_
  refine gfX5_23 B hT hW (by decide) cE_0 rfl dX5_takeBackRule_1 ?_
  refine lv_iload_n hx hb dX5_takeBackRule_4 rfl (lv_at hl 1 rfl) ?_
  refine b_xci hQ (b_xrunS B hT hX hW hS (As := [.int x]) (rest := [.ref (ad 3)]) (fun sz => mt_ruleIx hlf hI x sz) (cwX5_106 B.2.2.2.2.1 ⟨Nat.le_of_ble_eq_true rfl, Nat.le_of_ble_eq_true rfl⟩) rfl hl.1 (Nat.le_of_ble_eq_true rfl) dX5_takeBackRule_5 ⟨Nat.le_of_ble_eq_true rfl, Nat.le_of_ble_eq_true rfl⟩) hS htb hlk (Nat.le_of_ble_eq_true rfl) (Nat.le_of_ble_eq_true rfl) (fun Ex E1 h => ⟨Or.inl (⟨h.1, by unfold kTakeR; rw [cif_f (fun q => by rw [rIx_no h.2.1] at q; exact absurd q.1 (by decide))]⟩), by rw [h.2.2]; exact CW.mk hInv⟩) (fun r_5 E1 H locs hp_5 hW hS => ?_)
  obtain ⟨ri, hri, hr_, hlet, hE_⟩ := hp_5
  subst hr_
  have hW := hW.eq hE_
  subst hlet
  have el : rIx (ruLet ri) = ri := rIx_of ri hri
  refine b_aald B hW 4 htt (j := ri) (by decide) cE_3 (vp_in_nI hri (by decide)) (nI_clamp (by omega)) rfl dX5_takeBackRule_8 ?_
  refine lv_astore_n (lv' := [(3, .ref (ad (20 + (20 + ri)))), (0, .ref (ad 0)), (1, .int (ruLet ri)), (2, .int dy)]) hx hb dX5_takeBackRule_9 rfl hl (by decide) rfl (fun ls hl => ?_)
  refine lv_aload_n hx hb dX5_takeBackRule_10 rfl (lv_at hl 0 rfl) ?_
  refine lv_iload_n hx hb dX5_takeBackRule_11 rfl (lv_at hl 3 rfl) ?_
  refine b_xcv hQ (b_xrunS B hT hX hW hS (As := [.ref (ad (20 + (20 + ri))), .int dy]) (rest := []) (fun sz => mt_reqFact hlf hI V T ag nP nH rN nf pn sp sk py pd so en rA rC rI aA aC aH aT aP (20 + ri) dy hti htz hth htp htt (by omega) (fun d hd => bo01 (hTb _ (by omega) d hd)) sz) (cwX5_118 B.2.2.2.2.1 ⟨Nat.le_of_ble_eq_true rfl, Nat.le_of_ble_eq_true rfl⟩) rfl hl.1 (Nat.le_of_ble_eq_true rfl) dX5_takeBackRule_12 ⟨Nat.le_of_ble_eq_true rfl, Nat.le_of_ble_eq_true rfl⟩) hS htb hlk (Nat.le_of_ble_eq_true rfl) (Nat.le_of_ble_eq_true rfl) (fun Ex E1 h => ⟨Or.inl (⟨h.1, by unfold kTakeR; rw [cif_f (fun q => by rw [el] at q; exact h.2.1 q.2)]⟩), by rw [h.2.2]; exact CW.mk hInv⟩) (fun E1 H locs hp_12 hW hS => ?_)
  obtain ⟨⟨hv_12, hw_12⟩, hE_⟩ := hp_12
  have hW := hW.eq hE_
  obtain ⟨d, hd, rfl⟩ := vp_in_of hv_12 (by omega)
  rw [ix, nI_clamp (by omega)] at hw_12
  have ed : ix (nI d) = d := nI_clamp (by omega)
  refine lv_iload_n hx hb dX5_takeBackRule_15 rfl (lv_at hl 3 rfl) ?_
  refine lv_if_ne (tgt := 29) hx hb dX5_takeBackRule_16 (by decide) (fun c_16 => ?_) (fun c_16 => ?_)
  · skip
    refine lv_aload_n hx hb dX5_takeBackRule_29 rfl (lv_at hl 1 rfl) ?_
    refine lv_aload_n hx hb dX5_takeBackRule_30 rfl (lv_at hl 0 rfl) ?_
    refine lv_iload_n hx hb dX5_takeBackRule_31 rfl (lv_at hl 3 rfl) ?_
    refine b_ci (b_runV B hT hX hW hS (As := [.ref (ad (20 + (20 + ri))), .int (nI d)]) (rest := []) (fun sz => mt_takeBack hI V T ag nP nH rN nf pn sp sk py pd so en rA rC rI aA aC aH aT aP (20 + ri) d hti htz hth htp htt (by omega) (by omega) sz) (cwX5_122 B.2.2.2.2.1 ⟨Nat.le_of_ble_eq_true rfl, Nat.le_of_ble_eq_true rfl⟩) (b_recv B hW (by decide) cE_0 rfl) rfl hl.1 (Nat.le_of_ble_eq_true rfl) dX5_takeBackRule_32 ⟨Nat.le_of_ble_eq_true rfl, Nat.le_of_ble_eq_true rfl⟩) hS (fun r_32 E1 H locs hp_32 hW hS => ?_)
    obtain ⟨hr_, hE_⟩ := hp_32
    subst hr_
    have hW := hW.eq hE_
    exact x_i hQ B hr hlk hS hW dX5_takeBackRule_35 (Nat.le_of_ble_eq_true rfl) (Nat.le_of_ble_eq_true rfl) (by rw [el, ed]; exact ⟨⟨by unfold kTakeR; rw [cif_t ⟨by rw [el]; exact hri, vp_in_nI hd (by omega), by rw [el, ed]; exact hw_12⟩, cif_f c_16], rfl⟩, CW.mk (hInv.take (by omega) hd hw_12)⟩)
  · skip
    exact b_throw hQ B hT hX hW hS hlf xf_UOE (List.mem_of_getElem? (i := 3) rfl) hl.1 dX5_takeBackRule_19 dX5_takeBackRule_22 dX5_takeBackRule_23 dX5_takeBackRule_25 dX5_takeBackRule_28 htb hlk (Nat.le_of_ble_eq_true rfl) (Nat.le_of_ble_eq_true rfl) (Nat.le_of_ble_eq_true rfl) (Nat.le_of_ble_eq_true rfl) (Nat.le_of_ble_eq_true rfl) (Nat.le_of_ble_eq_true rfl) (⟨Or.inr (⟨rfl, by unfold kTakeR; rw [cif_t ⟨by rw [el]; exact hri, vp_in_nI hd (by omega), by rw [el, ed]; exact hw_12⟩, cif_t c_16]⟩), CW.mk hInv⟩)
