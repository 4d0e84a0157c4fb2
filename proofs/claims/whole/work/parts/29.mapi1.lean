theorem pfX6_58 {p : Program} {l : Launch} {e : Env} {R : Room} {s : State} {m : MethodId} {args : Array Value} {below : List Frame} {meth : Method} {c : Code} {H : Heap} {locs : List Loc} {cells slots : Nat} {Q : State → Prop} {cc : ByteArray} {pc nL : Nat} {ls : Array Slot} {rest : List Value} {D : va_G} {tys : List (ClassId × FieldType)} {ad : Nat → Nat} {N : Nat} {E : Nat → va_E} {k : Nat} {fs : List Value} {v : Value} {A : Nat → Prop} {H0 : Heap} (B : MB p c cc nL RX6 s m args D tys) (hT : TX s) (hI : aI ad N) (hA : ∀ k : Nat, k < N → A (ad k)) (hW : hH D ad N E H) (hS : va_S A H0 H locs) (hk : k < N) (he : E k = .inr (6, fs)) (hl : 1 < fs.length) (hn : narrow .int v = v) (hfit : fits .int v = true) (hdg : decode cc pc = .ok (.putfield 58, 3)) (kk : ∀ (H1 : Heap) (locs1 : List Loc), hH D ad N (va_up E k (.inr (6, fs.set 1 v))) H1 → va_S A H0 H1 locs1 → W p l e R s m args below meth c H1 locs1 cells slots Q (F0 m (pc + 3) ls rest)) : W p l e R s m args below meth c H locs cells slots Q (F0 m pc ls (v :: .ref (ad k) :: rest)) :=
  b_put B hI hA hW hS inlX6 tyX6 tyX6_ok nmX6 rfl 1 (by decide) (r6_in _ (List.mem_of_getElem? (i := 18) rfl)) rfl rfl (by decide +kernel) hk he hl hn hfit hdg kk
theorem cwX6_68 {R : Room} {s : State} {args : Array Value} {rm : Room} (hts : ∀ w ∈ wsL_law, w.before args s = true) (hR : rm.frames + 1 ≤ R.frames ∧ 8 + (2 + 11) + rm.locals ≤ R.locals) : CWV R s args RX6 RX6 68 yX6_fails cX6_fails 2 (some .int) rm rm.cells rm.slots 1 :=
  cwV 1 hts (gi_V (r6_in _ (List.mem_of_getElem? (i := 23) rfl)) (r7_in _ (List.mem_of_getElem? (i := 0) rfl)) (r7_in _ (List.mem_of_getElem? (i := 1) rfl)) (r1_in _ (List.mem_of_getElem? (i := 5) rfl)) (r7_in _ (List.mem_of_getElem? (i := 2) rfl))) rfl rfl rfl (by decide +kernel) hR
theorem pfX6_65 {p : Program} {l : Launch} {e : Env} {R : Room} {s : State} {m : MethodId} {args : Array Value} {below : List Frame} {meth : Method} {c : Code} {H : Heap} {locs : List Loc} {cells slots : Nat} {Q : State → Prop} {cc : ByteArray} {pc nL : Nat} {ls : Array Slot} {rest : List Value} {D : va_G} {tys : List (ClassId × FieldType)} {ad : Nat → Nat} {N : Nat} {E : Nat → va_E} {k : Nat} {fs : List Value} {v : Value} {A : Nat → Prop} {H0 : Heap} (B : MB p c cc nL RX6 s m args D tys) (hT : TX s) (hI : aI ad N) (hA : ∀ k : Nat, k < N → A (ad k)) (hW : hH D ad N E H) (hS : va_S A H0 H locs) (hk : k < N) (he : E k = .inr (6, fs)) (hl : 2 < fs.length) (hn : narrow .int v = v) (hfit : fits .int v = true) (hdg : decode cc pc = .ok (.putfield 65, 3)) (kk : ∀ (H1 : Heap) (locs1 : List Loc), hH D ad N (va_up E k (.inr (6, fs.set 2 v))) H1 → va_S A H0 H1 locs1 → W p l e R s m args below meth c H1 locs1 cells slots Q (F0 m (pc + 3) ls rest)) : W p l e R s m args below meth c H locs cells slots Q (F0 m pc ls (v :: .ref (ad k) :: rest)) :=
  b_put B hI hA hW hS inlX6 tyX6 tyX6_ok nmX6 rfl 2 (by decide) (r7_in _ (List.mem_of_getElem? (i := 19) rfl)) rfl rfl (by decide +kernel) hk he hl hn hfit hdg kk
theorem cwX6_75 {R : Room} {s : State} {args : Array Value} {rm : Room} (hts : ∀ w ∈ wsL_law, w.before args s = true) (hR : rm.frames + 1 ≤ R.frames ∧ 8 + (2 + 11) + rm.locals ≤ R.locals) : CWV R s args RX6 RX6 75 yX6_isPerson cX6_isPerson 2 (some .boolean) rm rm.cells rm.slots 1 :=
  cwV 1 hts (gi_V (r8_in _ (List.mem_of_getElem? (i := 21) rfl)) (r8_in _ (List.mem_of_getElem? (i := 22) rfl)) (r8_in _ (List.mem_of_getElem? (i := 23) rfl)) (r1_in _ (List.mem_of_getElem? (i := 5) rfl)) (r9_in _ (List.mem_of_getElem? (i := 0) rfl))) rfl rfl rfl (by decide +kernel) hR
theorem cwX6_82 {R : Room} {s : State} {args : Array Value} {rm : Room} (hts : ∀ w ∈ wsL_law, w.before args s = true) (hR : rm.frames + 1 ≤ R.frames ∧ 8 + (1 + 11) + rm.locals ≤ R.locals) : CWS R s args RX6 82 yX6_isDay cX6_isDay 1 (some .boolean) rm rm.cells rm.slots 1 :=
  va_cwS 1 hts (gi_S (r9_in _ (List.mem_of_getElem? (i := 5) rfl)) (r9_in _ (List.mem_of_getElem? (i := 6) rfl)) (r1_in _ (List.mem_of_getElem? (i := 5) rfl)) (r9_in _ (List.mem_of_getElem? (i := 7) rfl))) rfl rfl rfl (by decide +kernel) hR
theorem gfX6_29 {p : Program} {l : Launch} {e : Env} {R : Room} {s : State} {m : MethodId} {args : Array Value} {below : List Frame} {meth : Method} {c : Code} {H : Heap} {locs : List Loc} {cells slots : Nat} {Q : State → Prop} {cc : ByteArray} {pc nL : Nat} {ls : Array Slot} {rest : List Value} {D : va_G} {tys : List (ClassId × FieldType)} {ad : Nat → Nat} {N : Nat} {E : Nat → va_E} {k : Nat} {fs : List Value} {v : Value} (B : MB p c cc nL RX6 s m args D tys) (hT : TX s) (hW : hH D ad N E H) (hk : k < N) (he : E k = .inr (6, fs)) (hv : fs[13]? = some v) (hdg : decode cc pc = .ok (.getfield 29, 3)) (kk : W p l e R s m args below meth c H locs cells slots Q (F0 m (pc + 3) ls (v :: rest))) : W p l e R s m args below meth c H locs cells slots Q (F0 m pc ls (.ref (ad k) :: rest)) :=
  b_get B hW inlX6 rfl 13 (by decide) (r5_in _ (List.mem_of_getElem? (i := 10) rfl)) rfl hk he hv hdg kk
theorem cwX6_85 {R : Room} {s : State} {args : Array Value} {rm : Room} (hts : ∀ w ∈ wsL_law, w.before args s = true) (hR : rm.frames + 1 ≤ R.frames ∧ 8 + (7 + 11) + rm.locals ≤ R.locals) : CWV R s args RX6 RX6 85 yX6_tells cX6_tells 7 (some .int) rm rm.cells rm.slots 5 :=
  cwV 5 hts (gi_V (r9_in _ (List.mem_of_getElem? (i := 8) rfl)) (r9_in _ (List.mem_of_getElem? (i := 9) rfl)) (r9_in _ (List.mem_of_getElem? (i := 10) rfl)) (r1_in _ (List.mem_of_getElem? (i := 5) rfl)) (r9_in _ (List.mem_of_getElem? (i := 11) rfl))) rfl rfl rfl (by decide +kernel) hR
theorem cwX6_79 {R : Room} {s : State} {args : Array Value} {rm : Room} (hts : ∀ w ∈ wsL_law, w.before args s = true) (hR : rm.frames + 1 ≤ R.frames ∧ 8 + (2 + 11) + rm.locals ≤ R.locals) : CWV R s args RX6 RX6 79 yX6_isHousehold cX6_isHousehold 2 (some .boolean) rm rm.cells rm.slots 1 :=
  cwV 1 hts (gi_V (r9_in _ (List.mem_of_getElem? (i := 1) rfl)) (r9_in _ (List.mem_of_getElem? (i := 2) rfl)) (r9_in _ (List.mem_of_getElem? (i := 3) rfl)) (r1_in _ (List.mem_of_getElem? (i := 5) rfl)) (r9_in _ (List.mem_of_getElem? (i := 4) rfl))) rfl rfl rfl (by decide +kernel) hR
theorem gfX6_33 {p : Program} {l : Launch} {e : Env} {R : Room} {s : State} {m : MethodId} {args : Array Value} {below : List Frame} {meth : Method} {c : Code} {H : Heap} {locs : List Loc} {cells slots : Nat} {Q : State → Prop} {cc : ByteArray} {pc nL : Nat} {ls : Array Slot} {rest : List Value} {D : va_G} {tys : List (ClassId × FieldType)} {ad : Nat → Nat} {N : Nat} {E : Nat → va_E} {k : Nat} {fs : List Value} {v : Value} (B : MB p c cc nL RX6 s m args D tys) (hT : TX s) (hW : hH D ad N E H) (hk : k < N) (he : E k = .inr (6, fs)) (hv : fs[14]? = some v) (hdg : decode cc pc = .ok (.getfield 33, 3)) (kk : W p l e R s m args below meth c H locs cells slots Q (F0 m (pc + 3) ls (v :: rest))) : W p l e R s m args below meth c H locs cells slots Q (F0 m pc ls (.ref (ad k) :: rest)) :=
  b_get B hW inlX6 rfl 14 (by decide) (r5_in _ (List.mem_of_getElem? (i := 11) rfl)) rfl hk he hv hdg kk
theorem gfX6_36 {p : Program} {l : Launch} {e : Env} {R : Room} {s : State} {m : MethodId} {args : Array Value} {below : List Frame} {meth : Method} {c : Code} {H : Heap} {locs : List Loc} {cells slots : Nat} {Q : State → Prop} {cc : ByteArray} {pc nL : Nat} {ls : Array Slot} {rest : List Value} {D : va_G} {tys : List (ClassId × FieldType)} {ad : Nat → Nat} {N : Nat} {E : Nat → va_E} {k : Nat} {fs : List Value} {v : Value} (B : MB p c cc nL RX6 s m args D tys) (hT : TX s) (hW : hH D ad N E H) (hk : k < N) (he : E k = .inr (6, fs)) (hv : fs[15]? = some v) (hdg : decode cc pc = .ok (.getfield 36, 3)) (kk : W p l e R s m args below meth c H locs cells slots Q (F0 m (pc + 3) ls (v :: rest))) : W p l e R s m args below meth c H locs cells slots Q (F0 m pc ls (.ref (ad k) :: rest)) :=
  b_get B hW inlX6 rfl 15 (by decide) (r5_in _ (List.mem_of_getElem? (i := 12) rfl)) rfl hk he hv hdg kk
theorem cwX6_89 {R : Room} {s : State} {args : Array Value} {rm : Room} (hts : ∀ w ∈ wsL_law, w.before args s = true) (hR : rm.frames + 1 ≤ R.frames ∧ 8 + (1 + 11) + rm.locals ≤ R.locals) : CWS R s args RX6 89 yX6_place cX6_place 1 (some .int) rm rm.cells rm.slots 1 :=
  va_cwS 1 hts (gi_S (r11_in _ (List.mem_of_getElem? (i := 12) rfl)) (r11_in _ (List.mem_of_getElem? (i := 13) rfl)) (r1_in _ (List.mem_of_getElem? (i := 5) rfl)) (r11_in _ (List.mem_of_getElem? (i := 14) rfl))) rfl rfl rfl (by decide +kernel) hR
theorem cwX6_93 {R : Room} {s : State} {args : Array Value} {rm : Room} (hts : ∀ w ∈ wsL_law, w.before args s = true) (hR : rm.frames + 1 ≤ R.frames ∧ 8 + (1 + 11) + rm.locals ≤ R.locals) : CWS R s args RX6 93 yX6_greatest cX6_greatest 1 (some .int) rm rm.cells rm.slots 1 :=
  va_cwS 1 hts (gi_S (r11_in _ (List.mem_of_getElem? (i := 15) rfl)) (r11_in _ (List.mem_of_getElem? (i := 16) rfl)) (r1_in _ (List.mem_of_getElem? (i := 5) rfl)) (r11_in _ (List.mem_of_getElem? (i := 17) rfl))) rfl rfl rfl (by decide +kernel) hR
theorem gfX6_39 {p : Program} {l : Launch} {e : Env} {R : Room} {s : State} {m : MethodId} {args : Array Value} {below : List Frame} {meth : Method} {c : Code} {H : Heap} {locs : List Loc} {cells slots : Nat} {Q : State → Prop} {cc : ByteArray} {pc nL : Nat} {ls : Array Slot} {rest : List Value} {D : va_G} {tys : List (ClassId × FieldType)} {ad : Nat → Nat} {N : Nat} {E : Nat → va_E} {k : Nat} {fs : List Value} {v : Value} (B : MB p c cc nL RX6 s m args D tys) (hT : TX s) (hW : hH D ad N E H) (hk : k < N) (he : E k = .inr (6, fs)) (hv : fs[16]? = some v) (hdg : decode cc pc = .ok (.getfield 39, 3)) (kk : W p l e R s m args below meth c H locs cells slots Q (F0 m (pc + 3) ls (v :: rest))) : W p l e R s m args below meth c H locs cells slots Q (F0 m pc ls (.ref (ad k) :: rest)) :=
  b_get B hW inlX6 rfl 16 (by decide) (r5_in _ (List.mem_of_getElem? (i := 13) rfl)) rfl hk he hv hdg kk
theorem cwX6_96 {R : Room} {s : State} {args : Array Value} {rm : Room} (hts : ∀ w ∈ wsL_law, w.before args s = true) (hR : rm.frames + 1 ≤ R.frames ∧ 8 + (7 + 11) + rm.locals ≤ R.locals) : CWV R s args RX6 RX6 96 yX6_takes cX6_takes 7 (some .int) rm rm.cells rm.slots 5 :=
  cwV 5 hts (gi_V (r12_in _ (List.mem_of_getElem? (i := 16) rfl)) (r12_in _ (List.mem_of_getElem? (i := 17) rfl)) (r12_in _ (List.mem_of_getElem? (i := 18) rfl)) (r1_in _ (List.mem_of_getElem? (i := 5) rfl)) (r12_in _ (List.mem_of_getElem? (i := 19) rfl))) rfl rfl rfl (by decide +kernel) hR
theorem MW.mk {cI cZ : ClassId} {ad : Nat → Nat} {th : Int32} {nP nH rN : Nat} {nf pn : Int32} {sp sk : Int64} {ag : Nat → Int32} {V T : Nat → Nat → Int32} {pd py : Nat → Nat → Int32} {du : Nat → Int32} {mA mC mH mG mS mI mT mP : Int32} : MW cI cZ ad th V T ag nP nH rN nf pn sp sk py pd (mE cI cZ ad th nP nH rN nf pn sp sk ag (RV V) (RV T) (FL pd) (FL py) du mA mC mH mG mS mI mT mP) := ⟨_, _, _, _, _, _, _, _, _, rfl⟩
theorem Inv.pay0 {V T : Nat → Nat → Int32} {ag : Nat → Int32} {nP nH rN : Nat} {so : Nat → Int32} {pd py : Nat → Nat → Int32} {sk : Int64} (hi : Inv V T ag nP nH rN so pd) (hr : rN < 12) {n : Nat} (hn : n ≤ 4) : Inv V T ag nP nH rN so (runS (due V ag nP) rN py pd sk n).2.2.1 := by
  obtain ⟨h1, h2⟩ := Inv.pay (py := py) (sk := sk) hi hr n hn
  exact ⟨⟨h1.1, h1.2.1, by omega⟩, h2⟩
theorem stl_01 {u f : Nat → Int32} : ∀ n, stl u f n = 0 ∨ stl u f n = 1
  | 0 => Or.inr rfl
  | n + 1 => by
    rw [stl]
    split
    · exact Or.inl rfl
    · split
      · exact Or.inr rfl
      · exact Or.inl rfl
set_option maxHeartbeats 4000000 in
set_option maxRecDepth 100000 in
theorem mm_addPerson {l : Launch} {D : va_G} {tys : List (ClassId × FieldType)} {ad : Nat → Nat} (hI : aI ad 13) {cI cZ : ClassId} (th : Int32) (nP nH rN : Nat) (nf pn : Int32) (sp sk : Int64) (ag : Nat → Int32) (V T : Nat → Nat → Int32) (pd py : Nat → Nat → Int32) (du : Nat → Int32) (mA mC mH mG mS mI mT mP : Int32) (x : Int32) (so : Nat → Int32) (hti : tys[0]? = some (cI, .int)) (htz : tys[1]? = some (cZ, .boolean)) (hInv : Inv V T ag nP nH rN so pd)  (sz : Nat) : Met l yX6_addPerson (Cond.code yX6_addPerson cX6_addPerson 2 (some .int) :: wsL_law) (rmk 6 0 0) (va_Pc [.ref (ad 0), .int x] (PC D tys ad 13 (mE cI cZ ad th nP nH rN nf pn sp sk ag (RV V) (RV T) (FL pd) (FL py) du mA mC mH mG mS mI mT mP) sz)) (Qi D ad 13 (fun r E1 => (kAddP nP x = 0 ∧ r = nI nP ∧ MW cI cZ ad 0 V T (upd ag nP x) (nP + 1) nH rN nf pn sp sk py pd E1) ∨ (¬ kAddP nP x = 0 ∧ MW cI cZ ad (kAddP nP x) V T ag nP nH rN nf pn sp sk py pd E1)) (cA ad 13 sz)) 0 0 (cA ad 13 sz) := by
  refine cm_of (own := RX6) (Qc := Qi D ad 13 (fun r E1 => (kAddP nP x = 0 ∧ r = nI nP ∧ MW cI cZ ad 0 V T (upd ag nP x) (nP + 1) nH rN nf pn sp sk py pd E1) ∨ (¬ kAddP nP x = 0 ∧ MW cI cZ ad (kAddP nP x) V T ag nP nH rN nf pn sp sk py pd E1))) rfl (by decide +kernel) (Nat.le_of_ble_eq_true rfl) ?_ sz
  intro p e s m args below meth c ls Q B hT hX hW hr hlk hnm hl hS hA hQ
  have hx := B.1
  have hb := B.2.1
  have hl : lv_has ls 2 [(0, .ref (ad 0)), (1, .int x)] := hl
  obtain ⟨⟨hP8, hH4, hR12⟩, hTb, -, hso, -, -, hpd⟩ := id hInv
  refine lv_iload_n hx hb dX6_addPerson_0 rfl (lv_at hl 1 rfl) ?_
  refine lv_iconst (v := 0) hx hb dX6_addPerson_1 (by decide) ?_
  refine lv_sipush (v := (nI 999)) hx hb dX6_addPerson_2 (by decide) ?_
  refine b_ci (b_runS B hT hX hW hS (As := [.int x, .int 0, .int (nI 999)]) (rest := []) (fun sz => mm_in hI x 0 (nI 999) sz) (cwX6_61 B.2.2.2.2.1 ⟨Nat.le_of_ble_eq_true rfl, Nat.le_of_ble_eq_true rfl⟩) rfl hl.1 (Nat.le_of_ble_eq_true rfl) dX6_addPerson_5 ⟨Nat.le_of_ble_eq_true rfl, Nat.le_of_ble_eq_true rfl⟩) hS (fun r_5 E1 H locs hp_5 hW hS => ?_)
  obtain ⟨hr_, hE_⟩ := hp_5
  subst hr_
  have hW := hW.eq hE_
  refine b_top (y := cif (vp_in x 1000) 1 0) (kIn_top (by omega)) ?_
  refine lv_if_ne (tgt := 17) hx hb dX6_addPerson_8 (by decide) (fun c_8 => ?_) (fun c_8 => ?_)
  · skip
    refine lv_aload_n hx hb dX6_addPerson_17 rfl (lv_at hl 0 rfl) ?_
    refine gfX6_58 B hT hW (by decide) mE_0 rfl dX6_addPerson_18 ?_
    refine lv_bipush (v := (nI 8)) hx hb dX6_addPerson_21 (by decide) ?_
    refine lv_icmp_ne (tgt := 32) hx hb dX6_addPerson_23 (by decide) (fun c_23 => ?_) (fun c_23 => ?_)
    · skip
      have q8 : nP < 8 := Nat.lt_of_le_of_ne hP8 (fun q => c_23 (by rw [q]))
      refine lv_aload_n hx hb dX6_addPerson_32 rfl (lv_at hl 0 rfl) ?_
      refine lv_iconst (v := 0) hx hb dX6_addPerson_33 (by decide) ?_
      refine pfX6_55 B hT hI hA hW hS (by decide) mE_0 (Nat.le_of_ble_eq_true rfl) rfl (by first | rfl | decide) dX6_addPerson_34 (fun H locs hW hS => ?_)
      have hW := hW.eq (E' := mE cI cZ ad 0 nP nH rN nf pn sp sk ag (RV V) (RV T) (FL pd) (FL py) du mA mC mH mG mS mI mT mP) (mE_u0 _ _ _ _ _ _ _ _ _ _ _ _ _ _ _ _)
      refine lv_aload_n hx hb dX6_addPerson_37 rfl (lv_at hl 0 rfl) ?_
      refine gfX6_13 B hT hW (by decide) mE_0 rfl dX6_addPerson_38 ?_
      refine lv_aload_n hx hb dX6_addPerson_41 rfl (lv_at hl 0 rfl) ?_
      refine gfX6_58 B hT hW (by decide) mE_0 rfl dX6_addPerson_42 ?_
      refine lv_iload_n hx hb dX6_addPerson_45 rfl (lv_at hl 1 rfl) ?_
      refine b_iast B hI hA hW hS hti (j := nP) (by decide) mE_1 (vp_in_nI (by omega) (Nat.le_of_ble_eq_true rfl)) (nI_clamp (by omega)) dX6_addPerson_46 (fun H locs hW hS => ?_)
      have hW := hW.eq (E' := mE cI cZ ad 0 nP nH rN nf pn sp sk (upd ag nP x) (RV V) (RV T) (FL pd) (FL py) du mA mC mH mG mS mI mT mP) (mE_u1 _)
      refine lv_aload_n hx hb dX6_addPerson_47 rfl (lv_at hl 0 rfl) ?_
      refine lv_dup hx hb dX6_addPerson_48 rfl ?_
      refine gfX6_58 B hT hW (by decide) mE_0 rfl dX6_addPerson_49 ?_
      refine lv_iconst (v := 1) hx hb dX6_addPerson_52 (by decide) ?_
      refine lv_iadd hx hb dX6_addPerson_53 ?_
      refine b_top (y := nI (nP + 1)) (nI_1 nP) ?_
      refine pfX6_58 B hT hI hA hW hS (by decide) mE_0 (Nat.le_of_ble_eq_true rfl) rfl (by first | rfl | decide) dX6_addPerson_54 (fun H locs hW hS => ?_)
      have hW := hW.eq (E' := mE cI cZ ad 0 (nP + 1) nH rN nf pn sp sk (upd ag nP x) (RV V) (RV T) (FL pd) (FL py) du mA mC mH mG mS mI mT mP) (mE_u0 _ _ _ _ _ _ _ _ _ _ _ _ _ _ _ _)
      refine lv_aload_n hx hb dX6_addPerson_57 rfl (lv_at hl 0 rfl) ?_
      refine gfX6_58 B hT hW (by decide) mE_0 rfl dX6_addPerson_58 ?_
      refine lv_iconst (v := 1) hx hb dX6_addPerson_61 (by decide) ?_
      refine lv_isub hx hb dX6_addPerson_62 ?_
      refine b_top (y := nI nP) nI_m1 ?_
      exact e_i hQ B hr hlk hS hW dX6_addPerson_63 (Nat.le_of_ble_eq_true rfl) (Nat.le_of_ble_eq_true rfl) (by have hk : kAddP nP x = 0 := (by unfold kAddP; rw [cif_t (c10_t c_8), cif_t q8]); exact Or.inl ⟨hk, rfl, MW.mk⟩)
    · skip
      refine lv_aload_n hx hb dX6_addPerson_26 rfl (lv_at hl 0 rfl) ?_
      refine lv_iconst (v := 2) hx hb dX6_addPerson_27 (by decide) ?_
      refine b_ci (b_runV B hT hX hW hS (As := [.int 2]) (rest := []) (fun sz => mm_fails hI th nP nH rN nf pn sp sk ag V T pd py du mA mC mH mG mS mI mT mP 2 hti htz sz) (cwX6_68 B.2.2.2.2.1 ⟨Nat.le_of_ble_eq_true rfl, Nat.le_of_ble_eq_true rfl⟩) (b_recv B hW (by decide) mE_0 rfl) rfl hl.1 (Nat.le_of_ble_eq_true rfl) dX6_addPerson_28 ⟨Nat.le_of_ble_eq_true rfl, Nat.le_of_ble_eq_true rfl⟩) hS (fun r_28 E1 H locs hp_28 hW hS => ?_)
      obtain ⟨hr_, hE_⟩ := hp_28
      subst hr_
      have hW := hW.eq hE_
      exact e_i hQ B hr hlk hS hW dX6_addPerson_31 (Nat.le_of_ble_eq_true rfl) (Nat.le_of_ble_eq_true rfl) (by have hk : kAddP nP x = 2 := (by unfold kAddP; rw [cif_t (c10_t c_8), cif_f (by have := (nI_eq (by omega) (by omega)).mp c_23; omega)]); exact Or.inr ⟨by rw [hk]; decide, by rw [hk]; exact MW.mk⟩)
  · skip
    refine lv_aload_n hx hb dX6_addPerson_11 rfl (lv_at hl 0 rfl) ?_
    refine lv_iconst (v := 1) hx hb dX6_addPerson_12 (by decide) ?_
    refine b_ci (b_runV B hT hX hW hS (As := [.int 1]) (rest := []) (fun sz => mm_fails hI th nP nH rN nf pn sp sk ag V T pd py du mA mC mH mG mS mI mT mP 1 hti htz sz) (cwX6_68 B.2.2.2.2.1 ⟨Nat.le_of_ble_eq_true rfl, Nat.le_of_ble_eq_true rfl⟩) (b_recv B hW (by decide) mE_0 rfl) rfl hl.1 (Nat.le_of_ble_eq_true rfl) dX6_addPerson_13 ⟨Nat.le_of_ble_eq_true rfl, Nat.le_of_ble_eq_true rfl⟩) hS (fun r_13 E1 H locs hp_13 hW hS => ?_)
    obtain ⟨hr_, hE_⟩ := hp_13
    subst hr_
    have hW := hW.eq hE_
    exact e_i hQ B hr hlk hS hW dX6_addPerson_16 (Nat.le_of_ble_eq_true rfl) (Nat.le_of_ble_eq_true rfl) (by have hk : kAddP nP x = 1 := (by unfold kAddP; rw [cif_f (c10_f c_8)]); exact Or.inr ⟨by rw [hk]; decide, by rw [hk]; exact MW.mk⟩)
set_option maxHeartbeats 4000000 in
set_option maxRecDepth 100000 in
theorem mm_addHousehold {l : Launch} {D : va_G} {tys : List (ClassId × FieldType)} {ad : Nat → Nat} (hI : aI ad 13) {cI cZ : ClassId} (th : Int32) (nP nH rN : Nat) (nf pn : Int32) (sp sk : Int64) (ag : Nat → Int32) (V T : Nat → Nat → Int32) (pd py : Nat → Nat → Int32) (du : Nat → Int32) (mA mC mH mG mS mI mT mP : Int32) (so : Nat → Int32) (hti : tys[0]? = some (cI, .int)) (htz : tys[1]? = some (cZ, .boolean)) (hInv : Inv V T ag nP nH rN so pd)  (sz : Nat) : Met l yX6_addHousehold (Cond.code yX6_addHousehold cX6_addHousehold 1 (some .int) :: wsL_law) (rmk 6 0 0) (va_Pc [.ref (ad 0)] (PC D tys ad 13 (mE cI cZ ad th nP nH rN nf pn sp sk ag (RV V) (RV T) (FL pd) (FL py) du mA mC mH mG mS mI mT mP) sz)) (Qi D ad 13 (fun r E1 => (kAddH nH = 0 ∧ r = nI nH ∧ MW cI cZ ad 0 V T ag nP (nH + 1) rN nf pn sp sk py pd E1) ∨ (¬ kAddH nH = 0 ∧ MW cI cZ ad (kAddH nH) V T ag nP nH rN nf pn sp sk py pd E1)) (cA ad 13 sz)) 0 0 (cA ad 13 sz) := by
  refine cm_of (own := RX6) (Qc := Qi D ad 13 (fun r E1 => (kAddH nH = 0 ∧ r = nI nH ∧ MW cI cZ ad 0 V T ag nP (nH + 1) rN nf pn sp sk py pd E1) ∨ (¬ kAddH nH = 0 ∧ MW cI cZ ad (kAddH nH) V T ag nP nH rN nf pn sp sk py pd E1))) rfl (by decide +kernel) (Nat.le_of_ble_eq_true rfl) ?_ sz
  intro p e s m args below meth c ls Q B hT hX hW hr hlk hnm hl hS hA hQ
  have hx := B.1
  have hb := B.2.1
  have hl : lv_has ls 1 [(0, .ref (ad 0))] := hl
  obtain ⟨⟨hP8, hH4, hR12⟩, hTb, -, hso, -, -, hpd⟩ := id hInv
  refine lv_aload_n hx hb dX6_addHousehold_0 rfl (lv_at hl 0 rfl) ?_
  refine gfX6_65 B hT hW (by decide) mE_0 rfl dX6_addHousehold_1 ?_
  refine lv_iconst (v := (nI 4)) hx hb dX6_addHousehold_4 (by decide) ?_
  refine lv_icmp_ne (tgt := 14) hx hb dX6_addHousehold_5 (by decide) (fun c_5 => ?_) (fun c_5 => ?_)
  · skip
    have q4 : nH < 4 := Nat.lt_of_le_of_ne hH4 (fun q => c_5 (by rw [q]))
    refine lv_aload_n hx hb dX6_addHousehold_14 rfl (lv_at hl 0 rfl) ?_
    refine lv_iconst (v := 0) hx hb dX6_addHousehold_15 (by decide) ?_
    refine pfX6_55 B hT hI hA hW hS (by decide) mE_0 (Nat.le_of_ble_eq_true rfl) rfl (by first | rfl | decide) dX6_addHousehold_16 (fun H locs hW hS => ?_)
    have hW := hW.eq (E' := mE cI cZ ad 0 nP nH rN nf pn sp sk ag (RV V) (RV T) (FL pd) (FL py) du mA mC mH mG mS mI mT mP) (mE_u0 _ _ _ _ _ _ _ _ _ _ _ _ _ _ _ _)
    refine lv_aload_n hx hb dX6_addHousehold_19 rfl (lv_at hl 0 rfl) ?_
    refine lv_dup hx hb dX6_addHousehold_20 rfl ?_
    refine gfX6_65 B hT hW (by decide) mE_0 rfl dX6_addHousehold_21 ?_
    refine lv_iconst (v := 1) hx hb dX6_addHousehold_24 (by decide) ?_
    refine lv_iadd hx hb dX6_addHousehold_25 ?_
    refine b_top (y := nI (nH + 1)) (nI_1 nH) ?_
    refine pfX6_65 B hT hI hA hW hS (by decide) mE_0 (Nat.le_of_ble_eq_true rfl) rfl (by first | rfl | decide) dX6_addHousehold_26 (fun H locs hW hS => ?_)
    have hW := hW.eq (E' := mE cI cZ ad 0 nP (nH + 1) rN nf pn sp sk ag (RV V) (RV T) (FL pd) (FL py) du mA mC mH mG mS mI mT mP) (mE_u0 _ _ _ _ _ _ _ _ _ _ _ _ _ _ _ _)
    refine lv_aload_n hx hb dX6_addHousehold_29 rfl (lv_at hl 0 rfl) ?_
    refine gfX6_65 B hT hW (by decide) mE_0 rfl dX6_addHousehold_30 ?_
    refine lv_iconst (v := 1) hx hb dX6_addHousehold_33 (by decide) ?_
    refine lv_isub hx hb dX6_addHousehold_34 ?_
    refine b_top (y := nI nH) nI_m1 ?_
    exact e_i hQ B hr hlk hS hW dX6_addHousehold_35 (Nat.le_of_ble_eq_true rfl) (Nat.le_of_ble_eq_true rfl) (by have hk : kAddH nH = 0 := (by unfold kAddH; rw [cif_t q4]); exact Or.inl ⟨hk, rfl, MW.mk⟩)
  · skip
    refine lv_aload_n hx hb dX6_addHousehold_8 rfl (lv_at hl 0 rfl) ?_
    refine lv_iconst (v := 1) hx hb dX6_addHousehold_9 (by decide) ?_
    refine b_ci (b_runV B hT hX hW hS (As := [.int 1]) (rest := []) (fun sz => mm_fails hI th nP nH rN nf pn sp sk ag V T pd py du mA mC mH mG mS mI mT mP 1 hti htz sz) (cwX6_68 B.2.2.2.2.1 ⟨Nat.le_of_ble_eq_true rfl, Nat.le_of_ble_eq_true rfl⟩) (b_recv B hW (by decide) mE_0 rfl) rfl hl.1 (Nat.le_of_ble_eq_true rfl) dX6_addHousehold_10 ⟨Nat.le_of_ble_eq_true rfl, Nat.le_of_ble_eq_true rfl⟩) hS (fun r_10 E1 H locs hp_10 hW hS => ?_)
    obtain ⟨hr_, hE_⟩ := hp_10
    subst hr_
    have hW := hW.eq hE_
    exact e_i hQ B hr hlk hS hW dX6_addHousehold_13 (Nat.le_of_ble_eq_true rfl) (Nat.le_of_ble_eq_true rfl) (by have hk : kAddH nH = 1 := (by unfold kAddH; rw [cif_f (by have := (nI_eq (by omega) (by omega)).mp c_5; omega)]); exact Or.inr ⟨by rw [hk]; decide, by rw [hk]; exact MW.mk⟩)
set_option maxHeartbeats 4000000 in
set_option maxRecDepth 100000 in
theorem mm_move {l : Launch} {D : va_G} {tys : List (ClassId × FieldType)} {ad : Nat → Nat} (hI : aI ad 13) {cI cZ : ClassId} (th : Int32) (nP nH rN : Nat) (nf pn : Int32) (sp sk : Int64) (ag : Nat → Int32) (V T : Nat → Nat → Int32) (pd py : Nat → Nat → Int32) (du : Nat → Int32) (mA mC mH mG mS mI mT mP : Int32) (x hh dy : Int32) (so : Nat → Int32) (hti : tys[0]? = some (cI, .int)) (htz : tys[1]? = some (cZ, .boolean)) (hInv : Inv V T ag nP nH rN so pd)  (sz : Nat) : Met l yX6_move (Cond.code yX6_move cX6_move 4 (some .int) :: wsL_law) (rmk 6 0 0) (va_Pc [.ref (ad 0), .int x, .int hh, .int dy] (PC D tys ad 13 (mE cI cZ ad th nP nH rN nf pn sp sk ag (RV V) (RV T) (FL pd) (FL py) du mA mC mH mG mS mI mT mP) sz)) (Qi D ad 13 (fun r E1 => (kMove nP nH x hh dy = 0 ∧ r = V (ix x) (ix dy) ∧ MW cI cZ ad 0 (upd2 V (ix x) (tellV (V (ix x)) (T (ix x)) (ix dy) hh)) (upd2 T (ix x) (upd (T (ix x)) (ix dy) 1)) ag nP nH rN (if T (ix x) (ix dy) = 0 then nf + 1 else nf) pn sp sk py pd E1) ∨ (¬ kMove nP nH x hh dy = 0 ∧ MW cI cZ ad (kMove nP nH x hh dy) V T ag nP nH rN nf pn sp sk py pd E1)) (cA ad 13 sz)) 0 0 (cA ad 13 sz) := by
  refine cm_of (own := RX6) (Qc := Qi D ad 13 (fun r E1 => (kMove nP nH x hh dy = 0 ∧ r = V (ix x) (ix dy) ∧ MW cI cZ ad 0 (upd2 V (ix x) (tellV (V (ix x)) (T (ix x)) (ix dy) hh)) (upd2 T (ix x) (upd (T (ix x)) (ix dy) 1)) ag nP nH rN (if T (ix x) (ix dy) = 0 then nf + 1 else nf) pn sp sk py pd E1) ∨ (¬ kMove nP nH x hh dy = 0 ∧ MW cI cZ ad (kMove nP nH x hh dy) V T ag nP nH rN nf pn sp sk py pd E1))) rfl (by decide +kernel) (Nat.le_of_ble_eq_true rfl) ?_ sz
  intro p e s m args below meth c ls Q B hT hX hW hr hlk hnm hl hS hA hQ
  have hx := B.1
  have hb := B.2.1
  have hl : lv_has ls 4 [(0, .ref (ad 0)), (1, .int x), (2, .int hh), (3, .int dy)] := hl
  obtain ⟨⟨hP8, hH4, hR12⟩, hTb, -, hso, -, -, hpd⟩ := id hInv
  refine lv_aload_n hx hb dX6_move_0 rfl (lv_at hl 0 rfl) ?_
  refine lv_iload_n hx hb dX6_move_1 rfl (lv_at hl 1 rfl) ?_
  refine b_ci (b_runV B hT hX hW hS (As := [.int x]) (rest := []) (fun sz => mm_isPerson hI th nP nH rN nf pn sp sk ag V T pd py du mA mC mH mG mS mI mT mP x hti htz (by omega) sz) (cwX6_75 B.2.2.2.2.1 ⟨Nat.le_of_ble_eq_true rfl, Nat.le_of_ble_eq_true rfl⟩) (b_recv B hW (by decide) mE_0 rfl) rfl hl.1 (Nat.le_of_ble_eq_true rfl) dX6_move_2 ⟨Nat.le_of_ble_eq_true rfl, Nat.le_of_ble_eq_true rfl⟩) hS (fun r_2 E1 H locs hp_2 hW hS => ?_)
  obtain ⟨hr_, hE_⟩ := hp_2
  subst hr_
  have hW := hW.eq hE_
  refine lv_if_eq (tgt := 21) hx hb dX6_move_5 (by decide) (fun c_5 => ?_) (fun c_5 => ?_)
  · skip
    refine lv_aload_n hx hb dX6_move_21 rfl (lv_at hl 0 rfl) ?_
    refine lv_iconst (v := 1) hx hb dX6_move_22 (by decide) ?_
    refine b_ci (b_runV B hT hX hW hS (As := [.int 1]) (rest := []) (fun sz => mm_fails hI th nP nH rN nf pn sp sk ag V T pd py du mA mC mH mG mS mI mT mP 1 hti htz sz) (cwX6_68 B.2.2.2.2.1 ⟨Nat.le_of_ble_eq_true rfl, Nat.le_of_ble_eq_true rfl⟩) (b_recv B hW (by decide) mE_0 rfl) rfl hl.1 (Nat.le_of_ble_eq_true rfl) dX6_move_23 ⟨Nat.le_of_ble_eq_true rfl, Nat.le_of_ble_eq_true rfl⟩) hS (fun r_23 E1 H locs hp_23 hW hS => ?_)
    obtain ⟨hr_, hE_⟩ := hp_23
    subst hr_
    have hW := hW.eq hE_
    exact e_i hQ B hr hlk hS hW dX6_move_26 (Nat.le_of_ble_eq_true rfl) (Nat.le_of_ble_eq_true rfl) (by have hk : kMove nP nH x hh dy = 1 := (by unfold kMove; rw [cif_f (fun q => c10_f c_5 q.1)]); exact Or.inr ⟨by rw [hk]; decide, by rw [hk]; exact MW.mk⟩)
  · skip
    refine lv_iload_n hx hb dX6_move_8 rfl (lv_at hl 2 rfl) ?_
    refine lv_iconst (v := (-1)) hx hb dX6_move_9 (by decide) ?_
    refine lv_icmp_eq (tgt := 27) hx hb dX6_move_10 (by decide) (fun c_10 => ?_) (fun c_10 => ?_)
    · skip
      refine lv_iload_n hx hb dX6_move_27 rfl (lv_at hl 3 rfl) ?_
      refine b_ci (b_runS B hT hX hW hS (As := [.int dy]) (rest := []) (fun sz => mm_isDay hI dy sz) (cwX6_82 B.2.2.2.2.1 ⟨Nat.le_of_ble_eq_true rfl, Nat.le_of_ble_eq_true rfl⟩) rfl hl.1 (Nat.le_of_ble_eq_true rfl) dX6_move_28 ⟨Nat.le_of_ble_eq_true rfl, Nat.le_of_ble_eq_true rfl⟩) hS (fun r_28 E1 H locs hp_28 hW hS => ?_)
      obtain ⟨hr_, hE_⟩ := hp_28
      subst hr_
      have hW := hW.eq hE_
      refine lv_if_ne (tgt := 40) hx hb dX6_move_31 (by decide) (fun c_31 => ?_) (fun c_31 => ?_)
      · skip
        obtain ⟨i, hi, rfl⟩ := vp_in_of (c10_t c_5) (by omega)
        obtain ⟨d, hd, rfl⟩ := vp_in_of (c10_t c_31) (by omega)
        have ei : ix (nI i) = i := nI_clamp (by omega)
        have ed : ix (nI d) = d := nI_clamp (by omega)
        refine lv_aload_n hx hb dX6_move_40 rfl (lv_at hl 0 rfl) ?_
        refine lv_iconst (v := 0) hx hb dX6_move_41 (by decide) ?_
        refine pfX6_55 B hT hI hA hW hS (by decide) mE_0 (Nat.le_of_ble_eq_true rfl) rfl (by first | rfl | decide) dX6_move_42 (fun H locs hW hS => ?_)
        have hW := hW.eq (E' := mE cI cZ ad 0 nP nH rN nf pn sp sk ag (RV V) (RV T) (FL pd) (FL py) du mA mC mH mG mS mI mT mP) (mE_u0 _ _ _ _ _ _ _ _ _ _ _ _ _ _ _ _)
        refine lv_aload_n hx hb dX6_move_45 rfl (lv_at hl 0 rfl) ?_
        refine lv_aload_n hx hb dX6_move_46 rfl (lv_at hl 0 rfl) ?_
        refine gfX6_17 B hT hW (by decide) mE_0 rfl dX6_move_47 ?_
        refine lv_aload_n hx hb dX6_move_50 rfl (lv_at hl 0 rfl) ?_
        refine gfX6_29 B hT hW (by decide) mE_0 rfl dX6_move_51 ?_
        refine lv_sipush (v := (nI 360)) hx hb dX6_move_54 (by decide) ?_
        refine lv_iload_n hx hb dX6_move_57 rfl (lv_at hl 1 rfl) ?_
        refine lv_imul hx hb dX6_move_58 ?_
        refine b_top (y := nI (360 * i)) (pk_mul _ _) ?_
        refine lv_iload_n hx hb dX6_move_59 rfl (lv_at hl 3 rfl) ?_
        refine lv_iload_n hx hb dX6_move_60 rfl (lv_at hl 2 rfl) ?_
        refine b_ci (b_runV B hT hX hW hS (As := [.ref (ad 2), .ref (ad 6), .int (nI (360 * i)), .int (nI d), .int hh]) (rest := []) (fun sz => mm_tells hI 0 nP nH rN nf pn sp sk ag V T pd py du mA mC mH mG mS mI mT mP 0 i d i hh hti htz (by omega) (show 360 * i + 360 ≤ 2880 by omega) (by omega) (Nat.zero_add _) sz) (cwX6_85 B.2.2.2.2.1 ⟨Nat.le_of_ble_eq_true rfl, Nat.le_of_ble_eq_true rfl⟩) (b_recv B hW (by decide) mE_0 rfl) rfl hl.1 (Nat.le_of_ble_eq_true rfl) dX6_move_61 ⟨Nat.le_of_ble_eq_true rfl, Nat.le_of_ble_eq_true rfl⟩) hS (fun r_61 E1 H locs hp_61 hW hS => ?_)
        obtain ⟨hr_, hE_⟩ := hp_61
        subst hr_
        have hW := hW.eq hE_
        exact e_i hQ B hr hlk hS hW dX6_move_64 (Nat.le_of_ble_eq_true rfl) (Nat.le_of_ble_eq_true rfl) (by have hk : kMove nP nH (nI i) hh (nI d) = 0 := (by unfold kMove; rw [cif_t ⟨vp_in_nI hi (by omega), Or.inl c_10⟩, cif_t (vp_in_nI hd (by omega))]); rw [ei, ed]; exact Or.inl ⟨hk, rfl, MW.mk⟩)
      · skip
        refine lv_aload_n hx hb dX6_move_34 rfl (lv_at hl 0 rfl) ?_
        refine lv_iconst (v := 2) hx hb dX6_move_35 (by decide) ?_
        refine b_ci (b_runV B hT hX hW hS (As := [.int 2]) (rest := []) (fun sz => mm_fails hI th nP nH rN nf pn sp sk ag V T pd py du mA mC mH mG mS mI mT mP 2 hti htz sz) (cwX6_68 B.2.2.2.2.1 ⟨Nat.le_of_ble_eq_true rfl, Nat.le_of_ble_eq_true rfl⟩) (b_recv B hW (by decide) mE_0 rfl) rfl hl.1 (Nat.le_of_ble_eq_true rfl) dX6_move_36 ⟨Nat.le_of_ble_eq_true rfl, Nat.le_of_ble_eq_true rfl⟩) hS (fun r_36 E1 H locs hp_36 hW hS => ?_)
        obtain ⟨hr_, hE_⟩ := hp_36
        subst hr_
        have hW := hW.eq hE_
        exact e_i hQ B hr hlk hS hW dX6_move_39 (Nat.le_of_ble_eq_true rfl) (Nat.le_of_ble_eq_true rfl) (by have hk : kMove nP nH x hh dy = 2 := (by unfold kMove; rw [cif_t ⟨c10_t c_5, Or.inl c_10⟩, cif_f (c10_f c_31)]); exact Or.inr ⟨by rw [hk]; decide, by rw [hk]; exact MW.mk⟩)
    · skip
      refine lv_aload_n hx hb dX6_move_13 rfl (lv_at hl 0 rfl) ?_
      refine lv_iload_n hx hb dX6_move_14 rfl (lv_at hl 2 rfl) ?_
      refine b_ci (b_runV B hT hX hW hS (As := [.int hh]) (rest := []) (fun sz => mm_isHouse hI th nP nH rN nf pn sp sk ag V T pd py du mA mC mH mG mS mI mT mP hh hti htz (by omega) sz) (cwX6_79 B.2.2.2.2.1 ⟨Nat.le_of_ble_eq_true rfl, Nat.le_of_ble_eq_true rfl⟩) (b_recv B hW (by decide) mE_0 rfl) rfl hl.1 (Nat.le_of_ble_eq_true rfl) dX6_move_15 ⟨Nat.le_of_ble_eq_true rfl, Nat.le_of_ble_eq_true rfl⟩) hS (fun r_15 E1 H locs hp_15 hW hS => ?_)
      obtain ⟨hr_, hE_⟩ := hp_15
      subst hr_
      have hW := hW.eq hE_
      refine lv_if_ne (tgt := 27) hx hb dX6_move_18 (by decide) (fun c_18 => ?_) (fun c_18 => ?_)
      · skip
        refine lv_iload_n hx hb dX6_move_27 rfl (lv_at hl 3 rfl) ?_
        refine b_ci (b_runS B hT hX hW hS (As := [.int dy]) (rest := []) (fun sz => mm_isDay hI dy sz) (cwX6_82 B.2.2.2.2.1 ⟨Nat.le_of_ble_eq_true rfl, Nat.le_of_ble_eq_true rfl⟩) rfl hl.1 (Nat.le_of_ble_eq_true rfl) dX6_move_28 ⟨Nat.le_of_ble_eq_true rfl, Nat.le_of_ble_eq_true rfl⟩) hS (fun r_28 E1 H locs hp_28 hW hS => ?_)
        obtain ⟨hr_, hE_⟩ := hp_28
        subst hr_
        have hW := hW.eq hE_
        refine lv_if_ne (tgt := 40) hx hb dX6_move_31 (by decide) (fun c_31 => ?_) (fun c_31 => ?_)
        · skip
          obtain ⟨i, hi, rfl⟩ := vp_in_of (c10_t c_5) (by omega)
          obtain ⟨d, hd, rfl⟩ := vp_in_of (c10_t c_31) (by omega)
          have ei : ix (nI i) = i := nI_clamp (by omega)
          have ed : ix (nI d) = d := nI_clamp (by omega)
          refine lv_aload_n hx hb dX6_move_40 rfl (lv_at hl 0 rfl) ?_
          refine lv_iconst (v := 0) hx hb dX6_move_41 (by decide) ?_
          refine pfX6_55 B hT hI hA hW hS (by decide) mE_0 (Nat.le_of_ble_eq_true rfl) rfl (by first | rfl | decide) dX6_move_42 (fun H locs hW hS => ?_)
          have hW := hW.eq (E' := mE cI cZ ad 0 nP nH rN nf pn sp sk ag (RV V) (RV T) (FL pd) (FL py) du mA mC mH mG mS mI mT mP) (mE_u0 _ _ _ _ _ _ _ _ _ _ _ _ _ _ _ _)
          refine lv_aload_n hx hb dX6_move_45 rfl (lv_at hl 0 rfl) ?_
          refine lv_aload_n hx hb dX6_move_46 rfl (lv_at hl 0 rfl) ?_
          refine gfX6_17 B hT hW (by decide) mE_0 rfl dX6_move_47 ?_
          refine lv_aload_n hx hb dX6_move_50 rfl (lv_at hl 0 rfl) ?_
          refine gfX6_29 B hT hW (by decide) mE_0 rfl dX6_move_51 ?_
          refine lv_sipush (v := (nI 360)) hx hb dX6_move_54 (by decide) ?_
          refine lv_iload_n hx hb dX6_move_57 rfl (lv_at hl 1 rfl) ?_
          refine lv_imul hx hb dX6_move_58 ?_
          refine b_top (y := nI (360 * i)) (pk_mul _ _) ?_
          refine lv_iload_n hx hb dX6_move_59 rfl (lv_at hl 3 rfl) ?_
          refine lv_iload_n hx hb dX6_move_60 rfl (lv_at hl 2 rfl) ?_
          refine b_ci (b_runV B hT hX hW hS (As := [.ref (ad 2), .ref (ad 6), .int (nI (360 * i)), .int (nI d), .int hh]) (rest := []) (fun sz => mm_tells hI 0 nP nH rN nf pn sp sk ag V T pd py du mA mC mH mG mS mI mT mP 0 i d i hh hti htz (by omega) (show 360 * i + 360 ≤ 2880 by omega) (by omega) (Nat.zero_add _) sz) (cwX6_85 B.2.2.2.2.1 ⟨Nat.le_of_ble_eq_true rfl, Nat.le_of_ble_eq_true rfl⟩) (b_recv B hW (by decide) mE_0 rfl) rfl hl.1 (Nat.le_of_ble_eq_true rfl) dX6_move_61 ⟨Nat.le_of_ble_eq_true rfl, Nat.le_of_ble_eq_true rfl⟩) hS (fun r_61 E1 H locs hp_61 hW hS => ?_)
          obtain ⟨hr_, hE_⟩ := hp_61
          subst hr_
          have hW := hW.eq hE_
          exact e_i hQ B hr hlk hS hW dX6_move_64 (Nat.le_of_ble_eq_true rfl) (Nat.le_of_ble_eq_true rfl) (by have hk : kMove nP nH (nI i) hh (nI d) = 0 := (by unfold kMove; rw [cif_t ⟨vp_in_nI hi (by omega), Or.inr (c10_t c_18)⟩, cif_t (vp_in_nI hd (by omega))]); rw [ei, ed]; exact Or.inl ⟨hk, rfl, MW.mk⟩)
        · skip
          refine lv_aload_n hx hb dX6_move_34 rfl (lv_at hl 0 rfl) ?_
          refine lv_iconst (v := 2) hx hb dX6_move_35 (by decide) ?_
          refine b_ci (b_runV B hT hX hW hS (As := [.int 2]) (rest := []) (fun sz => mm_fails hI th nP nH rN nf pn sp sk ag V T pd py du mA mC mH mG mS mI mT mP 2 hti htz sz) (cwX6_68 B.2.2.2.2.1 ⟨Nat.le_of_ble_eq_true rfl, Nat.le_of_ble_eq_true rfl⟩) (b_recv B hW (by decide) mE_0 rfl) rfl hl.1 (Nat.le_of_ble_eq_true rfl) dX6_move_36 ⟨Nat.le_of_ble_eq_true rfl, Nat.le_of_ble_eq_true rfl⟩) hS (fun r_36 E1 H locs hp_36 hW hS => ?_)
          obtain ⟨hr_, hE_⟩ := hp_36
          subst hr_
          have hW := hW.eq hE_
          exact e_i hQ B hr hlk hS hW dX6_move_39 (Nat.le_of_ble_eq_true rfl) (Nat.le_of_ble_eq_true rfl) (by have hk : kMove nP nH x hh dy = 2 := (by unfold kMove; rw [cif_t ⟨c10_t c_5, Or.inr (c10_t c_18)⟩, cif_f (c10_f c_31)]); exact Or.inr ⟨by rw [hk]; decide, by rw [hk]; exact MW.mk⟩)
      · skip
        refine lv_aload_n hx hb dX6_move_21 rfl (lv_at hl 0 rfl) ?_
        refine lv_iconst (v := 1) hx hb dX6_move_22 (by decide) ?_
        refine b_ci (b_runV B hT hX hW hS (As := [.int 1]) (rest := []) (fun sz => mm_fails hI th nP nH rN nf pn sp sk ag V T pd py du mA mC mH mG mS mI mT mP 1 hti htz sz) (cwX6_68 B.2.2.2.2.1 ⟨Nat.le_of_ble_eq_true rfl, Nat.le_of_ble_eq_true rfl⟩) (b_recv B hW (by decide) mE_0 rfl) rfl hl.1 (Nat.le_of_ble_eq_true rfl) dX6_move_23 ⟨Nat.le_of_ble_eq_true rfl, Nat.le_of_ble_eq_true rfl⟩) hS (fun r_23 E1 H locs hp_23 hW hS => ?_)
        obtain ⟨hr_, hE_⟩ := hp_23
        subst hr_
        have hW := hW.eq hE_
        exact e_i hQ B hr hlk hS hW dX6_move_26 (Nat.le_of_ble_eq_true rfl) (Nat.le_of_ble_eq_true rfl) (by have hk : kMove nP nH x hh dy = 1 := (by unfold kMove; rw [cif_f (fun q => q.2.elim c_10 (c10_f c_18))]); exact Or.inr ⟨by rw [hk]; decide, by rw [hk]; exact MW.mk⟩)
set_option maxHeartbeats 4000000 in
set_option maxRecDepth 100000 in
theorem mm_setIncome {l : Launch} {D : va_G} {tys : List (ClassId × FieldType)} {ad : Nat → Nat} (hI : aI ad 13) {cI cZ : ClassId} (th : Int32) (nP nH rN : Nat) (nf pn : Int32) (sp sk : Int64) (ag : Nat → Int32) (V T : Nat → Nat → Int32) (pd py : Nat → Nat → Int32) (du : Nat → Int32) (mA mC mH mG mS mI mT mP : Int32) (x v dy : Int32) (so : Nat → Int32) (hti : tys[0]? = some (cI, .int)) (htz : tys[1]? = some (cZ, .boolean)) (hInv : Inv V T ag nP nH rN so pd)  (sz : Nat) : Met l yX6_setIncome (Cond.code yX6_setIncome cX6_setIncome 4 (some .int) :: wsL_law) (rmk 6 0 0) (va_Pc [.ref (ad 0), .int x, .int v, .int dy] (PC D tys ad 13 (mE cI cZ ad th nP nH rN nf pn sp sk ag (RV V) (RV T) (FL pd) (FL py) du mA mC mH mG mS mI mT mP) sz)) (Qi D ad 13 (fun r E1 => (kSet nP x v dy = 0 ∧ r = V (8 + ix x) (ix dy) ∧ MW cI cZ ad 0 (upd2 V (8 + ix x) (tellV (V (8 + ix x)) (T (8 + ix x)) (ix dy) v)) (upd2 T (8 + ix x) (upd (T (8 + ix x)) (ix dy) 1)) ag nP nH rN (if T (8 + ix x) (ix dy) = 0 then nf + 1 else nf) pn sp sk py pd E1) ∨ (¬ kSet nP x v dy = 0 ∧ MW cI cZ ad (kSet nP x v dy) V T ag nP nH rN nf pn sp sk py pd E1)) (cA ad 13 sz)) 0 0 (cA ad 13 sz) := by
  refine cm_of (own := RX6) (Qc := Qi D ad 13 (fun r E1 => (kSet nP x v dy = 0 ∧ r = V (8 + ix x) (ix dy) ∧ MW cI cZ ad 0 (upd2 V (8 + ix x) (tellV (V (8 + ix x)) (T (8 + ix x)) (ix dy) v)) (upd2 T (8 + ix x) (upd (T (8 + ix x)) (ix dy) 1)) ag nP nH rN (if T (8 + ix x) (ix dy) = 0 then nf + 1 else nf) pn sp sk py pd E1) ∨ (¬ kSet nP x v dy = 0 ∧ MW cI cZ ad (kSet nP x v dy) V T ag nP nH rN nf pn sp sk py pd E1))) rfl (by decide +kernel) (Nat.le_of_ble_eq_true rfl) ?_ sz
  intro p e s m args below meth c ls Q B hT hX hW hr hlk hnm hl hS hA hQ
  have hx := B.1
  have hb := B.2.1
  have hl : lv_has ls 4 [(0, .ref (ad 0)), (1, .int x), (2, .int v), (3, .int dy)] := hl
  obtain ⟨⟨hP8, hH4, hR12⟩, hTb, -, hso, -, -, hpd⟩ := id hInv
  refine lv_aload_n hx hb dX6_setIncome_0 rfl (lv_at hl 0 rfl) ?_
  refine lv_iload_n hx hb dX6_setIncome_1 rfl (lv_at hl 1 rfl) ?_
  refine b_ci (b_runV B hT hX hW hS (As := [.int x]) (rest := []) (fun sz => mm_isPerson hI th nP nH rN nf pn sp sk ag V T pd py du mA mC mH mG mS mI mT mP x hti htz (by omega) sz) (cwX6_75 B.2.2.2.2.1 ⟨Nat.le_of_ble_eq_true rfl, Nat.le_of_ble_eq_true rfl⟩) (b_recv B hW (by decide) mE_0 rfl) rfl hl.1 (Nat.le_of_ble_eq_true rfl) dX6_setIncome_2 ⟨Nat.le_of_ble_eq_true rfl, Nat.le_of_ble_eq_true rfl⟩) hS (fun r_2 E1 H locs hp_2 hW hS => ?_)
  obtain ⟨hr_, hE_⟩ := hp_2
  subst hr_
  have hW := hW.eq hE_
  refine lv_if_ne (tgt := 14) hx hb dX6_setIncome_5 (by decide) (fun c_5 => ?_) (fun c_5 => ?_)
  · skip
    refine lv_iload_n hx hb dX6_setIncome_14 rfl (lv_at hl 2 rfl) ?_
    refine lv_iconst (v := 0) hx hb dX6_setIncome_15 (by decide) ?_
    refine lv_sipush (v := (nI 999)) hx hb dX6_setIncome_16 (by decide) ?_
    refine b_ci (b_runS B hT hX hW hS (As := [.int v, .int 0, .int (nI 999)]) (rest := []) (fun sz => mm_in hI v 0 (nI 999) sz) (cwX6_61 B.2.2.2.2.1 ⟨Nat.le_of_ble_eq_true rfl, Nat.le_of_ble_eq_true rfl⟩) rfl hl.1 (Nat.le_of_ble_eq_true rfl) dX6_setIncome_19 ⟨Nat.le_of_ble_eq_true rfl, Nat.le_of_ble_eq_true rfl⟩) hS (fun r_19 E1 H locs hp_19 hW hS => ?_)
    obtain ⟨hr_, hE_⟩ := hp_19
    subst hr_
    have hW := hW.eq hE_
    refine b_top (y := cif (vp_in v 1000) 1 0) (kIn_top (by omega)) ?_
    refine lv_if_eq (tgt := 32) hx hb dX6_setIncome_22 (by decide) (fun c_22 => ?_) (fun c_22 => ?_)
    · skip
      refine lv_aload_n hx hb dX6_setIncome_32 rfl (lv_at hl 0 rfl) ?_
      refine lv_iconst (v := 2) hx hb dX6_setIncome_33 (by decide) ?_
      refine b_ci (b_runV B hT hX hW hS (As := [.int 2]) (rest := []) (fun sz => mm_fails hI th nP nH rN nf pn sp sk ag V T pd py du mA mC mH mG mS mI mT mP 2 hti htz sz) (cwX6_68 B.2.2.2.2.1 ⟨Nat.le_of_ble_eq_true rfl, Nat.le_of_ble_eq_true rfl⟩) (b_recv B hW (by decide) mE_0 rfl) rfl hl.1 (Nat.le_of_ble_eq_true rfl) dX6_setIncome_34 ⟨Nat.le_of_ble_eq_true rfl, Nat.le_of_ble_eq_true rfl⟩) hS (fun r_34 E1 H locs hp_34 hW hS => ?_)
      obtain ⟨hr_, hE_⟩ := hp_34
      subst hr_
      have hW := hW.eq hE_
      exact e_i hQ B hr hlk hS hW dX6_setIncome_37 (Nat.le_of_ble_eq_true rfl) (Nat.le_of_ble_eq_true rfl) (by have hk : kSet nP x v dy = 2 := (by unfold kSet; rw [cif_t (c10_t c_5), cif_f (fun q => c10_f c_22 q.1)]); exact Or.inr ⟨by rw [hk]; decide, by rw [hk]; exact MW.mk⟩)
    · skip
      refine lv_iload_n hx hb dX6_setIncome_25 rfl (lv_at hl 3 rfl) ?_
      refine b_ci (b_runS B hT hX hW hS (As := [.int dy]) (rest := []) (fun sz => mm_isDay hI dy sz) (cwX6_82 B.2.2.2.2.1 ⟨Nat.le_of_ble_eq_true rfl, Nat.le_of_ble_eq_true rfl⟩) rfl hl.1 (Nat.le_of_ble_eq_true rfl) dX6_setIncome_26 ⟨Nat.le_of_ble_eq_true rfl, Nat.le_of_ble_eq_true rfl⟩) hS (fun r_26 E1 H locs hp_26 hW hS => ?_)
      obtain ⟨hr_, hE_⟩ := hp_26
      subst hr_
      have hW := hW.eq hE_
      refine lv_if_ne (tgt := 38) hx hb dX6_setIncome_29 (by decide) (fun c_29 => ?_) (fun c_29 => ?_)
      · skip
        obtain ⟨i, hi, rfl⟩ := vp_in_of (c10_t c_5) (by omega)
        obtain ⟨d, hd, rfl⟩ := vp_in_of (c10_t c_29) (by omega)
        have ei : ix (nI i) = i := nI_clamp (by omega)
        have ed : ix (nI d) = d := nI_clamp (by omega)
        refine lv_aload_n hx hb dX6_setIncome_38 rfl (lv_at hl 0 rfl) ?_
        refine lv_iconst (v := 0) hx hb dX6_setIncome_39 (by decide) ?_
        refine pfX6_55 B hT hI hA hW hS (by decide) mE_0 (Nat.le_of_ble_eq_true rfl) rfl (by first | rfl | decide) dX6_setIncome_40 (fun H locs hW hS => ?_)
        have hW := hW.eq (E' := mE cI cZ ad 0 nP nH rN nf pn sp sk ag (RV V) (RV T) (FL pd) (FL py) du mA mC mH mG mS mI mT mP) (mE_u0 _ _ _ _ _ _ _ _ _ _ _ _ _ _ _ _)
        refine lv_aload_n hx hb dX6_setIncome_43 rfl (lv_at hl 0 rfl) ?_
        refine lv_aload_n hx hb dX6_setIncome_44 rfl (lv_at hl 0 rfl) ?_
        refine gfX6_20 B hT hW (by decide) mE_0 rfl dX6_setIncome_45 ?_
        refine lv_aload_n hx hb dX6_setIncome_48 rfl (lv_at hl 0 rfl) ?_
        refine gfX6_33 B hT hW (by decide) mE_0 rfl dX6_setIncome_49 ?_
        refine lv_sipush (v := (nI 360)) hx hb dX6_setIncome_52 (by decide) ?_
        refine lv_iload_n hx hb dX6_setIncome_55 rfl (lv_at hl 1 rfl) ?_
        refine lv_imul hx hb dX6_setIncome_56 ?_
        refine b_top (y := nI (360 * i)) (pk_mul _ _) ?_
        refine lv_iload_n hx hb dX6_setIncome_57 rfl (lv_at hl 3 rfl) ?_
        refine lv_iload_n hx hb dX6_setIncome_58 rfl (lv_at hl 2 rfl) ?_
        refine b_ci (b_runV B hT hX hW hS (As := [.ref (ad 3), .ref (ad 7), .int (nI (360 * i)), .int (nI d), .int v]) (rest := []) (fun sz => mm_tells hI 0 nP nH rN nf pn sp sk ag V T pd py du mA mC mH mG mS mI mT mP 1 i d (8 + i) v hti htz (by omega) (show 360 * i + 360 ≤ 2880 by omega) (by omega) rfl sz) (cwX6_85 B.2.2.2.2.1 ⟨Nat.le_of_ble_eq_true rfl, Nat.le_of_ble_eq_true rfl⟩) (b_recv B hW (by decide) mE_0 rfl) rfl hl.1 (Nat.le_of_ble_eq_true rfl) dX6_setIncome_59 ⟨Nat.le_of_ble_eq_true rfl, Nat.le_of_ble_eq_true rfl⟩) hS (fun r_59 E1 H locs hp_59 hW hS => ?_)
        obtain ⟨hr_, hE_⟩ := hp_59
        subst hr_
        have hW := hW.eq hE_
        exact e_i hQ B hr hlk hS hW dX6_setIncome_62 (Nat.le_of_ble_eq_true rfl) (Nat.le_of_ble_eq_true rfl) (by have hk : kSet nP (nI i) v (nI d) = 0 := (by unfold kSet; rw [cif_t (vp_in_nI hi (by omega)), cif_t ⟨c10_t c_22, vp_in_nI hd (by omega)⟩]); rw [ei, ed]; exact Or.inl ⟨hk, rfl, MW.mk⟩)
      · skip
        refine lv_aload_n hx hb dX6_setIncome_32 rfl (lv_at hl 0 rfl) ?_
        refine lv_iconst (v := 2) hx hb dX6_setIncome_33 (by decide) ?_
        refine b_ci (b_runV B hT hX hW hS (As := [.int 2]) (rest := []) (fun sz => mm_fails hI th nP nH rN nf pn sp sk ag V T pd py du mA mC mH mG mS mI mT mP 2 hti htz sz) (cwX6_68 B.2.2.2.2.1 ⟨Nat.le_of_ble_eq_true rfl, Nat.le_of_ble_eq_true rfl⟩) (b_recv B hW (by decide) mE_0 rfl) rfl hl.1 (Nat.le_of_ble_eq_true rfl) dX6_setIncome_34 ⟨Nat.le_of_ble_eq_true rfl, Nat.le_of_ble_eq_true rfl⟩) hS (fun r_34 E1 H locs hp_34 hW hS => ?_)
        obtain ⟨hr_, hE_⟩ := hp_34
        subst hr_
        have hW := hW.eq hE_
        exact e_i hQ B hr hlk hS hW dX6_setIncome_37 (Nat.le_of_ble_eq_true rfl) (Nat.le_of_ble_eq_true rfl) (by have hk : kSet nP x v dy = 2 := (by unfold kSet; rw [cif_t (c10_t c_5), cif_f (fun q => c10_f c_29 q.2)]); exact Or.inr ⟨by rw [hk]; decide, by rw [hk]; exact MW.mk⟩)
  · skip
    refine lv_aload_n hx hb dX6_setIncome_8 rfl (lv_at hl 0 rfl) ?_
    refine lv_iconst (v := 1) hx hb dX6_setIncome_9 (by decide) ?_
    refine b_ci (b_runV B hT hX hW hS (As := [.int 1]) (rest := []) (fun sz => mm_fails hI th nP nH rN nf pn sp sk ag V T pd py du mA mC mH mG mS mI mT mP 1 hti htz sz) (cwX6_68 B.2.2.2.2.1 ⟨Nat.le_of_ble_eq_true rfl, Nat.le_of_ble_eq_true rfl⟩) (b_recv B hW (by decide) mE_0 rfl) rfl hl.1 (Nat.le_of_ble_eq_true rfl) dX6_setIncome_10 ⟨Nat.le_of_ble_eq_true rfl, Nat.le_of_ble_eq_true rfl⟩) hS (fun r_10 E1 H locs hp_10 hW hS => ?_)
    obtain ⟨hr_, hE_⟩ := hp_10
    subst hr_
    have hW := hW.eq hE_
    exact e_i hQ B hr hlk hS hW dX6_setIncome_13 (Nat.le_of_ble_eq_true rfl) (Nat.le_of_ble_eq_true rfl) (by have hk : kSet nP x v dy = 1 := (by unfold kSet; rw [cif_f (c10_f c_5)]); exact Or.inr ⟨by rw [hk]; decide, by rw [hk]; exact MW.mk⟩)
set_option maxHeartbeats 4000000 in
set_option maxRecDepth 100000 in
theorem mm_setRent {l : Launch} {D : va_G} {tys : List (ClassId × FieldType)} {ad : Nat → Nat} (hI : aI ad 13) {cI cZ : ClassId} (th : Int32) (nP nH rN : Nat) (nf pn : Int32) (sp sk : Int64) (ag : Nat → Int32) (V T : Nat → Nat → Int32) (pd py : Nat → Nat → Int32) (du : Nat → Int32) (mA mC mH mG mS mI mT mP : Int32) (x v dy : Int32) (so : Nat → Int32) (hti : tys[0]? = some (cI, .int)) (htz : tys[1]? = some (cZ, .boolean)) (hInv : Inv V T ag nP nH rN so pd)  (sz : Nat) : Met l yX6_setRent (Cond.code yX6_setRent cX6_setRent 4 (some .int) :: wsL_law) (rmk 6 0 0) (va_Pc [.ref (ad 0), .int x, .int v, .int dy] (PC D tys ad 13 (mE cI cZ ad th nP nH rN nf pn sp sk ag (RV V) (RV T) (FL pd) (FL py) du mA mC mH mG mS mI mT mP) sz)) (Qi D ad 13 (fun r E1 => (kSet nH x v dy = 0 ∧ r = V (16 + ix x) (ix dy) ∧ MW cI cZ ad 0 (upd2 V (16 + ix x) (tellV (V (16 + ix x)) (T (16 + ix x)) (ix dy) v)) (upd2 T (16 + ix x) (upd (T (16 + ix x)) (ix dy) 1)) ag nP nH rN (if T (16 + ix x) (ix dy) = 0 then nf + 1 else nf) pn sp sk py pd E1) ∨ (¬ kSet nH x v dy = 0 ∧ MW cI cZ ad (kSet nH x v dy) V T ag nP nH rN nf pn sp sk py pd E1)) (cA ad 13 sz)) 0 0 (cA ad 13 sz) := by
  refine cm_of (own := RX6) (Qc := Qi D ad 13 (fun r E1 => (kSet nH x v dy = 0 ∧ r = V (16 + ix x) (ix dy) ∧ MW cI cZ ad 0 (upd2 V (16 + ix x) (tellV (V (16 + ix x)) (T (16 + ix x)) (ix dy) v)) (upd2 T (16 + ix x) (upd (T (16 + ix x)) (ix dy) 1)) ag nP nH rN (if T (16 + ix x) (ix dy) = 0 then nf + 1 else nf) pn sp sk py pd E1) ∨ (¬ kSet nH x v dy = 0 ∧ MW cI cZ ad (kSet nH x v dy) V T ag nP nH rN nf pn sp sk py pd E1))) rfl (by decide +kernel) (Nat.le_of_ble_eq_true rfl) ?_ sz
  intro p e s m args below meth c ls Q B hT hX hW hr hlk hnm hl hS hA hQ
  have hx := B.1
  have hb := B.2.1
  have hl : lv_has ls 4 [(0, .ref (ad 0)), (1, .int x), (2, .int v), (3, .int dy)] := hl
  obtain ⟨⟨hP8, hH4, hR12⟩, hTb, -, hso, -, -, hpd⟩ := id hInv
  refine lv_aload_n hx hb dX6_setRent_0 rfl (lv_at hl 0 rfl) ?_
  refine lv_iload_n hx hb dX6_setRent_1 rfl (lv_at hl 1 rfl) ?_
  refine b_ci (b_runV B hT hX hW hS (As := [.int x]) (rest := []) (fun sz => mm_isHouse hI th nP nH rN nf pn sp sk ag V T pd py du mA mC mH mG mS mI mT mP x hti htz (by omega) sz) (cwX6_79 B.2.2.2.2.1 ⟨Nat.le_of_ble_eq_true rfl, Nat.le_of_ble_eq_true rfl⟩) (b_recv B hW (by decide) mE_0 rfl) rfl hl.1 (Nat.le_of_ble_eq_true rfl) dX6_setRent_2 ⟨Nat.le_of_ble_eq_true rfl, Nat.le_of_ble_eq_true rfl⟩) hS (fun r_2 E1 H locs hp_2 hW hS => ?_)
  obtain ⟨hr_, hE_⟩ := hp_2
  subst hr_
  have hW := hW.eq hE_
  refine lv_if_ne (tgt := 14) hx hb dX6_setRent_5 (by decide) (fun c_5 => ?_) (fun c_5 => ?_)
  · skip
    refine lv_iload_n hx hb dX6_setRent_14 rfl (lv_at hl 2 rfl) ?_
    refine lv_iconst (v := 0) hx hb dX6_setRent_15 (by decide) ?_
    refine lv_sipush (v := (nI 999)) hx hb dX6_setRent_16 (by decide) ?_
    refine b_ci (b_runS B hT hX hW hS (As := [.int v, .int 0, .int (nI 999)]) (rest := []) (fun sz => mm_in hI v 0 (nI 999) sz) (cwX6_61 B.2.2.2.2.1 ⟨Nat.le_of_ble_eq_true rfl, Nat.le_of_ble_eq_true rfl⟩) rfl hl.1 (Nat.le_of_ble_eq_true rfl) dX6_setRent_19 ⟨Nat.le_of_ble_eq_true rfl, Nat.le_of_ble_eq_true rfl⟩) hS (fun r_19 E1 H locs hp_19 hW hS => ?_)
    obtain ⟨hr_, hE_⟩ := hp_19
    subst hr_
    have hW := hW.eq hE_
    refine b_top (y := cif (vp_in v 1000) 1 0) (kIn_top (by omega)) ?_
    refine lv_if_eq (tgt := 32) hx hb dX6_setRent_22 (by decide) (fun c_22 => ?_) (fun c_22 => ?_)
    · skip
      refine lv_aload_n hx hb dX6_setRent_32 rfl (lv_at hl 0 rfl) ?_
      refine lv_iconst (v := 2) hx hb dX6_setRent_33 (by decide) ?_
      refine b_ci (b_runV B hT hX hW hS (As := [.int 2]) (rest := []) (fun sz => mm_fails hI th nP nH rN nf pn sp sk ag V T pd py du mA mC mH mG mS mI mT mP 2 hti htz sz) (cwX6_68 B.2.2.2.2.1 ⟨Nat.le_of_ble_eq_true rfl, Nat.le_of_ble_eq_true rfl⟩) (b_recv B hW (by decide) mE_0 rfl) rfl hl.1 (Nat.le_of_ble_eq_true rfl) dX6_setRent_34 ⟨Nat.le_of_ble_eq_true rfl, Nat.le_of_ble_eq_true rfl⟩) hS (fun r_34 E1 H locs hp_34 hW hS => ?_)
      obtain ⟨hr_, hE_⟩ := hp_34
      subst hr_
      have hW := hW.eq hE_
      exact e_i hQ B hr hlk hS hW dX6_setRent_37 (Nat.le_of_ble_eq_true rfl) (Nat.le_of_ble_eq_true rfl) (by have hk : kSet nH x v dy = 2 := (by unfold kSet; rw [cif_t (c10_t c_5), cif_f (fun q => c10_f c_22 q.1)]); exact Or.inr ⟨by rw [hk]; decide, by rw [hk]; exact MW.mk⟩)
    · skip
      refine lv_iload_n hx hb dX6_setRent_25 rfl (lv_at hl 3 rfl) ?_
      refine b_ci (b_runS B hT hX hW hS (As := [.int dy]) (rest := []) (fun sz => mm_isDay hI dy sz) (cwX6_82 B.2.2.2.2.1 ⟨Nat.le_of_ble_eq_true rfl, Nat.le_of_ble_eq_true rfl⟩) rfl hl.1 (Nat.le_of_ble_eq_true rfl) dX6_setRent_26 ⟨Nat.le_of_ble_eq_true rfl, Nat.le_of_ble_eq_true rfl⟩) hS (fun r_26 E1 H locs hp_26 hW hS => ?_)
      obtain ⟨hr_, hE_⟩ := hp_26
      subst hr_
      have hW := hW.eq hE_
      refine lv_if_ne (tgt := 38) hx hb dX6_setRent_29 (by decide) (fun c_29 => ?_) (fun c_29 => ?_)
      · skip
        obtain ⟨i, hi, rfl⟩ := vp_in_of (c10_t c_5) (by omega)
        obtain ⟨d, hd, rfl⟩ := vp_in_of (c10_t c_29) (by omega)
        have ei : ix (nI i) = i := nI_clamp (by omega)
        have ed : ix (nI d) = d := nI_clamp (by omega)
        refine lv_aload_n hx hb dX6_setRent_38 rfl (lv_at hl 0 rfl) ?_
        refine lv_iconst (v := 0) hx hb dX6_setRent_39 (by decide) ?_
        refine pfX6_55 B hT hI hA hW hS (by decide) mE_0 (Nat.le_of_ble_eq_true rfl) rfl (by first | rfl | decide) dX6_setRent_40 (fun H locs hW hS => ?_)
        have hW := hW.eq (E' := mE cI cZ ad 0 nP nH rN nf pn sp sk ag (RV V) (RV T) (FL pd) (FL py) du mA mC mH mG mS mI mT mP) (mE_u0 _ _ _ _ _ _ _ _ _ _ _ _ _ _ _ _)
        refine lv_aload_n hx hb dX6_setRent_43 rfl (lv_at hl 0 rfl) ?_
        refine lv_aload_n hx hb dX6_setRent_44 rfl (lv_at hl 0 rfl) ?_
        refine gfX6_23 B hT hW (by decide) mE_0 rfl dX6_setRent_45 ?_
        refine lv_aload_n hx hb dX6_setRent_48 rfl (lv_at hl 0 rfl) ?_
        refine gfX6_36 B hT hW (by decide) mE_0 rfl dX6_setRent_49 ?_
        refine lv_sipush (v := (nI 360)) hx hb dX6_setRent_52 (by decide) ?_
        refine lv_iload_n hx hb dX6_setRent_55 rfl (lv_at hl 1 rfl) ?_
        refine lv_imul hx hb dX6_setRent_56 ?_
        refine b_top (y := nI (360 * i)) (pk_mul _ _) ?_
        refine lv_iload_n hx hb dX6_setRent_57 rfl (lv_at hl 3 rfl) ?_
        refine lv_iload_n hx hb dX6_setRent_58 rfl (lv_at hl 2 rfl) ?_
        refine b_ci (b_runV B hT hX hW hS (As := [.ref (ad 4), .ref (ad 8), .int (nI (360 * i)), .int (nI d), .int v]) (rest := []) (fun sz => mm_tells hI 0 nP nH rN nf pn sp sk ag V T pd py du mA mC mH mG mS mI mT mP 2 i d (16 + i) v hti htz (by omega) (show 360 * i + 360 ≤ 1440 by omega) (by omega) rfl sz) (cwX6_85 B.2.2.2.2.1 ⟨Nat.le_of_ble_eq_true rfl, Nat.le_of_ble_eq_true rfl⟩) (b_recv B hW (by decide) mE_0 rfl) rfl hl.1 (Nat.le_of_ble_eq_true rfl) dX6_setRent_59 ⟨Nat.le_of_ble_eq_true rfl, Nat.le_of_ble_eq_true rfl⟩) hS (fun r_59 E1 H locs hp_59 hW hS => ?_)
        obtain ⟨hr_, hE_⟩ := hp_59
        subst hr_
        have hW := hW.eq hE_
        exact e_i hQ B hr hlk hS hW dX6_setRent_62 (Nat.le_of_ble_eq_true rfl) (Nat.le_of_ble_eq_true rfl) (by have hk : kSet nH (nI i) v (nI d) = 0 := (by unfold kSet; rw [cif_t (vp_in_nI hi (by omega)), cif_t ⟨c10_t c_22, vp_in_nI hd (by omega)⟩]); rw [ei, ed]; exact Or.inl ⟨hk, rfl, MW.mk⟩)
      · skip
        refine lv_aload_n hx hb dX6_setRent_32 rfl (lv_at hl 0 rfl) ?_
        refine lv_iconst (v := 2) hx hb dX6_setRent_33 (by decide) ?_
        refine b_ci (b_runV B hT hX hW hS (As := [.int 2]) (rest := []) (fun sz => mm_fails hI th nP nH rN nf pn sp sk ag V T pd py du mA mC mH mG mS mI mT mP 2 hti htz sz) (cwX6_68 B.2.2.2.2.1 ⟨Nat.le_of_ble_eq_true rfl, Nat.le_of_ble_eq_true rfl⟩) (b_recv B hW (by decide) mE_0 rfl) rfl hl.1 (Nat.le_of_ble_eq_true rfl) dX6_setRent_34 ⟨Nat.le_of_ble_eq_true rfl, Nat.le_of_ble_eq_true rfl⟩) hS (fun r_34 E1 H locs hp_34 hW hS => ?_)
        obtain ⟨hr_, hE_⟩ := hp_34
        subst hr_
        have hW := hW.eq hE_
        exact e_i hQ B hr hlk hS hW dX6_setRent_37 (Nat.le_of_ble_eq_true rfl) (Nat.le_of_ble_eq_true rfl) (by have hk : kSet nH x v dy = 2 := (by unfold kSet; rw [cif_t (c10_t c_5), cif_f (fun q => c10_f c_29 q.2)]); exact Or.inr ⟨by rw [hk]; decide, by rw [hk]; exact MW.mk⟩)
  · skip
    refine lv_aload_n hx hb dX6_setRent_8 rfl (lv_at hl 0 rfl) ?_
    refine lv_iconst (v := 1) hx hb dX6_setRent_9 (by decide) ?_
    refine b_ci (b_runV B hT hX hW hS (As := [.int 1]) (rest := []) (fun sz => mm_fails hI th nP nH rN nf pn sp sk ag V T pd py du mA mC mH mG mS mI mT mP 1 hti htz sz) (cwX6_68 B.2.2.2.2.1 ⟨Nat.le_of_ble_eq_true rfl, Nat.le_of_ble_eq_true rfl⟩) (b_recv B hW (by decide) mE_0 rfl) rfl hl.1 (Nat.le_of_ble_eq_true rfl) dX6_setRent_10 ⟨Nat.le_of_ble_eq_true rfl, Nat.le_of_ble_eq_true rfl⟩) hS (fun r_10 E1 H locs hp_10 hW hS => ?_)
    obtain ⟨hr_, hE_⟩ := hp_10
    subst hr_
    have hW := hW.eq hE_
    exact e_i hQ B hr hlk hS hW dX6_setRent_13 (Nat.le_of_ble_eq_true rfl) (Nat.le_of_ble_eq_true rfl) (by have hk : kSet nH x v dy = 1 := (by unfold kSet; rw [cif_f (c10_f c_5)]); exact Or.inr ⟨by rw [hk]; decide, by rw [hk]; exact MW.mk⟩)
set_option maxHeartbeats 4000000 in
set_option maxRecDepth 100000 in
theorem mm_setRule {l : Launch} {D : va_G} {tys : List (ClassId × FieldType)} {ad : Nat → Nat} (hI : aI ad 13) {cI cZ : ClassId} (th : Int32) (nP nH rN : Nat) (nf pn : Int32) (sp sk : Int64) (ag : Nat → Int32) (V T : Nat → Nat → Int32) (pd py : Nat → Nat → Int32) (du : Nat → Int32) (mA mC mH mG mS mI mT mP : Int32) (x v dy : Int32) (so : Nat → Int32) (hti : tys[0]? = some (cI, .int)) (htz : tys[1]? = some (cZ, .boolean)) (hInv : Inv V T ag nP nH rN so pd)  (sz : Nat) : Met l yX6_setRule (Cond.code yX6_setRule cX6_setRule 5 (some .int) :: wsL_law) (rmk 6 0 0) (va_Pc [.ref (ad 0), .int x, .int v, .int dy] (PC D tys ad 13 (mE cI cZ ad th nP nH rN nf pn sp sk ag (RV V) (RV T) (FL pd) (FL py) du mA mC mH mG mS mI mT mP) sz)) (Qi D ad 13 (fun r E1 => (kRule x v dy = 0 ∧ r = V (20 + rIx x) (ix dy) ∧ MW cI cZ ad 0 (upd2 V (20 + rIx x) (tellV (V (20 + rIx x)) (T (20 + rIx x)) (ix dy) v)) (upd2 T (20 + rIx x) (upd (T (20 + rIx x)) (ix dy) 1)) ag nP nH rN (if T (20 + rIx x) (ix dy) = 0 then nf + 1 else nf) pn sp sk py pd E1) ∨ (¬ kRule x v dy = 0 ∧ MW cI cZ ad (kRule x v dy) V T ag nP nH rN nf pn sp sk py pd E1)) (cA ad 13 sz)) 0 0 (cA ad 13 sz) := by
  refine cm_of (own := RX6) (Qc := Qi D ad 13 (fun r E1 => (kRule x v dy = 0 ∧ r = V (20 + rIx x) (ix dy) ∧ MW cI cZ ad 0 (upd2 V (20 + rIx x) (tellV (V (20 + rIx x)) (T (20 + rIx x)) (ix dy) v)) (upd2 T (20 + rIx x) (upd (T (20 + rIx x)) (ix dy) 1)) ag nP nH rN (if T (20 + rIx x) (ix dy) = 0 then nf + 1 else nf) pn sp sk py pd E1) ∨ (¬ kRule x v dy = 0 ∧ MW cI cZ ad (kRule x v dy) V T ag nP nH rN nf pn sp sk py pd E1))) rfl (by decide +kernel) (Nat.le_of_ble_eq_true rfl) ?_ sz
  intro p e s m args below meth c ls Q B hT hX hW hr hlk hnm hl hS hA hQ
  have hx := B.1
  have hb := B.2.1
  have hl : lv_has ls 5 [(0, .ref (ad 0)), (1, .int x), (2, .int v), (3, .int dy)] := hl
  obtain ⟨⟨hP8, hH4, hR12⟩, hTb, -, hso, -, -, hpd⟩ := id hInv
  refine lv_iload_n hx hb dX6_setRule_0 rfl (lv_at hl 1 rfl) ?_
  refine b_ci (b_runS B hT hX hW hS (As := [.int x]) (rest := []) (fun sz => mm_place hI x sz) (cwX6_89 B.2.2.2.2.1 ⟨Nat.le_of_ble_eq_true rfl, Nat.le_of_ble_eq_true rfl⟩) rfl hl.1 (Nat.le_of_ble_eq_true rfl) dX6_setRule_1 ⟨Nat.le_of_ble_eq_true rfl, Nat.le_of_ble_eq_true rfl⟩) hS (fun r_1 E1 H locs hp_1 hW hS => ?_)
  obtain ⟨hr_, hE_⟩ := hp_1
  subst hr_
  have hW := hW.eq hE_
  refine lv_istore (lv' := [(4, .int (kPl x)), (0, .ref (ad 0)), (1, .int x), (2, .int v), (3, .int dy)]) hx hb dX6_setRule_4 hl (by decide) rfl (fun ls hl => ?_)
  refine lv_iload hx hb dX6_setRule_6 (lv_at hl 0 rfl) ?_
  refine lv_iconst (v := (-1)) hx hb dX6_setRule_8 (by decide) ?_
  refine lv_icmp_ne (tgt := 18) hx hb dX6_setRule_9 (by decide) (fun c_9 => ?_) (fun c_9 => ?_)
  · skip
    have hri := kPl_yes c_9
    rw [kPl_t hri] at hl
    refine lv_iload_n hx hb dX6_setRule_18 rfl (lv_at hl 3 rfl) ?_
    refine lv_iconst (v := 0) hx hb dX6_setRule_19 (by decide) ?_
    refine lv_iload hx hb dX6_setRule_20 (lv_at hl 0 rfl) ?_
    refine b_ci (b_runS B hT hX hW hS (As := [.int (nI (rIx x))]) (rest := [.int 0, .int v]) (fun sz => mm_greatest hI (rIx x) (by omega) sz) (cwX6_93 B.2.2.2.2.1 ⟨Nat.le_of_ble_eq_true rfl, Nat.le_of_ble_eq_true rfl⟩) rfl hl.1 (Nat.le_of_ble_eq_true rfl) dX6_setRule_22 ⟨Nat.le_of_ble_eq_true rfl, Nat.le_of_ble_eq_true rfl⟩) hS (fun r_22 E1 H locs hp_22 hW hS => ?_)
    obtain ⟨hr_, hE_⟩ := hp_22
    subst hr_
    have hW := hW.eq hE_
    refine b_ci (b_runS B hT hX hW hS (As := [.int v, .int 0, .int (ruGr (rIx x))]) (rest := []) (fun sz => mm_in hI v 0 (ruGr (rIx x)) sz) (cwX6_61 B.2.2.2.2.1 ⟨Nat.le_of_ble_eq_true rfl, Nat.le_of_ble_eq_true rfl⟩) rfl hl.1 (Nat.le_of_ble_eq_true rfl) dX6_setRule_25 ⟨Nat.le_of_ble_eq_true rfl, Nat.le_of_ble_eq_true rfl⟩) hS (fun r_25 E1 H locs hp_25 hW hS => ?_)
    obtain ⟨hr_, hE_⟩ := hp_25
    subst hr_
    have hW := hW.eq hE_
    refine lv_if_eq (tgt := 38) hx hb dX6_setRule_28 (by decide) (fun c_28 => ?_) (fun c_28 => ?_)
    · skip
      refine lv_aload_n hx hb dX6_setRule_38 rfl (lv_at hl 1 rfl) ?_
      refine lv_iconst (v := 2) hx hb dX6_setRule_39 (by decide) ?_
      refine b_ci (b_runV B hT hX hW hS (As := [.int 2]) (rest := []) (fun sz => mm_fails hI th nP nH rN nf pn sp sk ag V T pd py du mA mC mH mG mS mI mT mP 2 hti htz sz) (cwX6_68 B.2.2.2.2.1 ⟨Nat.le_of_ble_eq_true rfl, Nat.le_of_ble_eq_true rfl⟩) (b_recv B hW (by decide) mE_0 rfl) rfl hl.1 (Nat.le_of_ble_eq_true rfl) dX6_setRule_40 ⟨Nat.le_of_ble_eq_true rfl, Nat.le_of_ble_eq_true rfl⟩) hS (fun r_40 E1 H locs hp_40 hW hS => ?_)
      obtain ⟨hr_, hE_⟩ := hp_40
      subst hr_
      have hW := hW.eq hE_
      exact e_i hQ B hr hlk hS hW dX6_setRule_43 (Nat.le_of_ble_eq_true rfl) (Nat.le_of_ble_eq_true rfl) (by have hk : kRule x v dy = 2 := (by unfold kRule; rw [cif_t hri, cif_f (fun q => kIn_f c_28 ⟨q.1.1, Int32.not_lt.mpr q.1.2⟩)]); exact Or.inr ⟨by rw [hk]; decide, by rw [hk]; exact MW.mk⟩)
    · skip
      refine lv_iload_n hx hb dX6_setRule_31 rfl (lv_at hl 4 rfl) ?_
      refine b_ci (b_runS B hT hX hW hS (As := [.int dy]) (rest := []) (fun sz => mm_isDay hI dy sz) (cwX6_82 B.2.2.2.2.1 ⟨Nat.le_of_ble_eq_true rfl, Nat.le_of_ble_eq_true rfl⟩) rfl hl.1 (Nat.le_of_ble_eq_true rfl) dX6_setRule_32 ⟨Nat.le_of_ble_eq_true rfl, Nat.le_of_ble_eq_true rfl⟩) hS (fun r_32 E1 H locs hp_32 hW hS => ?_)
      obtain ⟨hr_, hE_⟩ := hp_32
      subst hr_
      have hW := hW.eq hE_
      refine lv_if_ne (tgt := 44) hx hb dX6_setRule_35 (by decide) (fun c_35 => ?_) (fun c_35 => ?_)
      · skip
        obtain ⟨d, hd, rfl⟩ := vp_in_of (c10_t c_35) (by omega)
        have ed : ix (nI d) = d := nI_clamp (by omega)
        refine lv_aload_n hx hb dX6_setRule_44 rfl (lv_at hl 1 rfl) ?_
        refine lv_iconst (v := 0) hx hb dX6_setRule_45 (by decide) ?_
        refine pfX6_55 B hT hI hA hW hS (by decide) mE_0 (Nat.le_of_ble_eq_true rfl) rfl (by first | rfl | decide) dX6_setRule_46 (fun H locs hW hS => ?_)
        have hW := hW.eq (E' := mE cI cZ ad 0 nP nH rN nf pn sp sk ag (RV V) (RV T) (FL pd) (FL py) du mA mC mH mG mS mI mT mP) (mE_u0 _ _ _ _ _ _ _ _ _ _ _ _ _ _ _ _)
        refine lv_aload_n hx hb dX6_setRule_49 rfl (lv_at hl 1 rfl) ?_
        refine lv_aload_n hx hb dX6_setRule_50 rfl (lv_at hl 1 rfl) ?_
        refine gfX6_26 B hT hW (by decide) mE_0 rfl dX6_setRule_51 ?_
        refine lv_aload_n hx hb dX6_setRule_54 rfl (lv_at hl 1 rfl) ?_
        refine gfX6_39 B hT hW (by decide) mE_0 rfl dX6_setRule_55 ?_
        refine lv_sipush (v := (nI 360)) hx hb dX6_setRule_58 (by decide) ?_
        refine lv_iload hx hb dX6_setRule_61 (lv_at hl 0 rfl) ?_
        refine lv_imul hx hb dX6_setRule_63 ?_
        refine b_top (y := nI (360 * (rIx x))) (pk_mul _ _) ?_
        refine lv_iload_n hx hb dX6_setRule_64 rfl (lv_at hl 4 rfl) ?_
        refine lv_iload_n hx hb dX6_setRule_65 rfl (lv_at hl 3 rfl) ?_
        refine b_ci (b_runV B hT hX hW hS (As := [.ref (ad 5), .ref (ad 9), .int (nI (360 * (rIx x))), .int (nI d), .int v]) (rest := []) (fun sz => mm_tells hI 0 nP nH rN nf pn sp sk ag V T pd py du mA mC mH mG mS mI mT mP 3 (rIx x) d (20 + (rIx x)) v hti htz (by omega) (show 360 * (rIx x) + 360 ≤ 2520 by omega) (by omega) rfl sz) (cwX6_85 B.2.2.2.2.1 ⟨Nat.le_of_ble_eq_true rfl, Nat.le_of_ble_eq_true rfl⟩) (b_recv B hW (by decide) mE_0 rfl) rfl hl.1 (Nat.le_of_ble_eq_true rfl) dX6_setRule_66 ⟨Nat.le_of_ble_eq_true rfl, Nat.le_of_ble_eq_true rfl⟩) hS (fun r_66 E1 H locs hp_66 hW hS => ?_)
        obtain ⟨hr_, hE_⟩ := hp_66
        subst hr_
        have hW := hW.eq hE_
        exact e_i hQ B hr hlk hS hW dX6_setRule_69 (Nat.le_of_ble_eq_true rfl) (Nat.le_of_ble_eq_true rfl) (by have hk : kRule x v (nI d) = 0 := (by unfold kRule; rw [cif_t hri, cif_t ⟨⟨(kIn_t c_28).1, Int32.not_lt.mp (kIn_t c_28).2⟩, vp_in_nI hd (by omega)⟩]); rw [ed]; exact Or.inl ⟨hk, rfl, MW.mk⟩)
      · skip
        refine lv_aload_n hx hb dX6_setRule_38 rfl (lv_at hl 1 rfl) ?_
        refine lv_iconst (v := 2) hx hb dX6_setRule_39 (by decide) ?_
        refine b_ci (b_runV B hT hX hW hS (As := [.int 2]) (rest := []) (fun sz => mm_fails hI th nP nH rN nf pn sp sk ag V T pd py du mA mC mH mG mS mI mT mP 2 hti htz sz) (cwX6_68 B.2.2.2.2.1 ⟨Nat.le_of_ble_eq_true rfl, Nat.le_of_ble_eq_true rfl⟩) (b_recv B hW (by decide) mE_0 rfl) rfl hl.1 (Nat.le_of_ble_eq_true rfl) dX6_setRule_40 ⟨Nat.le_of_ble_eq_true rfl, Nat.le_of_ble_eq_true rfl⟩) hS (fun r_40 E1 H locs hp_40 hW hS => ?_)
        obtain ⟨hr_, hE_⟩ := hp_40
        subst hr_
        have hW := hW.eq hE_
        exact e_i hQ B hr hlk hS hW dX6_setRule_43 (Nat.le_of_ble_eq_true rfl) (Nat.le_of_ble_eq_true rfl) (by have hk : kRule x v dy = 2 := (by unfold kRule; rw [cif_t hri, cif_f (fun q => c10_f c_35 q.2)]); exact Or.inr ⟨by rw [hk]; decide, by rw [hk]; exact MW.mk⟩)
  · skip
    refine lv_aload_n hx hb dX6_setRule_12 rfl (lv_at hl 1 rfl) ?_
    refine lv_iconst (v := 1) hx hb dX6_setRule_13 (by decide) ?_
    refine b_ci (b_runV B hT hX hW hS (As := [.int 1]) (rest := []) (fun sz => mm_fails hI th nP nH rN nf pn sp sk ag V T pd py du mA mC mH mG mS mI mT mP 1 hti htz sz) (cwX6_68 B.2.2.2.2.1 ⟨Nat.le_of_ble_eq_true rfl, Nat.le_of_ble_eq_true rfl⟩) (b_recv B hW (by decide) mE_0 rfl) rfl hl.1 (Nat.le_of_ble_eq_true rfl) dX6_setRule_14 ⟨Nat.le_of_ble_eq_true rfl, Nat.le_of_ble_eq_true rfl⟩) hS (fun r_14 E1 H locs hp_14 hW hS => ?_)
    obtain ⟨hr_, hE_⟩ := hp_14
    subst hr_
    have hW := hW.eq hE_
    exact e_i hQ B hr hlk hS hW dX6_setRule_17 (Nat.le_of_ble_eq_true rfl) (Nat.le_of_ble_eq_true rfl) (by have hk : kRule x v dy = 1 := (by unfold kRule; rw [cif_f (kPl_no c_9)]); exact Or.inr ⟨by rw [hk]; decide, by rw [hk]; exact MW.mk⟩)
set_option maxHeartbeats 4000000 in
set_option maxRecDepth 100000 in
theorem mm_takeBackMove {l : Launch} {D : va_G} {tys : List (ClassId × FieldType)} {ad : Nat → Nat} (hI : aI ad 13) {cI cZ : ClassId} (th : Int32) (nP nH rN : Nat) (nf pn : Int32) (sp sk : Int64) (ag : Nat → Int32) (V T : Nat → Nat → Int32) (pd py : Nat → Nat → Int32) (du : Nat → Int32) (mA mC mH mG mS mI mT mP : Int32) (x dy : Int32) (so : Nat → Int32) (hti : tys[0]? = some (cI, .int)) (htz : tys[1]? = some (cZ, .boolean)) (hInv : Inv V T ag nP nH rN so pd)  (sz : Nat) : Met l yX6_takeBackMove (Cond.code yX6_takeBackMove cX6_takeBackMove 3 (some .int) :: wsL_law) (rmk 6 0 0) (va_Pc [.ref (ad 0), .int x, .int dy] (PC D tys ad 13 (mE cI cZ ad th nP nH rN nf pn sp sk ag (RV V) (RV T) (FL pd) (FL py) du mA mC mH mG mS mI mT mP) sz)) (Qi D ad 13 (fun r E1 => (kTake T 0 nP x dy = 0 ∧ r = V (0 + ix x) (ix dy) ∧ MW cI cZ ad 0 (upd2 V (0 + ix x) (takeV (V (0 + ix x)) (T (0 + ix x)) (ix dy) (w0 (0 + ix x)))) (upd2 T (0 + ix x) (upd (T (0 + ix x)) (ix dy) 0)) ag nP nH rN (nf - 1) pn sp sk py pd E1) ∨ (¬ kTake T 0 nP x dy = 0 ∧ MW cI cZ ad (kTake T 0 nP x dy) V T ag nP nH rN nf pn sp sk py pd E1)) (cA ad 13 sz)) 0 0 (cA ad 13 sz) := by
  refine cm_of (own := RX6) (Qc := Qi D ad 13 (fun r E1 => (kTake T 0 nP x dy = 0 ∧ r = V (0 + ix x) (ix dy) ∧ MW cI cZ ad 0 (upd2 V (0 + ix x) (takeV (V (0 + ix x)) (T (0 + ix x)) (ix dy) (w0 (0 + ix x)))) (upd2 T (0 + ix x) (upd (T (0 + ix x)) (ix dy) 0)) ag nP nH rN (nf - 1) pn sp sk py pd E1) ∨ (¬ kTake T 0 nP x dy = 0 ∧ MW cI cZ ad (kTake T 0 nP x dy) V T ag nP nH rN nf pn sp sk py pd E1))) rfl (by decide +kernel) (Nat.le_of_ble_eq_true rfl) ?_ sz
  intro p e s m args below meth c ls Q B hT hX hW hr hlk hnm hl hS hA hQ
  have hx := B.1
  have hb := B.2.1
  have hl : lv_has ls 3 [(0, .ref (ad 0)), (1, .int x), (2, .int dy)] := hl
  obtain ⟨⟨hP8, hH4, hR12⟩, hTb, -, hso, -, -, hpd⟩ := id hInv
  refine lv_aload_n hx hb dX6_takeBackMove_0 rfl (lv_at hl 0 rfl) ?_
  refine lv_iload_n hx hb dX6_takeBackMove_1 rfl (lv_at hl 1 rfl) ?_
  refine b_ci (b_runV B hT hX hW hS (As := [.int x]) (rest := []) (fun sz => mm_isPerson hI th nP nH rN nf pn sp sk ag V T pd py du mA mC mH mG mS mI mT mP x hti htz (by omega) sz) (cwX6_75 B.2.2.2.2.1 ⟨Nat.le_of_ble_eq_true rfl, Nat.le_of_ble_eq_true rfl⟩) (b_recv B hW (by decide) mE_0 rfl) rfl hl.1 (Nat.le_of_ble_eq_true rfl) dX6_takeBackMove_2 ⟨Nat.le_of_ble_eq_true rfl, Nat.le_of_ble_eq_true rfl⟩) hS (fun r_2 E1 H locs hp_2 hW hS => ?_)
  obtain ⟨hr_, hE_⟩ := hp_2
  subst hr_
  have hW := hW.eq hE_
  refine lv_if_ne (tgt := 14) hx hb dX6_takeBackMove_5 (by decide) (fun c_5 => ?_) (fun c_5 => ?_)
  · skip
    refine lv_iload_n hx hb dX6_takeBackMove_14 rfl (lv_at hl 2 rfl) ?_
    refine b_ci (b_runS B hT hX hW hS (As := [.int dy]) (rest := []) (fun sz => mm_isDay hI dy sz) (cwX6_82 B.2.2.2.2.1 ⟨Nat.le_of_ble_eq_true rfl, Nat.le_of_ble_eq_true rfl⟩) rfl hl.1 (Nat.le_of_ble_eq_true rfl) dX6_takeBackMove_15 ⟨Nat.le_of_ble_eq_true rfl, Nat.le_of_ble_eq_true rfl⟩) hS (fun r_15 E1 H locs hp_15 hW hS => ?_)
    obtain ⟨hr_, hE_⟩ := hp_15
    subst hr_
    have hW := hW.eq hE_
    refine lv_if_eq (tgt := 36) hx hb dX6_takeBackMove_18 (by decide) (fun c_18 => ?_) (fun c_18 => ?_)
    · skip
      refine lv_aload_n hx hb dX6_takeBackMove_36 rfl (lv_at hl 0 rfl) ?_
      refine lv_iconst (v := 2) hx hb dX6_takeBackMove_37 (by decide) ?_
      refine b_ci (b_runV B hT hX hW hS (As := [.int 2]) (rest := []) (fun sz => mm_fails hI th nP nH rN nf pn sp sk ag V T pd py du mA mC mH mG mS mI mT mP 2 hti htz sz) (cwX6_68 B.2.2.2.2.1 ⟨Nat.le_of_ble_eq_true rfl, Nat.le_of_ble_eq_true rfl⟩) (b_recv B hW (by decide) mE_0 rfl) rfl hl.1 (Nat.le_of_ble_eq_true rfl) dX6_takeBackMove_38 ⟨Nat.le_of_ble_eq_true rfl, Nat.le_of_ble_eq_true rfl⟩) hS (fun r_38 E1 H locs hp_38 hW hS => ?_)
      obtain ⟨hr_, hE_⟩ := hp_38
      subst hr_
      have hW := hW.eq hE_
      exact e_i hQ B hr hlk hS hW dX6_takeBackMove_41 (Nat.le_of_ble_eq_true rfl) (Nat.le_of_ble_eq_true rfl) (by have hk : kTake T 0 nP x dy = 2 := (by unfold kTake; rw [cif_t (c10_t c_5), cif_f (fun q => c10_f c_18 q.1)]); exact Or.inr ⟨by rw [hk]; decide, by rw [hk]; exact MW.mk⟩)
    · skip
      obtain ⟨i, hi, rfl⟩ := vp_in_of (c10_t c_5) (by omega)
      obtain ⟨d, hd, rfl⟩ := vp_in_of (c10_t c_18) (by omega)
      have ei : ix (nI i) = i := nI_clamp (by omega)
      have ed : ix (nI d) = d := nI_clamp (by omega)
      refine lv_aload_n hx hb dX6_takeBackMove_21 rfl (lv_at hl 0 rfl) ?_
      refine gfX6_29 B hT hW (by decide) mE_0 rfl dX6_takeBackMove_22 ?_
      refine lv_sipush (v := (nI 360)) hx hb dX6_takeBackMove_25 (by decide) ?_
      refine lv_iload_n hx hb dX6_takeBackMove_28 rfl (lv_at hl 1 rfl) ?_
      refine lv_imul hx hb dX6_takeBackMove_29 ?_
      refine b_top (y := nI (360 * i)) (pk_mul _ _) ?_
      refine lv_iload_n hx hb dX6_takeBackMove_30 rfl (lv_at hl 2 rfl) ?_
      refine lv_iadd hx hb dX6_takeBackMove_31 ?_
      refine b_top (y := nI (360 * i + d)) (nI_add _ _) ?_
      refine b_zald B hW htz (j := (360 * i + d)) (by decide) mE_6 (vp_in_nI (by omega) (Nat.le_of_ble_eq_true rfl)) (nI_clamp (by omega)) dX6_takeBackMove_32 ?_
      refine b_top (y := T i d) (RV_at (j := 0) (i := i) (d := d) (by omega) (show 360 * i + 360 ≤ 2880 by omega) (by omega) (Nat.zero_add _)) ?_
      refine lv_if_ne (tgt := 42) hx hb dX6_takeBackMove_33 (by decide) (fun c_33 => ?_) (fun c_33 => ?_)
      · skip
        refine lv_aload_n hx hb dX6_takeBackMove_42 rfl (lv_at hl 0 rfl) ?_
        refine lv_iconst (v := 0) hx hb dX6_takeBackMove_43 (by decide) ?_
        refine pfX6_55 B hT hI hA hW hS (by decide) mE_0 (Nat.le_of_ble_eq_true rfl) rfl (by first | rfl | decide) dX6_takeBackMove_44 (fun H locs hW hS => ?_)
        have hW := hW.eq (E' := mE cI cZ ad 0 nP nH rN nf pn sp sk ag (RV V) (RV T) (FL pd) (FL py) du mA mC mH mG mS mI mT mP) (mE_u0 _ _ _ _ _ _ _ _ _ _ _ _ _ _ _ _)
        refine lv_aload_n hx hb dX6_takeBackMove_47 rfl (lv_at hl 0 rfl) ?_
        refine lv_aload_n hx hb dX6_takeBackMove_48 rfl (lv_at hl 0 rfl) ?_
        refine gfX6_17 B hT hW (by decide) mE_0 rfl dX6_takeBackMove_49 ?_
        refine lv_aload_n hx hb dX6_takeBackMove_52 rfl (lv_at hl 0 rfl) ?_
        refine gfX6_29 B hT hW (by decide) mE_0 rfl dX6_takeBackMove_53 ?_
        refine lv_sipush (v := (nI 360)) hx hb dX6_takeBackMove_56 (by decide) ?_
        refine lv_iload_n hx hb dX6_takeBackMove_59 rfl (lv_at hl 1 rfl) ?_
        refine lv_imul hx hb dX6_takeBackMove_60 ?_
        refine b_top (y := nI (360 * i)) (pk_mul _ _) ?_
        refine lv_iload_n hx hb dX6_takeBackMove_61 rfl (lv_at hl 2 rfl) ?_
        refine lv_iconst (v := (w0 i)) hx hb dX6_takeBackMove_62 (by unfold w0; rw [if_pos (by omega)]; decide) ?_
        refine b_ci (b_runV B hT hX hW hS (As := [.ref (ad 2), .ref (ad 6), .int (nI (360 * i)), .int (nI d), .int (w0 i)]) (rest := []) (fun sz => mm_takes hI 0 nP nH rN nf pn sp sk ag V T pd py du mA mC mH mG mS mI mT mP 0 i d i (w0 i) hti htz (by omega) (show 360 * i + 360 ≤ 2880 by omega) (by omega) (Nat.zero_add _) sz) (cwX6_96 B.2.2.2.2.1 ⟨Nat.le_of_ble_eq_true rfl, Nat.le_of_ble_eq_true rfl⟩) (b_recv B hW (by decide) mE_0 rfl) rfl hl.1 (Nat.le_of_ble_eq_true rfl) dX6_takeBackMove_63 ⟨Nat.le_of_ble_eq_true rfl, Nat.le_of_ble_eq_true rfl⟩) hS (fun r_63 E1 H locs hp_63 hW hS => ?_)
        obtain ⟨hr_, hE_⟩ := hp_63
        subst hr_
        have hW := hW.eq hE_
        exact e_i hQ B hr hlk hS hW dX6_takeBackMove_66 (Nat.le_of_ble_eq_true rfl) (Nat.le_of_ble_eq_true rfl) (by have hk : kTake T 0 nP (nI i) (nI d) = 0 := (by unfold kTake; rw [cif_t (vp_in_nI hi (by omega)), cif_t ⟨vp_in_nI hd (by omega), by rw [ei, ed, Nat.zero_add]; exact c_33⟩]); rw [ei, ed, Nat.zero_add]; exact Or.inl ⟨hk, rfl, by exact MW.mk⟩)
      · skip
        refine lv_aload_n hx hb dX6_takeBackMove_36 rfl (lv_at hl 0 rfl) ?_
        refine lv_iconst (v := 2) hx hb dX6_takeBackMove_37 (by decide) ?_
        refine b_ci (b_runV B hT hX hW hS (As := [.int 2]) (rest := []) (fun sz => mm_fails hI th nP nH rN nf pn sp sk ag V T pd py du mA mC mH mG mS mI mT mP 2 hti htz sz) (cwX6_68 B.2.2.2.2.1 ⟨Nat.le_of_ble_eq_true rfl, Nat.le_of_ble_eq_true rfl⟩) (b_recv B hW (by decide) mE_0 rfl) rfl hl.1 (Nat.le_of_ble_eq_true rfl) dX6_takeBackMove_38 ⟨Nat.le_of_ble_eq_true rfl, Nat.le_of_ble_eq_true rfl⟩) hS (fun r_38 E1 H locs hp_38 hW hS => ?_)
        obtain ⟨hr_, hE_⟩ := hp_38
        subst hr_
        have hW := hW.eq hE_
        exact e_i hQ B hr hlk hS hW dX6_takeBackMove_41 (Nat.le_of_ble_eq_true rfl) (Nat.le_of_ble_eq_true rfl) (by have hk : kTake T 0 nP (nI i) (nI d) = 2 := (by unfold kTake; rw [cif_t (vp_in_nI hi (by omega)), cif_f (fun q => q.2 (by rw [ei, ed, Nat.zero_add]; exact c_33))]); exact Or.inr ⟨by rw [hk]; decide, by rw [hk]; exact MW.mk⟩)
  · skip
    refine lv_aload_n hx hb dX6_takeBackMove_8 rfl (lv_at hl 0 rfl) ?_
    refine lv_iconst (v := 1) hx hb dX6_takeBackMove_9 (by decide) ?_
    refine b_ci (b_runV B hT hX hW hS (As := [.int 1]) (rest := []) (fun sz => mm_fails hI th nP nH rN nf pn sp sk ag V T pd py du mA mC mH mG mS mI mT mP 1 hti htz sz) (cwX6_68 B.2.2.2.2.1 ⟨Nat.le_of_ble_eq_true rfl, Nat.le_of_ble_eq_true rfl⟩) (b_recv B hW (by decide) mE_0 rfl) rfl hl.1 (Nat.le_of_ble_eq_true rfl) dX6_takeBackMove_10 ⟨Nat.le_of_ble_eq_true rfl, Nat.le_of_ble_eq_true rfl⟩) hS (fun r_10 E1 H locs hp_10 hW hS => ?_)
    obtain ⟨hr_, hE_⟩ := hp_10
    subst hr_
    have hW := hW.eq hE_
    exact e_i hQ B hr hlk hS hW dX6_takeBackMove_13 (Nat.le_of_ble_eq_true rfl) (Nat.le_of_ble_eq_true rfl) (by have hk : kTake T 0 nP x dy = 1 := (by unfold kTake; rw [cif_f (c10_f c_5)]); exact Or.inr ⟨by rw [hk]; decide, by rw [hk]; exact MW.mk⟩)
set_option maxHeartbeats 4000000 in
set_option maxRecDepth 100000 in
theorem mm_takeBackIncome {l : Launch} {D : va_G} {tys : List (ClassId × FieldType)} {ad : Nat → Nat} (hI : aI ad 13) {cI cZ : ClassId} (th : Int32) (nP nH rN : Nat) (nf pn : Int32) (sp sk : Int64) (ag : Nat → Int32) (V T : Nat → Nat → Int32) (pd py : Nat → Nat → Int32) (du : Nat → Int32) (mA mC mH mG mS mI mT mP : Int32) (x dy : Int32) (so : Nat → Int32) (hti : tys[0]? = some (cI, .int)) (htz : tys[1]? = some (cZ, .boolean)) (hInv : Inv V T ag nP nH rN so pd)  (sz : Nat) : Met l yX6_takeBackIncome (Cond.code yX6_takeBackIncome cX6_takeBackIncome 3 (some .int) :: wsL_law) (rmk 6 0 0) (va_Pc [.ref (ad 0), .int x, .int dy] (PC D tys ad 13 (mE cI cZ ad th nP nH rN nf pn sp sk ag (RV V) (RV T) (FL pd) (FL py) du mA mC mH mG mS mI mT mP) sz)) (Qi D ad 13 (fun r E1 => (kTake T 8 nP x dy = 0 ∧ r = V (8 + ix x) (ix dy) ∧ MW cI cZ ad 0 (upd2 V (8 + ix x) (takeV (V (8 + ix x)) (T (8 + ix x)) (ix dy) (w0 (8 + ix x)))) (upd2 T (8 + ix x) (upd (T (8 + ix x)) (ix dy) 0)) ag nP nH rN (nf - 1) pn sp sk py pd E1) ∨ (¬ kTake T 8 nP x dy = 0 ∧ MW cI cZ ad (kTake T 8 nP x dy) V T ag nP nH rN nf pn sp sk py pd E1)) (cA ad 13 sz)) 0 0 (cA ad 13 sz) := by
  refine cm_of (own := RX6) (Qc := Qi D ad 13 (fun r E1 => (kTake T 8 nP x dy = 0 ∧ r = V (8 + ix x) (ix dy) ∧ MW cI cZ ad 0 (upd2 V (8 + ix x) (takeV (V (8 + ix x)) (T (8 + ix x)) (ix dy) (w0 (8 + ix x)))) (upd2 T (8 + ix x) (upd (T (8 + ix x)) (ix dy) 0)) ag nP nH rN (nf - 1) pn sp sk py pd E1) ∨ (¬ kTake T 8 nP x dy = 0 ∧ MW cI cZ ad (kTake T 8 nP x dy) V T ag nP nH rN nf pn sp sk py pd E1))) rfl (by decide +kernel) (Nat.le_of_ble_eq_true rfl) ?_ sz
  intro p e s m args below meth c ls Q B hT hX hW hr hlk hnm hl hS hA hQ
  have hx := B.1
  have hb := B.2.1
  have hl : lv_has ls 3 [(0, .ref (ad 0)), (1, .int x), (2, .int dy)] := hl
  obtain ⟨⟨hP8, hH4, hR12⟩, hTb, -, hso, -, -, hpd⟩ := id hInv
  refine lv_aload_n hx hb dX6_takeBackIncome_0 rfl (lv_at hl 0 rfl) ?_
  refine lv_iload_n hx hb dX6_takeBackIncome_1 rfl (lv_at hl 1 rfl) ?_
  refine b_ci (b_runV B hT hX hW hS (As := [.int x]) (rest := []) (fun sz => mm_isPerson hI th nP nH rN nf pn sp sk ag V T pd py du mA mC mH mG mS mI mT mP x hti htz (by omega) sz) (cwX6_75 B.2.2.2.2.1 ⟨Nat.le_of_ble_eq_true rfl, Nat.le_of_ble_eq_true rfl⟩) (b_recv B hW (by decide) mE_0 rfl) rfl hl.1 (Nat.le_of_ble_eq_true rfl) dX6_takeBackIncome_2 ⟨Nat.le_of_ble_eq_true rfl, Nat.le_of_ble_eq_true rfl⟩) hS (fun r_2 E1 H locs hp_2 hW hS => ?_)
  obtain ⟨hr_, hE_⟩ := hp_2
  subst hr_
  have hW := hW.eq hE_
  refine lv_if_ne (tgt := 14) hx hb dX6_takeBackIncome_5 (by decide) (fun c_5 => ?_) (fun c_5 => ?_)
  · skip
    refine lv_iload_n hx hb dX6_takeBackIncome_14 rfl (lv_at hl 2 rfl) ?_
    refine b_ci (b_runS B hT hX hW hS (As := [.int dy]) (rest := []) (fun sz => mm_isDay hI dy sz) (cwX6_82 B.2.2.2.2.1 ⟨Nat.le_of_ble_eq_true rfl, Nat.le_of_ble_eq_true rfl⟩) rfl hl.1 (Nat.le_of_ble_eq_true rfl) dX6_takeBackIncome_15 ⟨Nat.le_of_ble_eq_true rfl, Nat.le_of_ble_eq_true rfl⟩) hS (fun r_15 E1 H locs hp_15 hW hS => ?_)
    obtain ⟨hr_, hE_⟩ := hp_15
    subst hr_
    have hW := hW.eq hE_
    refine lv_if_eq (tgt := 36) hx hb dX6_takeBackIncome_18 (by decide) (fun c_18 => ?_) (fun c_18 => ?_)
    · skip
      refine lv_aload_n hx hb dX6_takeBackIncome_36 rfl (lv_at hl 0 rfl) ?_
      refine lv_iconst (v := 2) hx hb dX6_takeBackIncome_37 (by decide) ?_
      refine b_ci (b_runV B hT hX hW hS (As := [.int 2]) (rest := []) (fun sz => mm_fails hI th nP nH rN nf pn sp sk ag V T pd py du mA mC mH mG mS mI mT mP 2 hti htz sz) (cwX6_68 B.2.2.2.2.1 ⟨Nat.le_of_ble_eq_true rfl, Nat.le_of_ble_eq_true rfl⟩) (b_recv B hW (by decide) mE_0 rfl) rfl hl.1 (Nat.le_of_ble_eq_true rfl) dX6_takeBackIncome_38 ⟨Nat.le_of_ble_eq_true rfl, Nat.le_of_ble_eq_true rfl⟩) hS (fun r_38 E1 H locs hp_38 hW hS => ?_)
      obtain ⟨hr_, hE_⟩ := hp_38
      subst hr_
      have hW := hW.eq hE_
      exact e_i hQ B hr hlk hS hW dX6_takeBackIncome_41 (Nat.le_of_ble_eq_true rfl) (Nat.le_of_ble_eq_true rfl) (by have hk : kTake T 8 nP x dy = 2 := (by unfold kTake; rw [cif_t (c10_t c_5), cif_f (fun q => c10_f c_18 q.1)]); exact Or.inr ⟨by rw [hk]; decide, by rw [hk]; exact MW.mk⟩)
    · skip
      obtain ⟨i, hi, rfl⟩ := vp_in_of (c10_t c_5) (by omega)
      obtain ⟨d, hd, rfl⟩ := vp_in_of (c10_t c_18) (by omega)
      have ei : ix (nI i) = i := nI_clamp (by omega)
      have ed : ix (nI d) = d := nI_clamp (by omega)
      refine lv_aload_n hx hb dX6_takeBackIncome_21 rfl (lv_at hl 0 rfl) ?_
      refine gfX6_33 B hT hW (by decide) mE_0 rfl dX6_takeBackIncome_22 ?_
      refine lv_sipush (v := (nI 360)) hx hb dX6_takeBackIncome_25 (by decide) ?_
      refine lv_iload_n hx hb dX6_takeBackIncome_28 rfl (lv_at hl 1 rfl) ?_
      refine lv_imul hx hb dX6_takeBackIncome_29 ?_
      refine b_top (y := nI (360 * i)) (pk_mul _ _) ?_
      refine lv_iload_n hx hb dX6_takeBackIncome_30 rfl (lv_at hl 2 rfl) ?_
      refine lv_iadd hx hb dX6_takeBackIncome_31 ?_
      refine b_top (y := nI (360 * i + d)) (nI_add _ _) ?_
      refine b_zald B hW htz (j := (360 * i + d)) (by decide) mE_7 (vp_in_nI (by omega) (Nat.le_of_ble_eq_true rfl)) (nI_clamp (by omega)) dX6_takeBackIncome_32 ?_
      refine b_top (y := T (8 + i) d) (RV_at (j := 1) (i := i) (d := d) (by omega) (show 360 * i + 360 ≤ 2880 by omega) (by omega) rfl) ?_
      refine lv_if_ne (tgt := 42) hx hb dX6_takeBackIncome_33 (by decide) (fun c_33 => ?_) (fun c_33 => ?_)
      · skip
        refine lv_aload_n hx hb dX6_takeBackIncome_42 rfl (lv_at hl 0 rfl) ?_
        refine lv_iconst (v := 0) hx hb dX6_takeBackIncome_43 (by decide) ?_
        refine pfX6_55 B hT hI hA hW hS (by decide) mE_0 (Nat.le_of_ble_eq_true rfl) rfl (by first | rfl | decide) dX6_takeBackIncome_44 (fun H locs hW hS => ?_)
        have hW := hW.eq (E' := mE cI cZ ad 0 nP nH rN nf pn sp sk ag (RV V) (RV T) (FL pd) (FL py) du mA mC mH mG mS mI mT mP) (mE_u0 _ _ _ _ _ _ _ _ _ _ _ _ _ _ _ _)
        refine lv_aload_n hx hb dX6_takeBackIncome_47 rfl (lv_at hl 0 rfl) ?_
        refine lv_aload_n hx hb dX6_takeBackIncome_48 rfl (lv_at hl 0 rfl) ?_
        refine gfX6_20 B hT hW (by decide) mE_0 rfl dX6_takeBackIncome_49 ?_
        refine lv_aload_n hx hb dX6_takeBackIncome_52 rfl (lv_at hl 0 rfl) ?_
        refine gfX6_33 B hT hW (by decide) mE_0 rfl dX6_takeBackIncome_53 ?_
        refine lv_sipush (v := (nI 360)) hx hb dX6_takeBackIncome_56 (by decide) ?_
        refine lv_iload_n hx hb dX6_takeBackIncome_59 rfl (lv_at hl 1 rfl) ?_
        refine lv_imul hx hb dX6_takeBackIncome_60 ?_
        refine b_top (y := nI (360 * i)) (pk_mul _ _) ?_
        refine lv_iload_n hx hb dX6_takeBackIncome_61 rfl (lv_at hl 2 rfl) ?_
        refine lv_iconst (v := (w0 (8 + i))) hx hb dX6_takeBackIncome_62 (by unfold w0; rw [if_neg (by omega)]; decide) ?_
        refine b_ci (b_runV B hT hX hW hS (As := [.ref (ad 3), .ref (ad 7), .int (nI (360 * i)), .int (nI d), .int (w0 (8 + i))]) (rest := []) (fun sz => mm_takes hI 0 nP nH rN nf pn sp sk ag V T pd py du mA mC mH mG mS mI mT mP 1 i d (8 + i) (w0 (8 + i)) hti htz (by omega) (show 360 * i + 360 ≤ 2880 by omega) (by omega) rfl sz) (cwX6_96 B.2.2.2.2.1 ⟨Nat.le_of_ble_eq_true rfl, Nat.le_of_ble_eq_true rfl⟩) (b_recv B hW (by decide) mE_0 rfl) rfl hl.1 (Nat.le_of_ble_eq_true rfl) dX6_takeBackIncome_63 ⟨Nat.le_of_ble_eq_true rfl, Nat.le_of_ble_eq_true rfl⟩) hS (fun r_63 E1 H locs hp_63 hW hS => ?_)
        obtain ⟨hr_, hE_⟩ := hp_63
        subst hr_
        have hW := hW.eq hE_
        exact e_i hQ B hr hlk hS hW dX6_takeBackIncome_66 (Nat.le_of_ble_eq_true rfl) (Nat.le_of_ble_eq_true rfl) (by have hk : kTake T 8 nP (nI i) (nI d) = 0 := (by unfold kTake; rw [cif_t (vp_in_nI hi (by omega)), cif_t ⟨vp_in_nI hd (by omega), by rw [ei, ed]; exact c_33⟩]); rw [ei, ed]; exact Or.inl ⟨hk, rfl, by exact MW.mk⟩)
      · skip
        refine lv_aload_n hx hb dX6_takeBackIncome_36 rfl (lv_at hl 0 rfl) ?_
        refine lv_iconst (v := 2) hx hb dX6_takeBackIncome_37 (by decide) ?_
        refine b_ci (b_runV B hT hX hW hS (As := [.int 2]) (rest := []) (fun sz => mm_fails hI th nP nH rN nf pn sp sk ag V T pd py du mA mC mH mG mS mI mT mP 2 hti htz sz) (cwX6_68 B.2.2.2.2.1 ⟨Nat.le_of_ble_eq_true rfl, Nat.le_of_ble_eq_true rfl⟩) (b_recv B hW (by decide) mE_0 rfl) rfl hl.1 (Nat.le_of_ble_eq_true rfl) dX6_takeBackIncome_38 ⟨Nat.le_of_ble_eq_true rfl, Nat.le_of_ble_eq_true rfl⟩) hS (fun r_38 E1 H locs hp_38 hW hS => ?_)
        obtain ⟨hr_, hE_⟩ := hp_38
        subst hr_
        have hW := hW.eq hE_
        exact e_i hQ B hr hlk hS hW dX6_takeBackIncome_41 (Nat.le_of_ble_eq_true rfl) (Nat.le_of_ble_eq_true rfl) (by have hk : kTake T 8 nP (nI i) (nI d) = 2 := (by unfold kTake; rw [cif_t (vp_in_nI hi (by omega)), cif_f (fun q => q.2 (by rw [ei, ed]; exact c_33))]); exact Or.inr ⟨by rw [hk]; decide, by rw [hk]; exact MW.mk⟩)
  · skip
    refine lv_aload_n hx hb dX6_takeBackIncome_8 rfl (lv_at hl 0 rfl) ?_
    refine lv_iconst (v := 1) hx hb dX6_takeBackIncome_9 (by decide) ?_
    refine b_ci (b_runV B hT hX hW hS (As := [.int 1]) (rest := []) (fun sz => mm_fails hI th nP nH rN nf pn sp sk ag V T pd py du mA mC mH mG mS mI mT mP 1 hti htz sz) (cwX6_68 B.2.2.2.2.1 ⟨Nat.le_of_ble_eq_true rfl, Nat.le_of_ble_eq_true rfl⟩) (b_recv B hW (by decide) mE_0 rfl) rfl hl.1 (Nat.le_of_ble_eq_true rfl) dX6_takeBackIncome_10 ⟨Nat.le_of_ble_eq_true rfl, Nat.le_of_ble_eq_true rfl⟩) hS (fun r_10 E1 H locs hp_10 hW hS => ?_)
    obtain ⟨hr_, hE_⟩ := hp_10
    subst hr_
    have hW := hW.eq hE_
    exact e_i hQ B hr hlk hS hW dX6_takeBackIncome_13 (Nat.le_of_ble_eq_true rfl) (Nat.le_of_ble_eq_true rfl) (by have hk : kTake T 8 nP x dy = 1 := (by unfold kTake; rw [cif_f (c10_f c_5)]); exact Or.inr ⟨by rw [hk]; decide, by rw [hk]; exact MW.mk⟩)
set_option maxHeartbeats 4000000 in
set_option maxRecDepth 100000 in
theorem mm_takeBackRule {l : Launch} {D : va_G} {tys : List (ClassId × FieldType)} {ad : Nat → Nat} (hI : aI ad 13) {cI cZ : ClassId} (th : Int32) (nP nH rN : Nat) (nf pn : Int32) (sp sk : Int64) (ag : Nat → Int32) (V T : Nat → Nat → Int32) (pd py : Nat → Nat → Int32) (du : Nat → Int32) (mA mC mH mG mS mI mT mP : Int32) (x dy : Int32) (so : Nat → Int32) (hti : tys[0]? = some (cI, .int)) (htz : tys[1]? = some (cZ, .boolean)) (hInv : Inv V T ag nP nH rN so pd)  (sz : Nat) : Met l yX6_takeBackRule (Cond.code yX6_takeBackRule cX6_takeBackRule 4 (some .int) :: wsL_law) (rmk 6 0 0) (va_Pc [.ref (ad 0), .int x, .int dy] (PC D tys ad 13 (mE cI cZ ad th nP nH rN nf pn sp sk ag (RV V) (RV T) (FL pd) (FL py) du mA mC mH mG mS mI mT mP) sz)) (Qi D ad 13 (fun r E1 => (kTakeR T x dy = 0 ∧ r = V (20 + rIx x) (ix dy) ∧ MW cI cZ ad 0 (upd2 V (20 + rIx x) (takeV (V (20 + rIx x)) (T (20 + rIx x)) (ix dy) (w0 (20 + rIx x)))) (upd2 T (20 + rIx x) (upd (T (20 + rIx x)) (ix dy) 0)) ag nP nH rN (nf - 1) pn sp sk py pd E1) ∨ (¬ kTakeR T x dy = 0 ∧ MW cI cZ ad (kTakeR T x dy) V T ag nP nH rN nf pn sp sk py pd E1)) (cA ad 13 sz)) 0 0 (cA ad 13 sz) := by
  refine cm_of (own := RX6) (Qc := Qi D ad 13 (fun r E1 => (kTakeR T x dy = 0 ∧ r = V (20 + rIx x) (ix dy) ∧ MW cI cZ ad 0 (upd2 V (20 + rIx x) (takeV (V (20 + rIx x)) (T (20 + rIx x)) (ix dy) (w0 (20 + rIx x)))) (upd2 T (20 + rIx x) (upd (T (20 + rIx x)) (ix dy) 0)) ag nP nH rN (nf - 1) pn sp sk py pd E1) ∨ (¬ kTakeR T x dy = 0 ∧ MW cI cZ ad (kTakeR T x dy) V T ag nP nH rN nf pn sp sk py pd E1))) rfl (by decide +kernel) (Nat.le_of_ble_eq_true rfl) ?_ sz
  intro p e s m args below meth c ls Q B hT hX hW hr hlk hnm hl hS hA hQ
  have hx := B.1
  have hb := B.2.1
  have hl : lv_has ls 4 [(0, .ref (ad 0)), (1, .int x), (2, .int dy)] := hl
  obtain ⟨⟨hP8, hH4, hR12⟩, hTb, -, hso, -, -, hpd⟩ := id hInv
  refine lv_iload_n hx hb dX6_takeBackRule_0 rfl (lv_at hl 1 rfl) ?_
  refine b_ci (b_runS B hT hX hW hS (As := [.int x]) (rest := []) (fun sz => mm_place hI x sz) (cwX6_89 B.2.2.2.2.1 ⟨Nat.le_of_ble_eq_true rfl, Nat.le_of_ble_eq_true rfl⟩) rfl hl.1 (Nat.le_of_ble_eq_true rfl) dX6_takeBackRule_1 ⟨Nat.le_of_ble_eq_true rfl, Nat.le_of_ble_eq_true rfl⟩) hS (fun r_1 E1 H locs hp_1 hW hS => ?_)
  obtain ⟨hr_, hE_⟩ := hp_1
  subst hr_
  have hW := hW.eq hE_
  refine lv_istore_n (lv' := [(3, .int (kPl x)), (0, .ref (ad 0)), (1, .int x), (2, .int dy)]) hx hb dX6_takeBackRule_4 rfl hl (by decide) rfl (fun ls hl => ?_)
  refine lv_iload_n hx hb dX6_takeBackRule_5 rfl (lv_at hl 0 rfl) ?_
  refine lv_iconst (v := (-1)) hx hb dX6_takeBackRule_6 (by decide) ?_
  refine lv_icmp_eq (tgt := 32) hx hb dX6_takeBackRule_7 (by decide) (fun c_7 => ?_) (fun c_7 => ?_)
  · skip
    refine lv_aload_n hx hb dX6_takeBackRule_32 rfl (lv_at hl 1 rfl) ?_
    refine lv_iconst (v := 1) hx hb dX6_takeBackRule_33 (by decide) ?_
    refine b_ci (b_runV B hT hX hW hS (As := [.int 1]) (rest := []) (fun sz => mm_fails hI th nP nH rN nf pn sp sk ag V T pd py du mA mC mH mG mS mI mT mP 1 hti htz sz) (cwX6_68 B.2.2.2.2.1 ⟨Nat.le_of_ble_eq_true rfl, Nat.le_of_ble_eq_true rfl⟩) (b_recv B hW (by decide) mE_0 rfl) rfl hl.1 (Nat.le_of_ble_eq_true rfl) dX6_takeBackRule_34 ⟨Nat.le_of_ble_eq_true rfl, Nat.le_of_ble_eq_true rfl⟩) hS (fun r_34 E1 H locs hp_34 hW hS => ?_)
    obtain ⟨hr_, hE_⟩ := hp_34
    subst hr_
    have hW := hW.eq hE_
    exact e_i hQ B hr hlk hS hW dX6_takeBackRule_37 (Nat.le_of_ble_eq_true rfl) (Nat.le_of_ble_eq_true rfl) (by have hk : kTakeR T x dy = 1 := (by unfold kTakeR; rw [cif_f (fun q => kPl_no c_7 q.1)]); exact Or.inr ⟨by rw [hk]; decide, by rw [hk]; exact MW.mk⟩)
  · skip
    have hri := kPl_yes c_7
    rw [kPl_t hri] at hl
    refine lv_iload_n hx hb dX6_takeBackRule_10 rfl (lv_at hl 3 rfl) ?_
    refine b_ci (b_runS B hT hX hW hS (As := [.int dy]) (rest := []) (fun sz => mm_isDay hI dy sz) (cwX6_82 B.2.2.2.2.1 ⟨Nat.le_of_ble_eq_true rfl, Nat.le_of_ble_eq_true rfl⟩) rfl hl.1 (Nat.le_of_ble_eq_true rfl) dX6_takeBackRule_11 ⟨Nat.le_of_ble_eq_true rfl, Nat.le_of_ble_eq_true rfl⟩) hS (fun r_11 E1 H locs hp_11 hW hS => ?_)
    obtain ⟨hr_, hE_⟩ := hp_11
    subst hr_
    have hW := hW.eq hE_
    refine lv_if_eq (tgt := 32) hx hb dX6_takeBackRule_14 (by decide) (fun c_14 => ?_) (fun c_14 => ?_)
    · skip
      refine lv_aload_n hx hb dX6_takeBackRule_32 rfl (lv_at hl 1 rfl) ?_
      refine lv_iconst (v := 1) hx hb dX6_takeBackRule_33 (by decide) ?_
      refine b_ci (b_runV B hT hX hW hS (As := [.int 1]) (rest := []) (fun sz => mm_fails hI th nP nH rN nf pn sp sk ag V T pd py du mA mC mH mG mS mI mT mP 1 hti htz sz) (cwX6_68 B.2.2.2.2.1 ⟨Nat.le_of_ble_eq_true rfl, Nat.le_of_ble_eq_true rfl⟩) (b_recv B hW (by decide) mE_0 rfl) rfl hl.1 (Nat.le_of_ble_eq_true rfl) dX6_takeBackRule_34 ⟨Nat.le_of_ble_eq_true rfl, Nat.le_of_ble_eq_true rfl⟩) hS (fun r_34 E1 H locs hp_34 hW hS => ?_)
      obtain ⟨hr_, hE_⟩ := hp_34
      subst hr_
      have hW := hW.eq hE_
      exact e_i hQ B hr hlk hS hW dX6_takeBackRule_37 (Nat.le_of_ble_eq_true rfl) (Nat.le_of_ble_eq_true rfl) (by have hk : kTakeR T x dy = 1 := (by unfold kTakeR; rw [cif_f (fun q => c10_f c_14 q.2.1)]); exact Or.inr ⟨by rw [hk]; decide, by rw [hk]; exact MW.mk⟩)
    · skip
      obtain ⟨d, hd, rfl⟩ := vp_in_of (c10_t c_14) (by omega)
      have ed : ix (nI d) = d := nI_clamp (by omega)
      refine lv_aload_n hx hb dX6_takeBackRule_17 rfl (lv_at hl 1 rfl) ?_
      refine gfX6_39 B hT hW (by decide) mE_0 rfl dX6_takeBackRule_18 ?_
      refine lv_sipush (v := (nI 360)) hx hb dX6_takeBackRule_21 (by decide) ?_
      refine lv_iload_n hx hb dX6_takeBackRule_24 rfl (lv_at hl 0 rfl) ?_
      refine lv_imul hx hb dX6_takeBackRule_25 ?_
      refine b_top (y := nI (360 * (rIx x))) (pk_mul _ _) ?_
      refine lv_iload_n hx hb dX6_takeBackRule_26 rfl (lv_at hl 3 rfl) ?_
      refine lv_iadd hx hb dX6_takeBackRule_27 ?_
      refine b_top (y := nI (360 * (rIx x) + d)) (nI_add _ _) ?_
      refine b_zald B hW htz (j := (360 * rIx x + d)) (by decide) mE_9 (vp_in_nI (by omega) (Nat.le_of_ble_eq_true rfl)) (nI_clamp (by omega)) dX6_takeBackRule_28 ?_
      refine b_top (y := T (20 + rIx x) d) (RV_at (j := 3) (i := (rIx x)) (d := d) (by omega) (show 360 * (rIx x) + 360 ≤ 2520 by omega) (by omega) rfl) ?_
      refine lv_if_ne (tgt := 38) hx hb dX6_takeBackRule_29 (by decide) (fun c_29 => ?_) (fun c_29 => ?_)
      · skip
        refine lv_iload_n hx hb dX6_takeBackRule_38 rfl (lv_at hl 3 rfl) ?_
        refine lv_if_ne (tgt := 48) hx hb dX6_takeBackRule_39 (by decide) (fun c_39 => ?_) (fun c_39 => ?_)
        · skip
          refine lv_aload_n hx hb dX6_takeBackRule_48 rfl (lv_at hl 1 rfl) ?_
          refine lv_iconst (v := 0) hx hb dX6_takeBackRule_49 (by decide) ?_
          refine pfX6_55 B hT hI hA hW hS (by decide) mE_0 (Nat.le_of_ble_eq_true rfl) rfl (by first | rfl | decide) dX6_takeBackRule_50 (fun H locs hW hS => ?_)
          have hW := hW.eq (E' := mE cI cZ ad 0 nP nH rN nf pn sp sk ag (RV V) (RV T) (FL pd) (FL py) du mA mC mH mG mS mI mT mP) (mE_u0 _ _ _ _ _ _ _ _ _ _ _ _ _ _ _ _)
          refine lv_aload_n hx hb dX6_takeBackRule_53 rfl (lv_at hl 1 rfl) ?_
          refine lv_aload_n hx hb dX6_takeBackRule_54 rfl (lv_at hl 1 rfl) ?_
          refine gfX6_26 B hT hW (by decide) mE_0 rfl dX6_takeBackRule_55 ?_
          refine lv_aload_n hx hb dX6_takeBackRule_58 rfl (lv_at hl 1 rfl) ?_
          refine gfX6_39 B hT hW (by decide) mE_0 rfl dX6_takeBackRule_59 ?_
          refine lv_sipush (v := (nI 360)) hx hb dX6_takeBackRule_62 (by decide) ?_
          refine lv_iload_n hx hb dX6_takeBackRule_65 rfl (lv_at hl 0 rfl) ?_
          refine lv_imul hx hb dX6_takeBackRule_66 ?_
          refine b_top (y := nI (360 * (rIx x))) (pk_mul _ _) ?_
          refine lv_iload_n hx hb dX6_takeBackRule_67 rfl (lv_at hl 3 rfl) ?_
          refine lv_iconst (v := (w0 (20 + rIx x))) hx hb dX6_takeBackRule_68 (by unfold w0; rw [if_neg (by omega)]; decide) ?_
          refine b_ci (b_runV B hT hX hW hS (As := [.ref (ad 5), .ref (ad 9), .int (nI (360 * (rIx x))), .int (nI d), .int (w0 (20 + rIx x))]) (rest := []) (fun sz => mm_takes hI 0 nP nH rN nf pn sp sk ag V T pd py du mA mC mH mG mS mI mT mP 3 (rIx x) d (20 + (rIx x)) (w0 (20 + rIx x)) hti htz (by omega) (show 360 * (rIx x) + 360 ≤ 2520 by omega) (by omega) rfl sz) (cwX6_96 B.2.2.2.2.1 ⟨Nat.le_of_ble_eq_true rfl, Nat.le_of_ble_eq_true rfl⟩) (b_recv B hW (by decide) mE_0 rfl) rfl hl.1 (Nat.le_of_ble_eq_true rfl) dX6_takeBackRule_69 ⟨Nat.le_of_ble_eq_true rfl, Nat.le_of_ble_eq_true rfl⟩) hS (fun r_69 E1 H locs hp_69 hW hS => ?_)
          obtain ⟨hr_, hE_⟩ := hp_69
          subst hr_
          have hW := hW.eq hE_
          exact e_i hQ B hr hlk hS hW dX6_takeBackRule_72 (Nat.le_of_ble_eq_true rfl) (Nat.le_of_ble_eq_true rfl) (by have hk : kTakeR T x (nI d) = 0 := (by unfold kTakeR; rw [cif_t ⟨hri, vp_in_nI hd (by omega), by rw [ed]; exact c_29⟩, cif_f c_39]); rw [ed]; exact Or.inl ⟨hk, rfl, MW.mk⟩)
        · skip
          refine lv_aload_n hx hb dX6_takeBackRule_42 rfl (lv_at hl 1 rfl) ?_
          refine lv_iconst (v := 2) hx hb dX6_takeBackRule_43 (by decide) ?_
          refine b_ci (b_runV B hT hX hW hS (As := [.int 2]) (rest := []) (fun sz => mm_fails hI th nP nH rN nf pn sp sk ag V T pd py du mA mC mH mG mS mI mT mP 2 hti htz sz) (cwX6_68 B.2.2.2.2.1 ⟨Nat.le_of_ble_eq_true rfl, Nat.le_of_ble_eq_true rfl⟩) (b_recv B hW (by decide) mE_0 rfl) rfl hl.1 (Nat.le_of_ble_eq_true rfl) dX6_takeBackRule_44 ⟨Nat.le_of_ble_eq_true rfl, Nat.le_of_ble_eq_true rfl⟩) hS (fun r_44 E1 H locs hp_44 hW hS => ?_)
          obtain ⟨hr_, hE_⟩ := hp_44
          subst hr_
          have hW := hW.eq hE_
          exact e_i hQ B hr hlk hS hW dX6_takeBackRule_47 (Nat.le_of_ble_eq_true rfl) (Nat.le_of_ble_eq_true rfl) (by have hk : kTakeR T x (nI d) = 2 := (by unfold kTakeR; rw [cif_t ⟨hri, vp_in_nI hd (by omega), by rw [ed]; exact c_29⟩, cif_t c_39]); exact Or.inr ⟨by rw [hk]; decide, by rw [hk]; exact MW.mk⟩)
      · skip
        refine lv_aload_n hx hb dX6_takeBackRule_32 rfl (lv_at hl 1 rfl) ?_
        refine lv_iconst (v := 1) hx hb dX6_takeBackRule_33 (by decide) ?_
        refine b_ci (b_runV B hT hX hW hS (As := [.int 1]) (rest := []) (fun sz => mm_fails hI th nP nH rN nf pn sp sk ag V T pd py du mA mC mH mG mS mI mT mP 1 hti htz sz) (cwX6_68 B.2.2.2.2.1 ⟨Nat.le_of_ble_eq_true rfl, Nat.le_of_ble_eq_true rfl⟩) (b_recv B hW (by decide) mE_0 rfl) rfl hl.1 (Nat.le_of_ble_eq_true rfl) dX6_takeBackRule_34 ⟨Nat.le_of_ble_eq_true rfl, Nat.le_of_ble_eq_true rfl⟩) hS (fun r_34 E1 H locs hp_34 hW hS => ?_)
        obtain ⟨hr_, hE_⟩ := hp_34
        subst hr_
        have hW := hW.eq hE_
        exact e_i hQ B hr hlk hS hW dX6_takeBackRule_37 (Nat.le_of_ble_eq_true rfl) (Nat.le_of_ble_eq_true rfl) (by have hk : kTakeR T x (nI d) = 1 := (by unfold kTakeR; rw [cif_f (fun q => q.2.2 (by rw [ed]; exact c_29))]); exact Or.inr ⟨by rw [hk]; decide, by rw [hk]; exact MW.mk⟩)
