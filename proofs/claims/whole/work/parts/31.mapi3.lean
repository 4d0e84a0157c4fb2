theorem gfX6_158 {p : Program} {l : Launch} {e : Env} {R : Room} {s : State} {m : MethodId} {args : Array Value} {below : List Frame} {meth : Method} {c : Code} {H : Heap} {locs : List Loc} {cells slots : Nat} {Q : State → Prop} {cc : ByteArray} {pc nL : Nat} {ls : Array Slot} {rest : List Value} {D : va_G} {tys : List (ClassId × FieldType)} {ad : Nat → Nat} {N : Nat} {E : Nat → va_E} {k : Nat} {fs : List Value} {v : Value} (B : MB p c cc nL RX6 s m args D tys) (hT : TX s) (hW : hH D ad N E H) (hk : k < N) (he : E k = .inr (6, fs)) (hv : fs[5]? = some v) (hdg : decode cc pc = .ok (.getfield 158, 3)) (kk : W p l e R s m args below meth c H locs cells slots Q (F0 m (pc + 3) ls (v :: rest))) : W p l e R s m args below meth c H locs cells slots Q (F0 m pc ls (.ref (ad k) :: rest)) :=
  b_get B hW inlX6 rfl 5 (by decide) (r17_in _ (List.mem_of_getElem? (i := 9) rfl)) rfl hk he hv hdg kk
theorem pfX6_158 {p : Program} {l : Launch} {e : Env} {R : Room} {s : State} {m : MethodId} {args : Array Value} {below : List Frame} {meth : Method} {c : Code} {H : Heap} {locs : List Loc} {cells slots : Nat} {Q : State → Prop} {cc : ByteArray} {pc nL : Nat} {ls : Array Slot} {rest : List Value} {D : va_G} {tys : List (ClassId × FieldType)} {ad : Nat → Nat} {N : Nat} {E : Nat → va_E} {k : Nat} {fs : List Value} {v : Value} {A : Nat → Prop} {H0 : Heap} (B : MB p c cc nL RX6 s m args D tys) (hT : TX s) (hI : aI ad N) (hA : ∀ k : Nat, k < N → A (ad k)) (hW : hH D ad N E H) (hS : va_S A H0 H locs) (hk : k < N) (he : E k = .inr (6, fs)) (hl : 5 < fs.length) (hn : narrow .int v = v) (hfit : fits .int v = true) (hdg : decode cc pc = .ok (.putfield 158, 3)) (kk : ∀ (H1 : Heap) (locs1 : List Loc), hH D ad N (va_up E k (.inr (6, fs.set 5 v))) H1 → va_S A H0 H1 locs1 → W p l e R s m args below meth c H1 locs1 cells slots Q (F0 m (pc + 3) ls rest)) : W p l e R s m args below meth c H locs cells slots Q (F0 m pc ls (v :: .ref (ad k) :: rest)) :=
  b_put B hI hA hW hS inlX6 tyX6 tyX6_ok nmX6 rfl 5 (by decide) (r17_in _ (List.mem_of_getElem? (i := 9) rfl)) rfl rfl (by decide +kernel) hk he hl hn hfit hdg kk
theorem pfX6_161 {p : Program} {l : Launch} {e : Env} {R : Room} {s : State} {m : MethodId} {args : Array Value} {below : List Frame} {meth : Method} {c : Code} {H : Heap} {locs : List Loc} {cells slots : Nat} {Q : State → Prop} {cc : ByteArray} {pc nL : Nat} {ls : Array Slot} {rest : List Value} {D : va_G} {tys : List (ClassId × FieldType)} {ad : Nat → Nat} {N : Nat} {E : Nat → va_E} {k : Nat} {fs : List Value} {v : Value} {A : Nat → Prop} {H0 : Heap} (B : MB p c cc nL RX6 s m args D tys) (hT : TX s) (hI : aI ad N) (hA : ∀ k : Nat, k < N → A (ad k)) (hW : hH D ad N E H) (hS : va_S A H0 H locs) (hk : k < N) (he : E k = .inr (6, fs)) (hl : 6 < fs.length) (hn : narrow .long v = v) (hfit : fits .long v = true) (hdg : decode cc pc = .ok (.putfield 161, 3)) (kk : ∀ (H1 : Heap) (locs1 : List Loc), hH D ad N (va_up E k (.inr (6, fs.set 6 v))) H1 → va_S A H0 H1 locs1 → W p l e R s m args below meth c H1 locs1 cells slots Q (F0 m (pc + 3) ls rest)) : W p l e R s m args below meth c H locs cells slots Q (F0 m pc ls (v :: .ref (ad k) :: rest)) :=
  b_put B hI hA hW hS inlX6 tyX6 tyX6_ok nmX6 rfl 6 (by decide) (r17_in _ (List.mem_of_getElem? (i := 10) rfl)) rfl rfl (by decide +kernel) hk he hl hn hfit hdg kk
theorem pfX6_145 {p : Program} {l : Launch} {e : Env} {R : Room} {s : State} {m : MethodId} {args : Array Value} {below : List Frame} {meth : Method} {c : Code} {H : Heap} {locs : List Loc} {cells slots : Nat} {Q : State → Prop} {cc : ByteArray} {pc nL : Nat} {ls : Array Slot} {rest : List Value} {D : va_G} {tys : List (ClassId × FieldType)} {ad : Nat → Nat} {N : Nat} {E : Nat → va_E} {k : Nat} {fs : List Value} {v : Value} {A : Nat → Prop} {H0 : Heap} (B : MB p c cc nL RX6 s m args D tys) (hT : TX s) (hI : aI ad N) (hA : ∀ k : Nat, k < N → A (ad k)) (hW : hH D ad N E H) (hS : va_S A H0 H locs) (hk : k < N) (he : E k = .inr (6, fs)) (hl : 3 < fs.length) (hn : narrow .int v = v) (hfit : fits .int v = true) (hdg : decode cc pc = .ok (.putfield 145, 3)) (kk : ∀ (H1 : Heap) (locs1 : List Loc), hH D ad N (va_up E k (.inr (6, fs.set 3 v))) H1 → va_S A H0 H1 locs1 → W p l e R s m args below meth c H1 locs1 cells slots Q (F0 m (pc + 3) ls rest)) : W p l e R s m args below meth c H locs cells slots Q (F0 m pc ls (v :: .ref (ad k) :: rest)) :=
  b_put B hI hA hW hS inlX6 tyX6 tyX6_ok nmX6 rfl 3 (by decide) (r17_in _ (List.mem_of_getElem? (i := 8) rfl)) rfl rfl (by decide +kernel) hk he hl hn hfit hdg kk
theorem cwX6_155 {R : Room} {s : State} {args : Array Value} {rm : Room} (hts : ∀ w ∈ wsL_law, w.before args s = true) (hR : rm.frames + 1 ≤ R.frames ∧ 8 + (10 + 11) + rm.locals ≤ R.locals) : CWV R s args RX6 RX6 155 yX6_hands cX6_hands 10 (some .int) rm rm.cells rm.slots 1 :=
  cwV 1 hts (gi_V (r17_in _ (List.mem_of_getElem? (i := 11) rfl)) (r17_in _ (List.mem_of_getElem? (i := 12) rfl)) (r17_in _ (List.mem_of_getElem? (i := 13) rfl)) (r1_in _ (List.mem_of_getElem? (i := 5) rfl)) (r17_in _ (List.mem_of_getElem? (i := 14) rfl))) rfl rfl rfl (by decide +kernel) hR
theorem kAsk_ok {n : Nat} {h d : Int32} (hk : kAsk n h d = 0) : vp_in h n ∧ vp_in d 360 := by
  unfold kAsk at hk
  by_cases a : vp_in h n
  · rw [cif_t a] at hk
    by_cases b : vp_in d 360
    · exact ⟨a, b⟩
    · rw [cif_f b] at hk; exact absurd hk (by decide)
  · rw [cif_f a] at hk; exact absurd hk (by decide)
theorem kNxt_no {V : Nat → Nat → Int32} {ag : Nat → Int32} {nP n : Nat} {h d : Int32} (hk : ¬ kAsk n h d = 0) : kNxt V ag nP n h d = kAsk n h d := by
  unfold kNxt
  unfold kAsk at hk ⊢
  by_cases a : vp_in h n
  · rw [cif_t a] at hk ⊢
    rw [cif_t a]
    by_cases b : vp_in d 360
    · rw [cif_t b] at hk; exact absurd rfl hk
    · rw [cif_f b, cif_f b]
  · rw [cif_f a, cif_f a]
set_option maxHeartbeats 4000000 in
set_option maxRecDepth 100000 in
theorem mm_keptShare {l : Launch} {D : va_G} {tys : List (ClassId × FieldType)} {ad : Nat → Nat} (hI : aI ad 13) {cI cZ : ClassId} (th : Int32) (nP nH rN : Nat) (nf pn : Int32) (sp sk : Int64) (ag : Nat → Int32) (V T : Nat → Nat → Int32) (pd py : Nat → Nat → Int32) (du : Nat → Int32) (mA mC mH mG mS mI mT mP : Int32) (hti : tys[0]? = some (cI, .int)) (htz : tys[1]? = some (cZ, .boolean))  (sz : Nat) : Met l yX6_keptShare (Cond.code yX6_keptShare cX6_keptShare 1 (some .float) :: wsL_law) (rmk 6 0 0) (va_Pc [.ref (ad 0)] (PC D tys ad 13 (mE cI cZ ad th nP nH rN nf pn sp sk ag (RV V) (RV T) (FL pd) (FL py) du mA mC mH mG mS mI mT mP) sz)) (Qf D ad 13 (fun r E1 => (kShare sk sp = 0 → r = FP.fdiv (FP.l2f sk) (FP.l2f (sk + sp))) ∧ MW cI cZ ad (kShare sk sp) V T ag nP nH rN nf pn sp sk py pd E1) (cA ad 13 sz)) 0 0 (cA ad 13 sz) := by
  refine cm_of (own := RX6) (Qc := Qf D ad 13 (fun r E1 => (kShare sk sp = 0 → r = FP.fdiv (FP.l2f sk) (FP.l2f (sk + sp))) ∧ MW cI cZ ad (kShare sk sp) V T ag nP nH rN nf pn sp sk py pd E1)) rfl (by decide +kernel) (Nat.le_of_ble_eq_true rfl) ?_ sz
  intro p e s m args below meth c ls Q B hT hX hW hr hlk hnm hl hS hA hQ
  have hx := B.1
  have hb := B.2.1
  have hl : lv_has ls 1 [(0, .ref (ad 0))] := hl
  refine lv_aload_n hx hb dX6_keptShare_0 rfl (lv_at hl 0 rfl) ?_
  refine lv_aload_n hx hb dX6_keptShare_1 rfl (lv_at hl 0 rfl) ?_
  refine gfX6_151 B hT hW (by decide) mE_0 rfl dX6_keptShare_2 ?_
  refine lv_aload_n hx hb dX6_keptShare_5 rfl (lv_at hl 0 rfl) ?_
  refine gfX6_161 B hT hW (by decide) mE_0 rfl dX6_keptShare_6 ?_
  refine lv_ladd hx hb dX6_keptShare_9 ?_
  refine lv_lconst (v := 0) hx hb dX6_keptShare_10 (by decide) ?_
  refine b_lcmp hx hb dX6_keptShare_11 ?_
  refine lv_if_ne (tgt := 19) hx hb dX6_keptShare_12 (by decide) (fun c_12 => ?_) (fun c_12 => ?_)
  · skip
    refine lv_iconst (v := 0) hx hb dX6_keptShare_19 (by decide) ?_
    refine pfX6_55 B hT hI hA hW hS (by decide) mE_0 (Nat.le_of_ble_eq_true rfl) rfl (by first | rfl | decide) dX6_keptShare_20 (fun H locs hW hS => ?_)
    have hW := hW.eq (E' := mE cI cZ ad 0 nP nH rN nf pn sp sk ag (RV V) (RV T) (FL pd) (FL py) du mA mC mH mG mS mI mT mP) (mE_u0 _ _ _ _ _ _ _ _ _ _ _ _ _ _ _ _)
    refine lv_aload_n hx hb dX6_keptShare_23 rfl (lv_at hl 0 rfl) ?_
    refine gfX6_55 B hT hW (by decide) mE_0 rfl dX6_keptShare_24 ?_
    refine lv_if_le (tgt := 34) hx hb dX6_keptShare_27 (by decide) (fun c_27 => ?_) (fun c_27 => ?_)
    · skip
      refine lv_aload_n hx hb dX6_keptShare_34 rfl (lv_at hl 0 rfl) ?_
      refine gfX6_151 B hT hW (by decide) mE_0 rfl dX6_keptShare_35 ?_
      refine lv_l2f hx hb dX6_keptShare_38 ?_
      refine lv_aload_n hx hb dX6_keptShare_39 rfl (lv_at hl 0 rfl) ?_
      refine gfX6_151 B hT hW (by decide) mE_0 rfl dX6_keptShare_40 ?_
      refine lv_aload_n hx hb dX6_keptShare_43 rfl (lv_at hl 0 rfl) ?_
      refine gfX6_161 B hT hW (by decide) mE_0 rfl dX6_keptShare_44 ?_
      refine lv_ladd hx hb dX6_keptShare_47 ?_
      refine lv_l2f hx hb dX6_keptShare_48 ?_
      refine lv_fdiv hx hb dX6_keptShare_49 (n_share (fun q => c_12 (lcm_0.mpr q))) ?_
      exact e_f hQ B hr hlk hS hW dX6_keptShare_50 (Nat.le_of_ble_eq_true rfl) (Nat.le_of_ble_eq_true rfl) (by have hk : kShare sk sp = 0 := (by unfold kShare; rw [cif_f (fun q => c_12 (lcm_0.mpr q))]); exact ⟨fun _ => rfl, by rw [hk]; exact MW.mk⟩)
    · exact absurd (Int32.le_refl 0) c_27
  · skip
    refine lv_iconst (v := 1) hx hb dX6_keptShare_15 (by decide) ?_
    refine lv_goto (tgt := 20) hx hb dX6_keptShare_16 (by decide) ?_
    refine pfX6_55 B hT hI hA hW hS (by decide) mE_0 (Nat.le_of_ble_eq_true rfl) rfl (by first | rfl | decide) dX6_keptShare_20 (fun H locs hW hS => ?_)
    have hW := hW.eq (E' := mE cI cZ ad 1 nP nH rN nf pn sp sk ag (RV V) (RV T) (FL pd) (FL py) du mA mC mH mG mS mI mT mP) (mE_u0 _ _ _ _ _ _ _ _ _ _ _ _ _ _ _ _)
    refine lv_aload_n hx hb dX6_keptShare_23 rfl (lv_at hl 0 rfl) ?_
    refine gfX6_55 B hT hW (by decide) mE_0 rfl dX6_keptShare_24 ?_
    refine lv_if_le (tgt := 34) hx hb dX6_keptShare_27 (by decide) (fun c_27 => ?_) (fun c_27 => ?_)
    · exact absurd c_27 (by decide)
    · skip
      refine lv_fconst0 hx hb dX6_keptShare_30 ?_
      refine lv_goto (tgt := 50) hx hb dX6_keptShare_31 (by decide) ?_
      exact e_f hQ B hr hlk hS hW dX6_keptShare_50 (Nat.le_of_ble_eq_true rfl) (Nat.le_of_ble_eq_true rfl) (by have hk : kShare sk sp = 1 := (by unfold kShare; rw [cif_t (lcm_0.mp c_12)]); exact ⟨fun q => absurd (hk.symm.trans q) (by decide), by rw [hk]; exact MW.mk⟩)
set_option maxHeartbeats 4000000 in
set_option maxRecDepth 100000 in
theorem mm_meanPayment {l : Launch} {D : va_G} {tys : List (ClassId × FieldType)} {ad : Nat → Nat} (hI : aI ad 13) {cI cZ : ClassId} (th : Int32) (nP nH rN : Nat) (nf pn : Int32) (sp sk : Int64) (ag : Nat → Int32) (V T : Nat → Nat → Int32) (pd py : Nat → Nat → Int32) (du : Nat → Int32) (mA mC mH mG mS mI mT mP : Int32) (hti : tys[0]? = some (cI, .int)) (htz : tys[1]? = some (cZ, .boolean))  (sz : Nat) : Met l yX6_meanPayment (Cond.code yX6_meanPayment cX6_meanPayment 1 (some .double) :: wsL_law) (rmk 6 0 0) (va_Pc [.ref (ad 0)] (PC D tys ad 13 (mE cI cZ ad th nP nH rN nf pn sp sk ag (RV V) (RV T) (FL pd) (FL py) du mA mC mH mG mS mI mT mP) sz)) (Qd D ad 13 (fun r E1 => (kMean pn = 0 → r = FP.ddiv (FP.l2d sp) (FP.i2d pn)) ∧ MW cI cZ ad (kMean pn) V T ag nP nH rN nf pn sp sk py pd E1) (cA ad 13 sz)) 0 0 (cA ad 13 sz) := by
  refine cm_of (own := RX6) (Qc := Qd D ad 13 (fun r E1 => (kMean pn = 0 → r = FP.ddiv (FP.l2d sp) (FP.i2d pn)) ∧ MW cI cZ ad (kMean pn) V T ag nP nH rN nf pn sp sk py pd E1)) rfl (by decide +kernel) (Nat.le_of_ble_eq_true rfl) ?_ sz
  intro p e s m args below meth c ls Q B hT hX hW hr hlk hnm hl hS hA hQ
  have hx := B.1
  have hb := B.2.1
  have hl : lv_has ls 1 [(0, .ref (ad 0))] := hl
  refine lv_aload_n hx hb dX6_meanPayment_0 rfl (lv_at hl 0 rfl) ?_
  refine lv_aload_n hx hb dX6_meanPayment_1 rfl (lv_at hl 0 rfl) ?_
  refine gfX6_158 B hT hW (by decide) mE_0 rfl dX6_meanPayment_2 ?_
  refine lv_if_ne (tgt := 12) hx hb dX6_meanPayment_5 (by decide) (fun c_5 => ?_) (fun c_5 => ?_)
  · skip
    refine lv_iconst (v := 0) hx hb dX6_meanPayment_12 (by decide) ?_
    refine pfX6_55 B hT hI hA hW hS (by decide) mE_0 (Nat.le_of_ble_eq_true rfl) rfl (by first | rfl | decide) dX6_meanPayment_13 (fun H locs hW hS => ?_)
    have hW := hW.eq (E' := mE cI cZ ad 0 nP nH rN nf pn sp sk ag (RV V) (RV T) (FL pd) (FL py) du mA mC mH mG mS mI mT mP) (mE_u0 _ _ _ _ _ _ _ _ _ _ _ _ _ _ _ _)
    refine lv_aload_n hx hb dX6_meanPayment_16 rfl (lv_at hl 0 rfl) ?_
    refine gfX6_55 B hT hW (by decide) mE_0 rfl dX6_meanPayment_17 ?_
    refine lv_if_le (tgt := 27) hx hb dX6_meanPayment_20 (by decide) (fun c_20 => ?_) (fun c_20 => ?_)
    · skip
      refine lv_aload_n hx hb dX6_meanPayment_27 rfl (lv_at hl 0 rfl) ?_
      refine gfX6_161 B hT hW (by decide) mE_0 rfl dX6_meanPayment_28 ?_
      refine lv_l2d hx hb dX6_meanPayment_31 ?_
      refine lv_aload_n hx hb dX6_meanPayment_32 rfl (lv_at hl 0 rfl) ?_
      refine gfX6_158 B hT hW (by decide) mE_0 rfl dX6_meanPayment_33 ?_
      refine lv_i2d hx hb dX6_meanPayment_36 ?_
      refine lv_ddiv hx hb dX6_meanPayment_37 (n_mean c_5) ?_
      exact e_d hQ B hr hlk hS hW dX6_meanPayment_38 (Nat.le_of_ble_eq_true rfl) (Nat.le_of_ble_eq_true rfl) (by have hk : kMean pn = 0 := (by unfold kMean; rw [cif_f c_5]); exact ⟨fun _ => rfl, by rw [hk]; exact MW.mk⟩)
    · exact absurd (Int32.le_refl 0) c_20
  · skip
    refine lv_iconst (v := 1) hx hb dX6_meanPayment_8 (by decide) ?_
    refine lv_goto (tgt := 13) hx hb dX6_meanPayment_9 (by decide) ?_
    refine pfX6_55 B hT hI hA hW hS (by decide) mE_0 (Nat.le_of_ble_eq_true rfl) rfl (by first | rfl | decide) dX6_meanPayment_13 (fun H locs hW hS => ?_)
    have hW := hW.eq (E' := mE cI cZ ad 1 nP nH rN nf pn sp sk ag (RV V) (RV T) (FL pd) (FL py) du mA mC mH mG mS mI mT mP) (mE_u0 _ _ _ _ _ _ _ _ _ _ _ _ _ _ _ _)
    refine lv_aload_n hx hb dX6_meanPayment_16 rfl (lv_at hl 0 rfl) ?_
    refine gfX6_55 B hT hW (by decide) mE_0 rfl dX6_meanPayment_17 ?_
    refine lv_if_le (tgt := 27) hx hb dX6_meanPayment_20 (by decide) (fun c_20 => ?_) (fun c_20 => ?_)
    · exact absurd c_20 (by decide)
    · skip
      refine lv_dconst0 hx hb dX6_meanPayment_23 ?_
      refine lv_goto (tgt := 38) hx hb dX6_meanPayment_24 (by decide) ?_
      exact e_d hQ B hr hlk hS hW dX6_meanPayment_38 (Nat.le_of_ble_eq_true rfl) (Nat.le_of_ble_eq_true rfl) (by have hk : kMean pn = 1 := (by unfold kMean; rw [cif_t c_5]); exact ⟨fun q => absurd (hk.symm.trans q) (by decide), by rw [hk]; exact MW.mk⟩)
set_option maxHeartbeats 4000000 in
set_option maxRecDepth 100000 in
theorem mm_nextChange {l : Launch} {D : va_G} {tys : List (ClassId × FieldType)} {ad : Nat → Nat} (hI : aI ad 13) {cI cZ : ClassId} (th : Int32) (nP nH rN : Nat) (nf pn : Int32) (sp sk : Int64) (ag : Nat → Int32) (V T : Nat → Nat → Int32) (pd py : Nat → Nat → Int32) (du : Nat → Int32) (mA mC mH mG mS mI mT mP : Int32) (x dy : Int32) (so : Nat → Int32) (hti : tys[0]? = some (cI, .int)) (htz : tys[1]? = some (cZ, .boolean)) (hInv : Inv V T ag nP nH rN so pd)  (sz : Nat) : Met l yX6_nextChange (Cond.code yX6_nextChange cX6_nextChange 7 (some .int) :: wsL_law) (rmk 6 0 0) (va_Pc [.ref (ad 0), .int x, .int dy] (PC D tys ad 13 (mE cI cZ ad th nP nH rN nf pn sp sk ag (RV V) (RV T) (FL pd) (FL py) du mA mC mH mG mS mI mT mP) sz)) (Qi D ad 13 (fun r E1 => (kNxt V ag nP nH x dy = 0 → r = nI (nxD V ag nP (ix x) (ix dy))) ∧ MW cI cZ ad (kNxt V ag nP nH x dy) V T ag nP nH rN nf pn sp sk py pd E1) (cA ad 13 sz)) 0 0 (cA ad 13 sz) := by
  refine cm_of (own := RX6) (Qc := Qi D ad 13 (fun r E1 => (kNxt V ag nP nH x dy = 0 → r = nI (nxD V ag nP (ix x) (ix dy))) ∧ MW cI cZ ad (kNxt V ag nP nH x dy) V T ag nP nH rN nf pn sp sk py pd E1)) rfl (by decide +kernel) (Nat.le_of_ble_eq_true rfl) ?_ sz
  intro p e s m args below meth c ls Q B hT hX hW hr hlk hnm hl hS hA hQ
  have hx := B.1
  have hb := B.2.1
  have hl : lv_has ls 7 [(0, .ref (ad 0)), (1, .int x), (2, .int dy)] := hl
  obtain ⟨⟨hP8, hH4, hR12⟩, -⟩ := id hInv
  have L_33 : ∀ (n_ : Nat) (i : Nat) (d : Nat) (dx : Nat) (mA1 : Int32) (mC1 : Int32) (mH1 : Int32) (mG1 : Int32) (mS1 : Int32) (mI1 : Int32) (mT1 : Int32) (mP1 : Int32), (hxi : x = nI i) → (hdd : dy = nI d) → (hi : i < nH) → (hd : d < 360) → (h1 : d < dx) → (h2 : dx ≤ 360) → (hn : 360 < n_ + dx) → (hnx : nxt (am3 V ag nP i) (am3 V ag nP i d) (360 - dx) dx = nxD V ag nP i d) → ∀ (H : Heap) (locs : List Loc) (ls : Array Slot), hH D ad 13 (mE cI cZ ad 0 nP nH rN nf pn sp sk ag (RV V) (RV T) (FL pd) (FL py) du mA1 mC1 mH1 mG1 mS1 mI1 mT1 mP1) H → va_S (cA ad 13 s.heap.size) s.heap H locs → lv_has ls 7 [(0, .ref (ad 0)), (1, .int (nI i)), (2, .int (nI d)), (3, .int ((amt V ag nP i d).1)), (4, .int ((amt V ag nP i d).2.1)), (5, .int ((amt V ag nP i d).2.2.1)), (6, .int (nI dx))] → W p l e (rmk 6 0 0) s m args below meth c H locs 0 0 Q (F0 m 33 ls []) := by
    intro n_
    induction n_ with
    | zero =>
      intro i d dx mA1 mC1 mH1 mG1 mS1 mI1 mT1 mP1 hxi hdd hi hd h1 h2 hn hnx
      omega
    | succ n_ ih =>
      intro i d dx mA1 mC1 mH1 mG1 mS1 mI1 mT1 mP1 hxi hdd hi hd h1 h2 hn hnx
      subst hxi
      subst hdd
      intro H locs ls hW hS hl
      refine lv_iload hx hb dX6_nextChange_33 (lv_at hl 6 rfl) ?_
      refine lv_sipush (v := (nI 360)) hx hb dX6_nextChange_35 (by decide) ?_
      refine lv_icmp_ge (tgt := 83) hx hb dX6_nextChange_38 (by decide) (fun c_38 => ?_) (fun c_38 => ?_)
      · skip
        refine lv_aload_n hx hb dX6_nextChange_83 rfl (lv_at hl 0 rfl) ?_
        refine lv_iconst (v := 3) hx hb dX6_nextChange_84 (by decide) ?_
        refine b_ci (b_runV B hT hX hW hS (As := [.int 3]) (rest := []) (fun sz => mm_fails hI 0 nP nH rN nf pn sp sk ag V T pd py du mA1 mC1 mH1 mG1 mS1 mI1 mT1 mP1 3 hti htz sz) (cwX6_68 B.2.2.2.2.1 ⟨Nat.le_of_ble_eq_true rfl, Nat.le_of_ble_eq_true rfl⟩) (b_recv B hW (by decide) mE_0 rfl) rfl hl.1 (Nat.le_of_ble_eq_true rfl) dX6_nextChange_85 ⟨Nat.le_of_ble_eq_true rfl, Nat.le_of_ble_eq_true rfl⟩) hS (fun r_85 E1 H locs hp_85 hW hS => ?_)
        obtain ⟨hr_, hE_⟩ := hp_85
        subst hr_
        have hW := hW.eq hE_
        exact e_i hQ B hr hlk hS hW dX6_nextChange_88 (Nat.le_of_ble_eq_true rfl) (Nat.le_of_ble_eq_true rfl) (by have q2 : dx = 360 := Nat.le_antisymm h2 ((nI_leI (by omega) (by omega)).mp c_38); subst q2; have e9 : nxD V ag nP i d = 360 := (by rw [← hnx]; rfl); have hk : kNxt V ag nP nH (nI i) (nI d) = 3 := (by unfold kNxt; rw [cif_t (vp_in_nI hi (by omega)), cif_t (vp_in_nI hd (by omega)), ix_nI (by omega), ix_nI (by omega), e9, cif_f (by decide)]); exact ⟨fun q => absurd (hk.symm.trans q) (by decide), by rw [hk]; exact MW.mk⟩)
      · skip
        have q38 : dx < 360 := Nat.lt_of_not_le (fun q => c_38 ((nI_leI (by omega) (by omega)).mpr q))
        refine lv_aload_n hx hb dX6_nextChange_41 rfl (lv_at hl 0 rfl) ?_
        refine lv_iload_n hx hb dX6_nextChange_42 rfl (lv_at hl 1 rfl) ?_
        refine lv_iload hx hb dX6_nextChange_43 (lv_at hl 6 rfl) ?_
        refine b_cv (b_runV B hT hX hW hS (As := [.int (nI i), .int (nI dx)]) (rest := []) (fun sz => mm_amounts hI 0 nP nH rN nf pn sp sk ag V T pd py du mA1 mC1 mH1 mG1 mS1 mI1 mT1 mP1 i dx so hti htz hInv (by omega) (by omega) sz) (cwX6_142 B.2.2.2.2.1 ⟨Nat.le_of_ble_eq_true rfl, Nat.le_of_ble_eq_true rfl⟩) (b_recv B hW (by decide) mE_0 rfl) rfl hl.1 (Nat.le_of_ble_eq_true rfl) dX6_nextChange_45 ⟨Nat.le_of_ble_eq_true rfl, Nat.le_of_ble_eq_true rfl⟩) hS (fun E1 H locs hp_45 hW hS => ?_)
        have hW := hW.eq hp_45
        refine lv_aload_n hx hb dX6_nextChange_48 rfl (lv_at hl 0 rfl) ?_
        refine gfX6_118 B hT hW (by decide) mE_0 rfl dX6_nextChange_49 ?_
        refine lv_iload_n hx hb dX6_nextChange_52 rfl (lv_at hl 3 rfl) ?_
        refine lv_icmp_ne (tgt := 74) hx hb dX6_nextChange_53 (by decide) (fun c_53 => ?_) (fun c_53 => ?_)
        · skip
          refine lv_iload hx hb dX6_nextChange_74 (lv_at hl 6 rfl) ?_
          exact e_i hQ B hr hlk hS hW dX6_nextChange_76 (Nat.le_of_ble_eq_true rfl) (Nat.le_of_ble_eq_true rfl) (by have e9 : nxD V ag nP i d = dx := (by rw [← hnx]; exact nxt_n q38 (am3_ne1 c_53)); have hk : kNxt V ag nP nH (nI i) (nI d) = 0 := (by unfold kNxt; rw [cif_t (vp_in_nI hi (by omega)), cif_t (vp_in_nI hd (by omega)), ix_nI (by omega), ix_nI (by omega), e9, cif_t q38]); exact ⟨fun _ => by rw [ix_nI (by omega), ix_nI (by omega), e9], by rw [hk]; exact MW.mk⟩)
        · skip
          refine lv_aload_n hx hb dX6_nextChange_56 rfl (lv_at hl 0 rfl) ?_
          refine gfX6_125 B hT hW (by decide) mE_0 rfl dX6_nextChange_57 ?_
          refine lv_iload hx hb dX6_nextChange_60 (lv_at hl 4 rfl) ?_
          refine lv_icmp_ne (tgt := 74) hx hb dX6_nextChange_62 (by decide) (fun c_62 => ?_) (fun c_62 => ?_)
          · skip
            refine lv_iload hx hb dX6_nextChange_74 (lv_at hl 6 rfl) ?_
            exact e_i hQ B hr hlk hS hW dX6_nextChange_76 (Nat.le_of_ble_eq_true rfl) (Nat.le_of_ble_eq_true rfl) (by have e9 : nxD V ag nP i d = dx := (by rw [← hnx]; exact nxt_n q38 (am3_ne2 c_62)); have hk : kNxt V ag nP nH (nI i) (nI d) = 0 := (by unfold kNxt; rw [cif_t (vp_in_nI hi (by omega)), cif_t (vp_in_nI hd (by omega)), ix_nI (by omega), ix_nI (by omega), e9, cif_t q38]); exact ⟨fun _ => by rw [ix_nI (by omega), ix_nI (by omega), e9], by rw [hk]; exact MW.mk⟩)
          · skip
            refine lv_aload_n hx hb dX6_nextChange_65 rfl (lv_at hl 0 rfl) ?_
            refine gfX6_112 B hT hW (by decide) mE_0 rfl dX6_nextChange_66 ?_
            refine lv_iload hx hb dX6_nextChange_69 (lv_at hl 5 rfl) ?_
            refine lv_icmp_eq (tgt := 77) hx hb dX6_nextChange_71 (by decide) (fun c_71 => ?_) (fun c_71 => ?_)
            · skip
              refine lv_iinc (v := (nI (dx + 1))) (lv' := [(6, .int (nI (dx + 1))), (0, .ref (ad 0)), (1, .int (nI i)), (2, .int (nI d)), (3, .int ((amt V ag nP i d).1)), (4, .int ((amt V ag nP i d).2.1)), (5, .int ((amt V ag nP i d).2.2.1))]) hx hb dX6_nextChange_77 hl (k := 6) rfl (nI_1 dx) (by decide) rfl (fun ls hl => ?_)
              refine lv_goto (tgt := 33) hx hb dX6_nextChange_80 (by decide) ?_
              have he9 : am3 V ag nP i dx = am3 V ag nP i d := am3_eq c_53 c_62 c_71
              exact ih i d (dx + 1) ((amt V ag nP i dx).1) ((amt V ag nP i dx).2.1) ((amt V ag nP i dx).2.2.1) ((cnt V ag (nI i) dx nP).1) ((cnt V ag (nI i) dx nP).2.1) ((cnt V ag (nI i) dx nP).2.2) ((amt V ag nP i dx).2.2.2.1) ((amt V ag nP i dx).2.2.2.2) rfl rfl hi hd (by omega) (by omega) (by omega) (by rw [← nxt_s q38 he9]; exact hnx) _ _ _ hW hS (lv_sub hl [1, 2, 3, 4, 5, 6, 0] rfl)
            · skip
              refine lv_iload hx hb dX6_nextChange_74 (lv_at hl 6 rfl) ?_
              exact e_i hQ B hr hlk hS hW dX6_nextChange_76 (Nat.le_of_ble_eq_true rfl) (Nat.le_of_ble_eq_true rfl) (by have e9 : nxD V ag nP i d = dx := (by rw [← hnx]; exact nxt_n q38 (am3_ne3 c_71)); have hk : kNxt V ag nP nH (nI i) (nI d) = 0 := (by unfold kNxt; rw [cif_t (vp_in_nI hi (by omega)), cif_t (vp_in_nI hd (by omega)), ix_nI (by omega), ix_nI (by omega), e9, cif_t q38]); exact ⟨fun _ => by rw [ix_nI (by omega), ix_nI (by omega), e9], by rw [hk]; exact MW.mk⟩)
  refine lv_aload_n hx hb dX6_nextChange_0 rfl (lv_at hl 0 rfl) ?_
  refine lv_iload_n hx hb dX6_nextChange_1 rfl (lv_at hl 1 rfl) ?_
  refine lv_iload_n hx hb dX6_nextChange_2 rfl (lv_at hl 2 rfl) ?_
  refine b_ci (b_runV B hT hX hW hS (As := [.int x, .int dy]) (rest := []) (fun sz => mm_isAsked hI th nP nH rN nf pn sp sk ag V T pd py du mA mC mH mG mS mI mT mP x dy so hti htz hInv sz) (cwX6_171 B.2.2.2.2.1 ⟨Nat.le_of_ble_eq_true rfl, Nat.le_of_ble_eq_true rfl⟩) (b_recv B hW (by decide) mE_0 rfl) rfl hl.1 (Nat.le_of_ble_eq_true rfl) dX6_nextChange_3 ⟨Nat.le_of_ble_eq_true rfl, Nat.le_of_ble_eq_true rfl⟩) hS (fun r_3 E1 H locs hp_3 hW hS => ?_)
  rcases hp_3 with ⟨hk, hr_, hE_⟩ | ⟨hk, hr_, hE_⟩
  · skip
    subst hr_
    have hW := hW.eq hE_
    refine lv_if_ne (tgt := 11) hx hb dX6_nextChange_6 (by decide) (fun c_6 => ?_) (fun c_6 => ?_)
    · skip
      have kk9 := kAsk_ok hk
      obtain ⟨i, hi, rfl⟩ := vp_in_of kk9.1 (by omega)
      obtain ⟨d, hd, rfl⟩ := vp_in_of kk9.2 (by omega)
      have ei : ix (nI i) = i := nI_clamp (by omega)
      have ed : ix (nI d) = d := nI_clamp (by omega)
      have hW := hW.eq (E' := mE cI cZ ad 0 nP nH rN nf pn sp sk ag (RV V) (RV T) (FL pd) (FL py) du ((amt V ag nP i d).1) ((amt V ag nP i d).2.1) ((amt V ag nP i d).2.2.1) ((cnt V ag (nI i) d nP).1) ((cnt V ag (nI i) d nP).2.1) ((cnt V ag (nI i) d nP).2.2) ((amt V ag nP i d).2.2.2.1) ((amt V ag nP i d).2.2.2.2)) (by rw [ei, ed])
      refine lv_aload_n hx hb dX6_nextChange_11 rfl (lv_at hl 0 rfl) ?_
      refine gfX6_118 B hT hW (by decide) mE_0 rfl dX6_nextChange_12 ?_
      refine lv_istore_n (lv' := [(3, .int ((amt V ag nP i d).1)), (0, .ref (ad 0)), (1, .int (nI i)), (2, .int (nI d))]) hx hb dX6_nextChange_15 rfl hl (by decide) rfl (fun ls hl => ?_)
      refine lv_aload_n hx hb dX6_nextChange_16 rfl (lv_at hl 1 rfl) ?_
      refine gfX6_125 B hT hW (by decide) mE_0 rfl dX6_nextChange_17 ?_
      refine lv_istore (lv' := [(4, .int ((amt V ag nP i d).2.1)), (3, .int ((amt V ag nP i d).1)), (0, .ref (ad 0)), (1, .int (nI i)), (2, .int (nI d))]) hx hb dX6_nextChange_20 hl (by decide) rfl (fun ls hl => ?_)
      refine lv_aload_n hx hb dX6_nextChange_22 rfl (lv_at hl 2 rfl) ?_
      refine gfX6_112 B hT hW (by decide) mE_0 rfl dX6_nextChange_23 ?_
      refine lv_istore (lv' := [(5, .int ((amt V ag nP i d).2.2.1)), (4, .int ((amt V ag nP i d).2.1)), (3, .int ((amt V ag nP i d).1)), (0, .ref (ad 0)), (1, .int (nI i)), (2, .int (nI d))]) hx hb dX6_nextChange_26 hl (by decide) rfl (fun ls hl => ?_)
      refine lv_iload_n hx hb dX6_nextChange_28 rfl (lv_at hl 5 rfl) ?_
      refine lv_iconst (v := 1) hx hb dX6_nextChange_29 (by decide) ?_
      refine lv_iadd hx hb dX6_nextChange_30 ?_
      refine b_top (y := nI (d + 1)) (nI_1 d) ?_
      refine lv_istore (lv' := [(6, .int (nI (d + 1))), (5, .int ((amt V ag nP i d).2.2.1)), (4, .int ((amt V ag nP i d).2.1)), (3, .int ((amt V ag nP i d).1)), (0, .ref (ad 0)), (1, .int (nI i)), (2, .int (nI d))]) hx hb dX6_nextChange_31 hl (by decide) rfl (fun ls hl => ?_)
      exact L_33 361 i d (d + 1) ((amt V ag nP i d).1) ((amt V ag nP i d).2.1) ((amt V ag nP i d).2.2.1) ((cnt V ag (nI i) d nP).1) ((cnt V ag (nI i) d nP).2.1) ((cnt V ag (nI i) d nP).2.2) ((amt V ag nP i d).2.2.2.1) ((amt V ag nP i d).2.2.2.2) rfl rfl hi hd (by omega) (by omega) (by omega) (by rw [nxD, show 360 - (d + 1) = 359 - d by omega]) _ _ _ hW hS (lv_sub hl [4, 5, 6, 3, 2, 1, 0] rfl)
    · exact absurd c_6 (by decide)
  · skip
    subst hr_
    have hW := hW.eq hE_
    refine lv_if_ne (tgt := 11) hx hb dX6_nextChange_6 (by decide) (fun c_6 => ?_) (fun c_6 => ?_)
    · exact absurd rfl c_6
    · skip
      refine lv_iconst (v := 0) hx hb dX6_nextChange_9 (by decide) ?_
      exact e_i hQ B hr hlk hS hW dX6_nextChange_10 (Nat.le_of_ble_eq_true rfl) (Nat.le_of_ble_eq_true rfl) (⟨fun q => absurd ((kNxt_no hk).symm.trans q) hk, by rw [kNxt_no hk]; exact MW.mk⟩)
set_option maxHeartbeats 4000000 in
set_option maxRecDepth 100000 in
theorem mm_pay {l : Launch} {D : va_G} {tys : List (ClassId × FieldType)} {ad : Nat → Nat} (hI : aI ad 13) {cI cZ : ClassId} (th : Int32) (nP nH rN : Nat) (nf pn : Int32) (sp sk : Int64) (ag : Nat → Int32) (V T : Nat → Nat → Int32) (pd py : Nat → Nat → Int32) (du : Nat → Int32) (mA mC mH mG mS mI mT mP : Int32) (so : Nat → Int32) (hti : tys[0]? = some (cI, .int)) (htz : tys[1]? = some (cZ, .boolean)) (hInv : Inv V T ag nP nH rN so pd)  (sz : Nat) : Met l yX6_pay (Cond.code yX6_pay cX6_pay 4 (some .int) :: wsL_law) (rmk 6 0 0) (va_Pc [.ref (ad 0)] (PC D tys ad 13 (mE cI cZ ad th nP nH rN nf pn sp sk ag (RV V) (RV T) (FL pd) (FL py) du mA mC mH mG mS mI mT mP) sz)) (Qi D ad 13 (fun r E1 => (kPay rN = 0 ∧ r = (runS (due V ag nP) rN py pd sk nH).1 ∧ MW cI cZ ad 0 V T ag nP nH (rN + 1) nf (pn + nI nH) (sp + (runS (due V ag nP) rN py pd sk nH).1.toInt64) ((runS (due V ag nP) rN py pd sk nH).2.2.2) ((runS (due V ag nP) rN py pd sk nH).2.1) ((runS (due V ag nP) rN py pd sk nH).2.2.1) E1) ∨ (¬ kPay rN = 0 ∧ MW cI cZ ad (kPay rN) V T ag nP nH rN nf pn sp sk py pd E1)) (cA ad 13 sz)) 0 0 (cA ad 13 sz) := by
  refine cm_of (own := RX6) (Qc := Qi D ad 13 (fun r E1 => (kPay rN = 0 ∧ r = (runS (due V ag nP) rN py pd sk nH).1 ∧ MW cI cZ ad 0 V T ag nP nH (rN + 1) nf (pn + nI nH) (sp + (runS (due V ag nP) rN py pd sk nH).1.toInt64) ((runS (due V ag nP) rN py pd sk nH).2.2.2) ((runS (due V ag nP) rN py pd sk nH).2.1) ((runS (due V ag nP) rN py pd sk nH).2.2.1) E1) ∨ (¬ kPay rN = 0 ∧ MW cI cZ ad (kPay rN) V T ag nP nH rN nf pn sp sk py pd E1))) rfl (by decide +kernel) (Nat.le_of_ble_eq_true rfl) ?_ sz
  intro p e s m args below meth c ls Q B hT hX hW hr hlk hnm hl hS hA hQ
  have hx := B.1
  have hb := B.2.1
  have hl : lv_has ls 4 [(0, .ref (ad 0))] := hl
  obtain ⟨⟨hP8, hH4, hR12⟩, hTb, -, hso, -, -, hpd⟩ := id hInv
  have L_24 : ∀ (n_ : Nat) (i : Nat) (du1 : Nat → Int32) (mA1 : Int32) (mC1 : Int32) (mH1 : Int32) (mG1 : Int32) (mS1 : Int32) (mI1 : Int32) (mT1 : Int32) (mP1 : Int32), (hr12 : rN < 12) → (hi : i ≤ nH) → (hn : nH < n_ + i) → ∀ (H : Heap) (locs : List Loc) (ls : Array Slot), hH D ad 13 (mE cI cZ ad 0 nP nH rN nf pn sp ((runS (due V ag nP) rN py pd sk i).2.2.2) ag (RV V) (RV T) (FL ((runS (due V ag nP) rN py pd sk i).2.2.1)) (FL ((runS (due V ag nP) rN py pd sk i).2.1)) du1 mA1 mC1 mH1 mG1 mS1 mI1 mT1 mP1) H → va_S (cA ad 13 s.heap.size) s.heap H locs → lv_has ls 4 [(0, .ref (ad 0)), (1, .int ((runS (due V ag nP) rN py pd sk i).1)), (2, .int (nI i))] → W p l e (rmk 6 0 0) s m args below meth c H locs 0 0 Q (F0 m 24 ls []) := by
    intro n_
    induction n_ with
    | zero =>
      intro i du1 mA1 mC1 mH1 mG1 mS1 mI1 mT1 mP1 hr12 hi hn
      omega
    | succ n_ ih =>
      intro i du1 mA1 mC1 mH1 mG1 mS1 mI1 mT1 mP1 hr12 hi hn H locs ls hW hS hl
      refine lv_iload_n hx hb dX6_pay_24 rfl (lv_at hl 2 rfl) ?_
      refine lv_aload_n hx hb dX6_pay_25 rfl (lv_at hl 0 rfl) ?_
      refine gfX6_65 B hT hW (by decide) mE_0 rfl dX6_pay_26 ?_
      refine lv_icmp_ge (tgt := 63) hx hb dX6_pay_29 (by decide) (fun c_29 => ?_) (fun c_29 => ?_)
      · skip
        have qi : nH = i := Nat.le_antisymm ((nI_leI (by omega) (by omega)).mp c_29) hi
        subst qi
        refine lv_aload_n hx hb dX6_pay_63 rfl (lv_at hl 0 rfl) ?_
        refine lv_dup hx hb dX6_pay_64 rfl ?_
        refine gfX6_158 B hT hW (by decide) mE_0 rfl dX6_pay_65 ?_
        refine lv_aload_n hx hb dX6_pay_68 rfl (lv_at hl 0 rfl) ?_
        refine gfX6_65 B hT hW (by decide) mE_0 rfl dX6_pay_69 ?_
        refine lv_iadd hx hb dX6_pay_72 ?_
        refine pfX6_158 B hT hI hA hW hS (by decide) mE_0 (Nat.le_of_ble_eq_true rfl) rfl (by first | rfl | decide) dX6_pay_73 (fun H locs hW hS => ?_)
        have hW := hW.eq (E' := mE cI cZ ad 0 nP nH rN nf (pn + (nI nH)) sp ((runS (due V ag nP) rN py pd sk nH).2.2.2) ag (RV V) (RV T) (FL ((runS (due V ag nP) rN py pd sk nH).2.2.1)) (FL ((runS (due V ag nP) rN py pd sk nH).2.1)) du1 mA1 mC1 mH1 mG1 mS1 mI1 mT1 mP1) (mE_u0 _ _ _ _ _ _ _ _ _ _ _ _ _ _ _ _)
        refine lv_aload_n hx hb dX6_pay_76 rfl (lv_at hl 0 rfl) ?_
        refine lv_dup hx hb dX6_pay_77 rfl ?_
        refine gfX6_161 B hT hW (by decide) mE_0 rfl dX6_pay_78 ?_
        refine lv_iload_n hx hb dX6_pay_81 rfl (lv_at hl 1 rfl) ?_
        refine lv_i2l hx hb dX6_pay_82 rfl ?_
        refine lv_ladd hx hb dX6_pay_83 ?_
        refine pfX6_161 B hT hI hA hW hS (by decide) mE_0 (Nat.le_of_ble_eq_true rfl) rfl (by first | rfl | decide) dX6_pay_84 (fun H locs hW hS => ?_)
        have hW := hW.eq (E' := mE cI cZ ad 0 nP nH rN nf (pn + (nI nH)) (sp + (((runS (due V ag nP) rN py pd sk nH).1).toInt64)) ((runS (due V ag nP) rN py pd sk nH).2.2.2) ag (RV V) (RV T) (FL ((runS (due V ag nP) rN py pd sk nH).2.2.1)) (FL ((runS (due V ag nP) rN py pd sk nH).2.1)) du1 mA1 mC1 mH1 mG1 mS1 mI1 mT1 mP1) (mE_u0 _ _ _ _ _ _ _ _ _ _ _ _ _ _ _ _)
        refine lv_aload_n hx hb dX6_pay_87 rfl (lv_at hl 0 rfl) ?_
        refine lv_dup hx hb dX6_pay_88 rfl ?_
        refine gfX6_145 B hT hW (by decide) mE_0 rfl dX6_pay_89 ?_
        refine lv_iconst (v := 1) hx hb dX6_pay_92 (by decide) ?_
        refine lv_iadd hx hb dX6_pay_93 ?_
        refine b_top (y := nI (rN + 1)) (nI_1 rN) ?_
        refine pfX6_145 B hT hI hA hW hS (by decide) mE_0 (Nat.le_of_ble_eq_true rfl) rfl (by first | rfl | decide) dX6_pay_94 (fun H locs hW hS => ?_)
        have hW := hW.eq (E' := mE cI cZ ad 0 nP nH (rN + 1) nf (pn + (nI nH)) (sp + (((runS (due V ag nP) rN py pd sk nH).1).toInt64)) ((runS (due V ag nP) rN py pd sk nH).2.2.2) ag (RV V) (RV T) (FL ((runS (due V ag nP) rN py pd sk nH).2.2.1)) (FL ((runS (due V ag nP) rN py pd sk nH).2.1)) du1 mA1 mC1 mH1 mG1 mS1 mI1 mT1 mP1) (mE_u0 _ _ _ _ _ _ _ _ _ _ _ _ _ _ _ _)
        refine lv_iload_n hx hb dX6_pay_97 rfl (lv_at hl 1 rfl) ?_
        exact e_i hQ B hr hlk hS hW dX6_pay_98 (Nat.le_of_ble_eq_true rfl) (Nat.le_of_ble_eq_true rfl) (by have hk : kPay rN = 0 := (by unfold kPay; rw [cif_t hr12]); exact Or.inl ⟨hk, rfl, MW.mk⟩)
      · skip
        have q29 : i < nH := Nat.lt_of_not_le (fun q => c_29 ((nI_leI (by omega) (by omega)).mpr q))
        refine lv_aload_n hx hb dX6_pay_32 rfl (lv_at hl 0 rfl) ?_
        refine lv_iload_n hx hb dX6_pay_33 rfl (lv_at hl 2 rfl) ?_
        refine b_ci (b_runV B hT hX hW hS (As := [.int (nI i)]) (rest := []) (fun sz => mm_hands hI 0 nP nH rN nf pn sp ((runS (due V ag nP) rN py pd sk i).2.2.2) ag V T ((runS (due V ag nP) rN py pd sk i).2.2.1) ((runS (due V ag nP) rN py pd sk i).2.1) du1 mA1 mC1 mH1 mG1 mS1 mI1 mT1 mP1 i so hti htz (Inv.pay0 (py := py) (sk := sk) hInv hr12 (by omega)) (by omega) hr12 sz) (cwX6_155 B.2.2.2.2.1 ⟨Nat.le_of_ble_eq_true rfl, Nat.le_of_ble_eq_true rfl⟩) (b_recv B hW (by decide) mE_0 rfl) rfl hl.1 (Nat.le_of_ble_eq_true rfl) dX6_pay_34 ⟨Nat.le_of_ble_eq_true rfl, Nat.le_of_ble_eq_true rfl⟩) hS (fun r_34 E1 H locs hp_34 hW hS => ?_)
        obtain ⟨hr_, du_34, jA_34, jB_34, jC_34, jD_34, jE_34, jF_34, jG_34, jH_34, hE_⟩ := hp_34
        have kp := runS_keep (U := due V ag nP) (mo := rN) (py := py) (pd := pd) (sk := sk) (Nat.le_refl i)
        rw [kp.2] at hr_ hE_
        subst hr_
        have hW := hW.eq (E' := mE cI cZ ad 0 nP nH rN nf pn sp ((runS (due V ag nP) rN py pd sk (i + 1)).2.2.2) ag (RV V) (RV T) (FL (runS (due V ag nP) rN py pd sk (i + 1)).2.2.1) (FL ((runS (due V ag nP) rN py pd sk i).2.1)) du_34 jA_34 jB_34 jC_34 jD_34 jE_34 jF_34 jG_34 jH_34) hE_
        refine lv_istore_n (lv' := [(3, .int (payP (due V ag nP i) (pd i) rN)), (0, .ref (ad 0)), (1, .int ((runS (due V ag nP) rN py pd sk i).1)), (2, .int (nI i))]) hx hb dX6_pay_37 rfl hl (by decide) rfl (fun ls hl => ?_)
        refine lv_aload_n hx hb dX6_pay_38 rfl (lv_at hl 1 rfl) ?_
        refine gfX6_45 B hT hW (by decide) mE_0 rfl dX6_pay_39 ?_
        refine lv_bipush (v := (nI 12)) hx hb dX6_pay_42 (by decide) ?_
        refine lv_iload_n hx hb dX6_pay_44 rfl (lv_at hl 3 rfl) ?_
        refine lv_imul hx hb dX6_pay_45 ?_
        refine b_top (y := nI (12 * i)) (pk_mul _ _) ?_
        refine lv_aload_n hx hb dX6_pay_46 rfl (lv_at hl 1 rfl) ?_
        refine gfX6_145 B hT hW (by decide) mE_0 rfl dX6_pay_47 ?_
        refine lv_iadd hx hb dX6_pay_50 ?_
        refine b_top (y := nI (12 * i + rN)) (nI_add _ _) ?_
        refine lv_iload_n hx hb dX6_pay_51 rfl (lv_at hl 0 rfl) ?_
        refine b_iast B hI hA hW hS hti (j := (12 * i + rN)) (by decide) mE_11 (vp_in_nI (by omega) (Nat.le_of_ble_eq_true rfl)) (nI_clamp (by omega)) dX6_pay_52 (fun H locs hW hS => ?_)
        have hW := hW.eq (E' := mE cI cZ ad 0 nP nH rN nf pn sp ((runS (due V ag nP) rN py pd sk (i + 1)).2.2.2) ag (RV V) (RV T) (FL (runS (due V ag nP) rN py pd sk (i + 1)).2.2.1) (upd (FL ((runS (due V ag nP) rN py pd sk i).2.1)) (12 * i + rN) (payP (due V ag nP i) (pd i) rN)) du_34 jA_34 jB_34 jC_34 jD_34 jE_34 jF_34 jG_34 jH_34) (mE_u11 _)
        have hW := hW.eq (E' := mE cI cZ ad 0 nP nH rN nf pn sp ((runS (due V ag nP) rN py pd sk (i + 1)).2.2.2) ag (RV V) (RV T) (FL (runS (due V ag nP) rN py pd sk (i + 1)).2.2.1) (FL (runS (due V ag nP) rN py pd sk (i + 1)).2.1) du_34 jA_34 jB_34 jC_34 jD_34 jE_34 jF_34 jG_34 jH_34) (by rw [FL_up (by omega) hr12, kp.1]; rfl)
        refine lv_iload_n hx hb dX6_pay_53 rfl (lv_at hl 2 rfl) ?_
        refine lv_iload_n hx hb dX6_pay_54 rfl (lv_at hl 0 rfl) ?_
        refine lv_iadd hx hb dX6_pay_55 ?_
        refine b_top (y := (runS (due V ag nP) rN py pd sk (i + 1)).1) rfl ?_
        refine lv_istore_n (lv' := [(1, .int ((runS (due V ag nP) rN py pd sk (i + 1)).1)), (3, .int (payP (due V ag nP i) (pd i) rN)), (0, .ref (ad 0)), (2, .int (nI i))]) hx hb dX6_pay_56 rfl hl (by decide) rfl (fun ls hl => ?_)
        refine lv_iinc (v := (nI (i + 1))) (lv' := [(2, .int (nI (i + 1))), (1, .int ((runS (due V ag nP) rN py pd sk (i + 1)).1)), (3, .int (payP (due V ag nP i) (pd i) rN)), (0, .ref (ad 0))]) hx hb dX6_pay_57 hl (k := 3) rfl (nI_1 i) (by decide) rfl (fun ls hl => ?_)
        refine lv_goto (tgt := 24) hx hb dX6_pay_60 (by decide) ?_
        exact ih (i + 1) du_34 jA_34 jB_34 jC_34 jD_34 jE_34 jF_34 jG_34 jH_34 hr12 (by omega) (by omega) _ _ _ hW hS (lv_sub hl [3, 1, 0] rfl)
  refine lv_aload_n hx hb dX6_pay_0 rfl (lv_at hl 0 rfl) ?_
  refine gfX6_145 B hT hW (by decide) mE_0 rfl dX6_pay_1 ?_
  refine lv_bipush (v := (nI 12)) hx hb dX6_pay_4 (by decide) ?_
  refine lv_icmp_ne (tgt := 15) hx hb dX6_pay_6 (by decide) (fun c_6 => ?_) (fun c_6 => ?_)
  · skip
    have hr12 : rN < 12 := Nat.lt_of_le_of_ne hR12 (fun q => c_6 (by rw [q]))
    refine lv_aload_n hx hb dX6_pay_15 rfl (lv_at hl 0 rfl) ?_
    refine lv_iconst (v := 0) hx hb dX6_pay_16 (by decide) ?_
    refine pfX6_55 B hT hI hA hW hS (by decide) mE_0 (Nat.le_of_ble_eq_true rfl) rfl (by first | rfl | decide) dX6_pay_17 (fun H locs hW hS => ?_)
    have hW := hW.eq (E' := mE cI cZ ad 0 nP nH rN nf pn sp sk ag (RV V) (RV T) (FL pd) (FL py) du mA mC mH mG mS mI mT mP) (mE_u0 _ _ _ _ _ _ _ _ _ _ _ _ _ _ _ _)
    refine lv_iconst (v := 0) hx hb dX6_pay_20 (by decide) ?_
    refine b_top (y := (runS (due V ag nP) rN py pd sk 0).1) rfl ?_
    refine lv_istore_n (lv' := [(1, .int ((runS (due V ag nP) rN py pd sk 0).1)), (0, .ref (ad 0))]) hx hb dX6_pay_21 rfl hl (by decide) rfl (fun ls hl => ?_)
    refine lv_iconst (v := 0) hx hb dX6_pay_22 (by decide) ?_
    refine lv_istore_n (lv' := [(2, .int 0), (1, .int ((runS (due V ag nP) rN py pd sk 0).1)), (0, .ref (ad 0))]) hx hb dX6_pay_23 rfl hl (by decide) rfl (fun ls hl => ?_)
    exact L_24 (nH + 1) 0 du mA mC mH mG mS mI mT mP hr12 (by omega) (by omega) _ _ _ hW hS (lv_sub hl [2, 1, 0] rfl)
  · skip
    refine lv_aload_n hx hb dX6_pay_9 rfl (lv_at hl 0 rfl) ?_
    refine lv_iconst (v := 1) hx hb dX6_pay_10 (by decide) ?_
    refine b_ci (b_runV B hT hX hW hS (As := [.int 1]) (rest := []) (fun sz => mm_fails hI th nP nH rN nf pn sp sk ag V T pd py du mA mC mH mG mS mI mT mP 1 hti htz sz) (cwX6_68 B.2.2.2.2.1 ⟨Nat.le_of_ble_eq_true rfl, Nat.le_of_ble_eq_true rfl⟩) (b_recv B hW (by decide) mE_0 rfl) rfl hl.1 (Nat.le_of_ble_eq_true rfl) dX6_pay_11 ⟨Nat.le_of_ble_eq_true rfl, Nat.le_of_ble_eq_true rfl⟩) hS (fun r_11 E1 H locs hp_11 hW hS => ?_)
    obtain ⟨hr_, hE_⟩ := hp_11
    subst hr_
    have hW := hW.eq hE_
    exact e_i hQ B hr hlk hS hW dX6_pay_14 (Nat.le_of_ble_eq_true rfl) (Nat.le_of_ble_eq_true rfl) (by have hk : kPay rN = 1 := (by unfold kPay; rw [cif_f (by have := (nI_eq (by omega) (by omega)).mp c_6; omega)]); exact Or.inr ⟨by rw [hk]; decide, by rw [hk]; exact MW.mk⟩)
