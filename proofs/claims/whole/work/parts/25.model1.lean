theorem cwX6_61 {R : Room} {s : State} {args : Array Value} {rm : Room} (hts : ∀ w ∈ wsL_law, w.before args s = true) (hR : rm.frames + 1 ≤ R.frames ∧ 8 + (3 + 11) + rm.locals ≤ R.locals) : CWS R s args RX6 61 yX6_in cX6_in 3 (some .boolean) rm rm.cells rm.slots 3 :=
  va_cwS 3 hts (gi_S (r6_in _ (List.mem_of_getElem? (i := 20) rfl)) (r6_in _ (List.mem_of_getElem? (i := 21) rfl)) (r1_in _ (List.mem_of_getElem? (i := 5) rfl)) (r6_in _ (List.mem_of_getElem? (i := 22) rfl))) rfl rfl rfl (by decide +kernel) hR
theorem pfX6_55 {p : Program} {l : Launch} {e : Env} {R : Room} {s : State} {m : MethodId} {args : Array Value} {below : List Frame} {meth : Method} {c : Code} {H : Heap} {locs : List Loc} {cells slots : Nat} {Q : State → Prop} {cc : ByteArray} {pc nL : Nat} {ls : Array Slot} {rest : List Value} {D : va_G} {tys : List (ClassId × FieldType)} {ad : Nat → Nat} {N : Nat} {E : Nat → va_E} {k : Nat} {fs : List Value} {v : Value} {A : Nat → Prop} {H0 : Heap} (B : MB p c cc nL RX6 s m args D tys) (hT : TX s) (hI : aI ad N) (hA : ∀ k : Nat, k < N → A (ad k)) (hW : hH D ad N E H) (hS : va_S A H0 H locs) (hk : k < N) (he : E k = .inr (6, fs)) (hl : 0 < fs.length) (hn : narrow .int v = v) (hfit : fits .int v = true) (hdg : decode cc pc = .ok (.putfield 55, 3)) (kk : ∀ (H1 : Heap) (locs1 : List Loc), hH D ad N (va_up E k (.inr (6, fs.set 0 v))) H1 → va_S A H0 H1 locs1 → W p l e R s m args below meth c H1 locs1 cells slots Q (F0 m (pc + 3) ls rest)) : W p l e R s m args below meth c H locs cells slots Q (F0 m pc ls (v :: .ref (ad k) :: rest)) :=
  b_put B hI hA hW hS inlX6 tyX6 tyX6_ok nmX6 rfl 0 (by decide) (r6_in _ (List.mem_of_getElem? (i := 19) rfl)) rfl rfl (by decide +kernel) hk he hl hn hfit hdg kk
theorem gfX6_55 {p : Program} {l : Launch} {e : Env} {R : Room} {s : State} {m : MethodId} {args : Array Value} {below : List Frame} {meth : Method} {c : Code} {H : Heap} {locs : List Loc} {cells slots : Nat} {Q : State → Prop} {cc : ByteArray} {pc nL : Nat} {ls : Array Slot} {rest : List Value} {D : va_G} {tys : List (ClassId × FieldType)} {ad : Nat → Nat} {N : Nat} {E : Nat → va_E} {k : Nat} {fs : List Value} {v : Value} (B : MB p c cc nL RX6 s m args D tys) (hT : TX s) (hW : hH D ad N E H) (hk : k < N) (he : E k = .inr (6, fs)) (hv : fs[0]? = some v) (hdg : decode cc pc = .ok (.getfield 55, 3)) (kk : W p l e R s m args below meth c H locs cells slots Q (F0 m (pc + 3) ls (v :: rest))) : W p l e R s m args below meth c H locs cells slots Q (F0 m pc ls (.ref (ad k) :: rest)) :=
  b_get B hW inlX6 rfl 0 (by decide) (r6_in _ (List.mem_of_getElem? (i := 19) rfl)) rfl hk he hv hdg kk
theorem gfX6_58 {p : Program} {l : Launch} {e : Env} {R : Room} {s : State} {m : MethodId} {args : Array Value} {below : List Frame} {meth : Method} {c : Code} {H : Heap} {locs : List Loc} {cells slots : Nat} {Q : State → Prop} {cc : ByteArray} {pc nL : Nat} {ls : Array Slot} {rest : List Value} {D : va_G} {tys : List (ClassId × FieldType)} {ad : Nat → Nat} {N : Nat} {E : Nat → va_E} {k : Nat} {fs : List Value} {v : Value} (B : MB p c cc nL RX6 s m args D tys) (hT : TX s) (hW : hH D ad N E H) (hk : k < N) (he : E k = .inr (6, fs)) (hv : fs[1]? = some v) (hdg : decode cc pc = .ok (.getfield 58, 3)) (kk : W p l e R s m args below meth c H locs cells slots Q (F0 m (pc + 3) ls (v :: rest))) : W p l e R s m args below meth c H locs cells slots Q (F0 m pc ls (.ref (ad k) :: rest)) :=
  b_get B hW inlX6 rfl 1 (by decide) (r6_in _ (List.mem_of_getElem? (i := 18) rfl)) rfl hk he hv hdg kk
theorem gfX6_65 {p : Program} {l : Launch} {e : Env} {R : Room} {s : State} {m : MethodId} {args : Array Value} {below : List Frame} {meth : Method} {c : Code} {H : Heap} {locs : List Loc} {cells slots : Nat} {Q : State → Prop} {cc : ByteArray} {pc nL : Nat} {ls : Array Slot} {rest : List Value} {D : va_G} {tys : List (ClassId × FieldType)} {ad : Nat → Nat} {N : Nat} {E : Nat → va_E} {k : Nat} {fs : List Value} {v : Value} (B : MB p c cc nL RX6 s m args D tys) (hT : TX s) (hW : hH D ad N E H) (hk : k < N) (he : E k = .inr (6, fs)) (hv : fs[2]? = some v) (hdg : decode cc pc = .ok (.getfield 65, 3)) (kk : W p l e R s m args below meth c H locs cells slots Q (F0 m (pc + 3) ls (v :: rest))) : W p l e R s m args below meth c H locs cells slots Q (F0 m pc ls (.ref (ad k) :: rest)) :=
  b_get B hW inlX6 rfl 2 (by decide) (r7_in _ (List.mem_of_getElem? (i := 19) rfl)) rfl hk he hv hdg kk
theorem gfX6_26 {p : Program} {l : Launch} {e : Env} {R : Room} {s : State} {m : MethodId} {args : Array Value} {below : List Frame} {meth : Method} {c : Code} {H : Heap} {locs : List Loc} {cells slots : Nat} {Q : State → Prop} {cc : ByteArray} {pc nL : Nat} {ls : Array Slot} {rest : List Value} {D : va_G} {tys : List (ClassId × FieldType)} {ad : Nat → Nat} {N : Nat} {E : Nat → va_E} {k : Nat} {fs : List Value} {v : Value} (B : MB p c cc nL RX6 s m args D tys) (hT : TX s) (hW : hH D ad N E H) (hk : k < N) (he : E k = .inr (6, fs)) (hv : fs[12]? = some v) (hdg : decode cc pc = .ok (.getfield 26, 3)) (kk : W p l e R s m args below meth c H locs cells slots Q (F0 m (pc + 3) ls (v :: rest))) : W p l e R s m args below meth c H locs cells slots Q (F0 m pc ls (.ref (ad k) :: rest)) :=
  b_get B hW inlX6 rfl 12 (by decide) (r5_in _ (List.mem_of_getElem? (i := 8) rfl)) rfl hk he hv hdg kk
theorem gfX6_7 {p : Program} {l : Launch} {e : Env} {R : Room} {s : State} {m : MethodId} {args : Array Value} {below : List Frame} {meth : Method} {c : Code} {H : Heap} {locs : List Loc} {cells slots : Nat} {Q : State → Prop} {cc : ByteArray} {pc nL : Nat} {ls : Array Slot} {rest : List Value} {D : va_G} {tys : List (ClassId × FieldType)} {ad : Nat → Nat} {N : Nat} {E : Nat → va_E} {k : Nat} {fs : List Value} {v : Value} (B : MB p c cc nL RX6 s m args D tys) (hT : TX s) (hW : hH D ad N E H) (hk : k < N) (he : E k = .inr (6, fs)) (hv : fs[4]? = some v) (hdg : decode cc pc = .ok (.getfield 7, 3)) (kk : W p l e R s m args below meth c H locs cells slots Q (F0 m (pc + 3) ls (v :: rest))) : W p l e R s m args below meth c H locs cells slots Q (F0 m pc ls (.ref (ad k) :: rest)) :=
  b_get B hW inlX6 rfl 4 (by decide) (r5_in _ (List.mem_of_getElem? (i := 3) rfl)) rfl hk he hv hdg kk
theorem pfX6_7 {p : Program} {l : Launch} {e : Env} {R : Room} {s : State} {m : MethodId} {args : Array Value} {below : List Frame} {meth : Method} {c : Code} {H : Heap} {locs : List Loc} {cells slots : Nat} {Q : State → Prop} {cc : ByteArray} {pc nL : Nat} {ls : Array Slot} {rest : List Value} {D : va_G} {tys : List (ClassId × FieldType)} {ad : Nat → Nat} {N : Nat} {E : Nat → va_E} {k : Nat} {fs : List Value} {v : Value} {A : Nat → Prop} {H0 : Heap} (B : MB p c cc nL RX6 s m args D tys) (hT : TX s) (hI : aI ad N) (hA : ∀ k : Nat, k < N → A (ad k)) (hW : hH D ad N E H) (hS : va_S A H0 H locs) (hk : k < N) (he : E k = .inr (6, fs)) (hl : 4 < fs.length) (hn : narrow .int v = v) (hfit : fits .int v = true) (hdg : decode cc pc = .ok (.putfield 7, 3)) (kk : ∀ (H1 : Heap) (locs1 : List Loc), hH D ad N (va_up E k (.inr (6, fs.set 4 v))) H1 → va_S A H0 H1 locs1 → W p l e R s m args below meth c H1 locs1 cells slots Q (F0 m (pc + 3) ls rest)) : W p l e R s m args below meth c H locs cells slots Q (F0 m pc ls (v :: .ref (ad k) :: rest)) :=
  b_put B hI hA hW hS inlX6 tyX6 tyX6_ok nmX6 rfl 4 (by decide) (r5_in _ (List.mem_of_getElem? (i := 3) rfl)) rfl rfl (by decide +kernel) hk he hl hn hfit hdg kk
theorem cwX6_71 {R : Room} {s : State} {args : Array Value} {rm : Room} (hts : ∀ w ∈ wsL_law, w.before args s = true) (hR : rm.frames + 1 ≤ R.frames ∧ 8 + (6 + 11) + rm.locals ≤ R.locals) : CWS R s args RX6 71 yX6_holds cX6_holds 6 none rm rm.cells rm.slots 5 :=
  va_cwS 5 hts (gi_S (r9_in _ (List.mem_of_getElem? (i := 12) rfl)) (r9_in _ (List.mem_of_getElem? (i := 13) rfl)) (r1_in _ (List.mem_of_getElem? (i := 5) rfl)) (r9_in _ (List.mem_of_getElem? (i := 14) rfl))) rfl rfl rfl (by decide +kernel) hR
theorem nI_inj0 {n : Nat} (hn : n < 2 ^ 31) (h : nI n = 0) : n = 0 := by
  rw [fa_eq, nI_toInt hn, i32_0] at h
  omega
set_option maxHeartbeats 4000000 in
set_option maxRecDepth 100000 in
theorem mm_in {l : Launch} {D : va_G} {tys : List (ClassId × FieldType)} {ad : Nat → Nat} {N : Nat} (hI : aI ad N) {E : Nat → va_E} (v lo hi : Int32)  (sz : Nat) : Met l yX6_in (Cond.code yX6_in cX6_in 3 (some .boolean) :: wsL_law) (rmk 0 0 0) (va_Pc [.int v, .int lo, .int hi] (PC D tys ad N E sz)) (Qi D ad N (fun r E1 => r = kIn v lo hi ∧ E1 = E) (cA ad N sz)) 0 0 (cA ad N sz) := by
  refine cm_of (own := RX6) (Qc := Qi D ad N (fun r E1 => r = kIn v lo hi ∧ E1 = E)) rfl (by decide +kernel) (Nat.le_of_ble_eq_true rfl) ?_ sz
  intro p e s m args below meth c ls Q B hT hX hW hr hlk hnm hl hS hA hQ
  have hx := B.1
  have hb := B.2.1
  have hl : lv_has ls 3 [(0, .int v), (1, .int lo), (2, .int hi)] := hl
  refine lv_iload_n hx hb dX6_in_0 rfl (lv_at hl 0 rfl) ?_
  refine lv_iload_n hx hb dX6_in_1 rfl (lv_at hl 1 rfl) ?_
  refine lv_icmp_lt (tgt := 14) hx hb dX6_in_2 (by decide) (fun c_2 => ?_) (fun c_2 => ?_)
  · skip
    refine lv_iconst (v := 0) hx hb dX6_in_14 (by decide) ?_
    exact e_n hQ B hr hlk hS (by first | rfl | decide) hW dX6_in_15 (Nat.le_of_ble_eq_true rfl) (Nat.le_of_ble_eq_true rfl) (⟨(if_pos c_2).symm, rfl⟩)
  · skip
    refine lv_iload_n hx hb dX6_in_5 rfl (lv_at hl 0 rfl) ?_
    refine lv_iload_n hx hb dX6_in_6 rfl (lv_at hl 2 rfl) ?_
    refine lv_icmp_gt (tgt := 14) hx hb dX6_in_7 (by decide) (fun c_7 => ?_) (fun c_7 => ?_)
    · skip
      refine lv_iconst (v := 0) hx hb dX6_in_14 (by decide) ?_
      exact e_n hQ B hr hlk hS (by first | rfl | decide) hW dX6_in_15 (Nat.le_of_ble_eq_true rfl) (Nat.le_of_ble_eq_true rfl) (⟨(by unfold kIn; rw [if_neg c_2, if_pos c_7]), rfl⟩)
    · skip
      refine lv_iconst (v := 1) hx hb dX6_in_10 (by decide) ?_
      refine lv_goto (tgt := 15) hx hb dX6_in_11 (by decide) ?_
      exact e_n hQ B hr hlk hS (by first | rfl | decide) hW dX6_in_15 (Nat.le_of_ble_eq_true rfl) (Nat.le_of_ble_eq_true rfl) (⟨(by unfold kIn; rw [if_neg c_2, if_neg c_7]), rfl⟩)
set_option maxHeartbeats 4000000 in
set_option maxRecDepth 100000 in
theorem mm_isDay {l : Launch} {D : va_G} {tys : List (ClassId × FieldType)} {ad : Nat → Nat} {N : Nat} (hI : aI ad N) {E : Nat → va_E} (x : Int32)  (sz : Nat) : Met l yX6_isDay (Cond.code yX6_isDay cX6_isDay 1 (some .boolean) :: wsL_law) (rmk 1 0 0) (va_Pc [.int x] (PC D tys ad N E sz)) (Qi D ad N (fun r E1 => r = cif (vp_in x 360) 1 0 ∧ E1 = E) (cA ad N sz)) 0 0 (cA ad N sz) := by
  refine cm_of (own := RX6) (Qc := Qi D ad N (fun r E1 => r = cif (vp_in x 360) 1 0 ∧ E1 = E)) rfl (by decide +kernel) (Nat.le_of_ble_eq_true rfl) ?_ sz
  intro p e s m args below meth c ls Q B hT hX hW hr hlk hnm hl hS hA hQ
  have hx := B.1
  have hb := B.2.1
  have hl : lv_has ls 1 [(0, .int x)] := hl
  refine lv_iload_n hx hb dX6_isDay_0 rfl (lv_at hl 0 rfl) ?_
  refine lv_iconst (v := 0) hx hb dX6_isDay_1 (by decide) ?_
  refine lv_sipush (v := (nI 359)) hx hb dX6_isDay_2 (by decide) ?_
  refine b_ci (b_runS B hT hX hW hS (As := [.int x, .int 0, .int (nI 359)]) (rest := []) (fun sz => mm_in hI x 0 (nI 359) sz) (cwX6_61 B.2.2.2.2.1 ⟨Nat.le_of_ble_eq_true rfl, Nat.le_of_ble_eq_true rfl⟩) rfl hl.1 (Nat.le_of_ble_eq_true rfl) dX6_isDay_5 ⟨Nat.le_of_ble_eq_true rfl, Nat.le_of_ble_eq_true rfl⟩) hS (fun r_5 E1 H locs hp_5 hW hS => ?_)
  obtain ⟨hr_, hE_⟩ := hp_5
  subst hr_
  have hW := hW.eq hE_
  exact e_n hQ B hr hlk hS (bo01 (kIn_01 _ _ _)) hW dX6_isDay_8 (Nat.le_of_ble_eq_true rfl) (Nat.le_of_ble_eq_true rfl) (⟨kIn_top (by omega), rfl⟩)
set_option maxHeartbeats 4000000 in
set_option maxRecDepth 100000 in
theorem mm_place {l : Launch} {D : va_G} {tys : List (ClassId × FieldType)} {ad : Nat → Nat} {N : Nat} (hI : aI ad N) {E : Nat → va_E} (x : Int32)  (sz : Nat) : Met l yX6_place (Cond.code yX6_place cX6_place 1 (some .int) :: wsL_law) (rmk 0 0 0) (va_Pc [.int x] (PC D tys ad N E sz)) (Qi D ad N (fun r E1 => r = kPl x ∧ E1 = E) (cA ad N sz)) 0 0 (cA ad N sz) := by
  refine cm_of (own := RX6) (Qc := Qi D ad N (fun r E1 => r = kPl x ∧ E1 = E)) rfl (by decide +kernel) (Nat.le_of_ble_eq_true rfl) ?_ sz
  intro p e s m args below meth c ls Q B hT hX hW hr hlk hnm hl hS hA hQ
  have hx := B.1
  have hb := B.2.1
  have hl : lv_has ls 1 [(0, .int x)] := hl
  refine lv_iload_n hx hb dX6_place_0 rfl (lv_at hl 0 rfl) ?_
  refine lv_bipush (v := 97) hx hb dX6_place_1 (by decide) ?_
  refine lv_icmp_ne (tgt := 10) hx hb dX6_place_3 (by decide) (fun c_3 => ?_) (fun c_3 => ?_)
  · skip
    refine lv_iload_n hx hb dX6_place_10 rfl (lv_at hl 0 rfl) ?_
    refine lv_bipush (v := 99) hx hb dX6_place_11 (by decide) ?_
    refine lv_icmp_ne (tgt := 20) hx hb dX6_place_13 (by decide) (fun c_13 => ?_) (fun c_13 => ?_)
    · skip
      refine lv_iload_n hx hb dX6_place_20 rfl (lv_at hl 0 rfl) ?_
      refine lv_bipush (v := 102) hx hb dX6_place_21 (by decide) ?_
      refine lv_icmp_ne (tgt := 30) hx hb dX6_place_23 (by decide) (fun c_23 => ?_) (fun c_23 => ?_)
      · skip
        refine lv_iload_n hx hb dX6_place_30 rfl (lv_at hl 0 rfl) ?_
        refine lv_bipush (v := 114) hx hb dX6_place_31 (by decide) ?_
        refine lv_icmp_ne (tgt := 40) hx hb dX6_place_33 (by decide) (fun c_33 => ?_) (fun c_33 => ?_)
        · skip
          refine lv_iload_n hx hb dX6_place_40 rfl (lv_at hl 0 rfl) ?_
          refine lv_bipush (v := 116) hx hb dX6_place_41 (by decide) ?_
          refine lv_icmp_ne (tgt := 50) hx hb dX6_place_43 (by decide) (fun c_43 => ?_) (fun c_43 => ?_)
          · skip
            refine lv_iload_n hx hb dX6_place_50 rfl (lv_at hl 0 rfl) ?_
            refine lv_bipush (v := 112) hx hb dX6_place_51 (by decide) ?_
            refine lv_icmp_ne (tgt := 60) hx hb dX6_place_53 (by decide) (fun c_53 => ?_) (fun c_53 => ?_)
            · skip
              refine lv_iload_n hx hb dX6_place_60 rfl (lv_at hl 0 rfl) ?_
              refine lv_bipush (v := 109) hx hb dX6_place_61 (by decide) ?_
              refine lv_icmp_ne (tgt := 71) hx hb dX6_place_63 (by decide) (fun c_63 => ?_) (fun c_63 => ?_)
              · skip
                refine lv_iconst (v := (-1)) hx hb dX6_place_71 (by decide) ?_
                exact e_i hQ B hr hlk hS hW dX6_place_72 (Nat.le_of_ble_eq_true rfl) (Nat.le_of_ble_eq_true rfl) (by have e : rIx x = 7 := (by unfold rIx; rw [if_neg c_3, if_neg c_13, if_neg c_23, if_neg c_33, if_neg c_43, if_neg c_53, if_neg c_63]); exact ⟨by unfold kPl; rw [e]; exact (cif_f (by decide)).symm, rfl⟩)
              · skip
                refine lv_bipush (v := 6) hx hb dX6_place_66 (by decide) ?_
                refine lv_goto (tgt := 72) hx hb dX6_place_68 (by decide) ?_
                exact e_i hQ B hr hlk hS hW dX6_place_72 (Nat.le_of_ble_eq_true rfl) (Nat.le_of_ble_eq_true rfl) (by have e : rIx x = 6 := (by unfold rIx; rw [if_neg c_3, if_neg c_13, if_neg c_23, if_neg c_33, if_neg c_43, if_neg c_53, if_pos c_63]); exact ⟨by unfold kPl; rw [e]; exact (cif_t (by decide)).symm, rfl⟩)
            · skip
              refine lv_iconst (v := 5) hx hb dX6_place_56 (by decide) ?_
              refine lv_goto (tgt := 72) hx hb dX6_place_57 (by decide) ?_
              exact e_i hQ B hr hlk hS hW dX6_place_72 (Nat.le_of_ble_eq_true rfl) (Nat.le_of_ble_eq_true rfl) (by have e : rIx x = 5 := (by unfold rIx; rw [if_neg c_3, if_neg c_13, if_neg c_23, if_neg c_33, if_neg c_43, if_pos c_53]); exact ⟨by unfold kPl; rw [e]; exact (cif_t (by decide)).symm, rfl⟩)
          · skip
            refine lv_iconst (v := 4) hx hb dX6_place_46 (by decide) ?_
            refine lv_goto (tgt := 72) hx hb dX6_place_47 (by decide) ?_
            exact e_i hQ B hr hlk hS hW dX6_place_72 (Nat.le_of_ble_eq_true rfl) (Nat.le_of_ble_eq_true rfl) (by have e : rIx x = 4 := (by unfold rIx; rw [if_neg c_3, if_neg c_13, if_neg c_23, if_neg c_33, if_pos c_43]); exact ⟨by unfold kPl; rw [e]; exact (cif_t (by decide)).symm, rfl⟩)
        · skip
          refine lv_iconst (v := 3) hx hb dX6_place_36 (by decide) ?_
          refine lv_goto (tgt := 72) hx hb dX6_place_37 (by decide) ?_
          exact e_i hQ B hr hlk hS hW dX6_place_72 (Nat.le_of_ble_eq_true rfl) (Nat.le_of_ble_eq_true rfl) (by have e : rIx x = 3 := (by unfold rIx; rw [if_neg c_3, if_neg c_13, if_neg c_23, if_pos c_33]); exact ⟨by unfold kPl; rw [e]; exact (cif_t (by decide)).symm, rfl⟩)
      · skip
        refine lv_iconst (v := 2) hx hb dX6_place_26 (by decide) ?_
        refine lv_goto (tgt := 72) hx hb dX6_place_27 (by decide) ?_
        exact e_i hQ B hr hlk hS hW dX6_place_72 (Nat.le_of_ble_eq_true rfl) (Nat.le_of_ble_eq_true rfl) (by have e : rIx x = 2 := (by unfold rIx; rw [if_neg c_3, if_neg c_13, if_pos c_23]); exact ⟨by unfold kPl; rw [e]; exact (cif_t (by decide)).symm, rfl⟩)
    · skip
      refine lv_iconst (v := 1) hx hb dX6_place_16 (by decide) ?_
      refine lv_goto (tgt := 72) hx hb dX6_place_17 (by decide) ?_
      exact e_i hQ B hr hlk hS hW dX6_place_72 (Nat.le_of_ble_eq_true rfl) (Nat.le_of_ble_eq_true rfl) (by have e : rIx x = 1 := (by unfold rIx; rw [if_neg c_3, if_pos c_13]); exact ⟨by unfold kPl; rw [e]; exact (cif_t (by decide)).symm, rfl⟩)
  · skip
    refine lv_iconst (v := 0) hx hb dX6_place_6 (by decide) ?_
    refine lv_goto (tgt := 72) hx hb dX6_place_7 (by decide) ?_
    exact e_i hQ B hr hlk hS hW dX6_place_72 (Nat.le_of_ble_eq_true rfl) (Nat.le_of_ble_eq_true rfl) (by have e : rIx x = 0 := (by unfold rIx; rw [if_pos c_3]); exact ⟨by unfold kPl; rw [e]; exact (cif_t (by decide)).symm, rfl⟩)
theorem gr_eq {r : Nat} (h : r < 7) : ruGr r = if nI r < 4 then 99 else if nI r = 5 then 100 else 999 := by
  have a : r = 0 ∨ r = 1 ∨ r = 2 ∨ r = 3 ∨ r = 4 ∨ r = 5 ∨ r = 6 := by omega
  rcases a with rfl | rfl | rfl | rfl | rfl | rfl | rfl <;> decide
set_option maxHeartbeats 4000000 in
set_option maxRecDepth 100000 in
theorem mm_greatest {l : Launch} {D : va_G} {tys : List (ClassId × FieldType)} {ad : Nat → Nat} {N : Nat} (hI : aI ad N) {E : Nat → va_E} (r : Nat) (hr7 : r < 7) (sz : Nat) : Met l yX6_greatest (Cond.code yX6_greatest cX6_greatest 1 (some .int) :: wsL_law) (rmk 0 0 0) (va_Pc [.int (nI r)] (PC D tys ad N E sz)) (Qi D ad N (fun r0 E1 => r0 = ruGr r ∧ E1 = E) (cA ad N sz)) 0 0 (cA ad N sz) := by
  refine cm_of (own := RX6) (Qc := Qi D ad N (fun r0 E1 => r0 = ruGr r ∧ E1 = E)) rfl (by decide +kernel) (Nat.le_of_ble_eq_true rfl) ?_ sz
  intro p e s m args below meth c ls Q B hT hX hW hr hlk hnm hl hS hA hQ
  have hx := B.1
  have hb := B.2.1
  have hl : lv_has ls 1 [(0, .int (nI r))] := hl
  refine lv_iload_n hx hb dX6_greatest_0 rfl (lv_at hl 0 rfl) ?_
  refine lv_iconst (v := 4) hx hb dX6_greatest_1 (by decide) ?_
  refine lv_icmp_ge (tgt := 10) hx hb dX6_greatest_2 (by decide) (fun c_2 => ?_) (fun c_2 => ?_)
  · skip
    refine lv_iload_n hx hb dX6_greatest_10 rfl (lv_at hl 0 rfl) ?_
    refine lv_iconst (v := 5) hx hb dX6_greatest_11 (by decide) ?_
    refine lv_icmp_ne (tgt := 20) hx hb dX6_greatest_12 (by decide) (fun c_12 => ?_) (fun c_12 => ?_)
    · skip
      refine lv_sipush (v := 999) hx hb dX6_greatest_20 (by decide) ?_
      exact e_i hQ B hr hlk hS hW dX6_greatest_23 (Nat.le_of_ble_eq_true rfl) (Nat.le_of_ble_eq_true rfl) (⟨by rw [gr_eq hr7]; rw [if_neg (Int32.not_lt.mpr c_2), if_neg c_12], rfl⟩)
    · skip
      refine lv_bipush (v := 100) hx hb dX6_greatest_15 (by decide) ?_
      refine lv_goto (tgt := 23) hx hb dX6_greatest_17 (by decide) ?_
      exact e_i hQ B hr hlk hS hW dX6_greatest_23 (Nat.le_of_ble_eq_true rfl) (Nat.le_of_ble_eq_true rfl) (⟨by rw [gr_eq hr7]; rw [if_neg (Int32.not_lt.mpr c_2), if_pos c_12], rfl⟩)
  · skip
    refine lv_bipush (v := 99) hx hb dX6_greatest_5 (by decide) ?_
    refine lv_goto (tgt := 23) hx hb dX6_greatest_7 (by decide) ?_
    exact e_i hQ B hr hlk hS hW dX6_greatest_23 (Nat.le_of_ble_eq_true rfl) (Nat.le_of_ble_eq_true rfl) (⟨by rw [gr_eq hr7]; exact (if_pos (Int32.not_le.mp c_2)).symm, rfl⟩)
set_option maxHeartbeats 4000000 in
set_option maxRecDepth 100000 in
theorem mm_lesser {l : Launch} {D : va_G} {tys : List (ClassId × FieldType)} {ad : Nat → Nat} {N : Nat} (hI : aI ad N) {E : Nat → va_E} (x y : Int32)  (sz : Nat) : Met l yX6_lesser (Cond.code yX6_lesser cX6_lesser 2 (some .int) :: wsL_law) (rmk 0 0 0) (va_Pc [.int x, .int y] (PC D tys ad N E sz)) (Qi D ad N (fun r E1 => r = imin x y ∧ E1 = E) (cA ad N sz)) 0 0 (cA ad N sz) := by
  refine cm_of (own := RX6) (Qc := Qi D ad N (fun r E1 => r = imin x y ∧ E1 = E)) rfl (by decide +kernel) (Nat.le_of_ble_eq_true rfl) ?_ sz
  intro p e s m args below meth c ls Q B hT hX hW hr hlk hnm hl hS hA hQ
  have hx := B.1
  have hb := B.2.1
  have hl : lv_has ls 2 [(0, .int x), (1, .int y)] := hl
  refine lv_iload_n hx hb dX6_lesser_0 rfl (lv_at hl 0 rfl) ?_
  refine lv_iload_n hx hb dX6_lesser_1 rfl (lv_at hl 1 rfl) ?_
  refine lv_icmp_ge (tgt := 9) hx hb dX6_lesser_2 (by decide) (fun c_2 => ?_) (fun c_2 => ?_)
  · skip
    refine lv_iload_n hx hb dX6_lesser_9 rfl (lv_at hl 1 rfl) ?_
    exact e_i hQ B hr hlk hS hW dX6_lesser_10 (Nat.le_of_ble_eq_true rfl) (Nat.le_of_ble_eq_true rfl) (⟨by rw [imin_c]; exact (if_neg (Int32.not_lt.mpr c_2)).symm, rfl⟩)
  · skip
    refine lv_iload_n hx hb dX6_lesser_5 rfl (lv_at hl 0 rfl) ?_
    refine lv_goto (tgt := 10) hx hb dX6_lesser_6 (by decide) ?_
    exact e_i hQ B hr hlk hS hW dX6_lesser_10 (Nat.le_of_ble_eq_true rfl) (Nat.le_of_ble_eq_true rfl) (⟨by rw [imin_c]; exact (if_pos (Int32.not_le.mp c_2)).symm, rfl⟩)
set_option maxHeartbeats 4000000 in
set_option maxRecDepth 100000 in
theorem mm_fails {l : Launch} {D : va_G} {tys : List (ClassId × FieldType)} {ad : Nat → Nat} (hI : aI ad 13) {cI cZ : ClassId} (th : Int32) (nP nH rN : Nat) (nf pn : Int32) (sp sk : Int64) (ag : Nat → Int32) (V T : Nat → Nat → Int32) (pd py : Nat → Nat → Int32) (du : Nat → Int32) (mA mC mH mG mS mI mT mP : Int32) (x : Int32) (hti : tys[0]? = some (cI, .int)) (htz : tys[1]? = some (cZ, .boolean))  (sz : Nat) : Met l yX6_fails (Cond.code yX6_fails cX6_fails 2 (some .int) :: wsL_law) (rmk 0 0 0) (va_Pc [.ref (ad 0), .int x] (PC D tys ad 13 (mE cI cZ ad th nP nH rN nf pn sp sk ag (RV V) (RV T) (FL pd) (FL py) du mA mC mH mG mS mI mT mP) sz)) (Qi D ad 13 (fun r E1 => r = 0 ∧ E1 = mE cI cZ ad x nP nH rN nf pn sp sk ag (RV V) (RV T) (FL pd) (FL py) du mA mC mH mG mS mI mT mP) (cA ad 13 sz)) 0 0 (cA ad 13 sz) := by
  refine cm_of (own := RX6) (Qc := Qi D ad 13 (fun r E1 => r = 0 ∧ E1 = mE cI cZ ad x nP nH rN nf pn sp sk ag (RV V) (RV T) (FL pd) (FL py) du mA mC mH mG mS mI mT mP)) rfl (by decide +kernel) (Nat.le_of_ble_eq_true rfl) ?_ sz
  intro p e s m args below meth c ls Q B hT hX hW hr hlk hnm hl hS hA hQ
  have hx := B.1
  have hb := B.2.1
  have hl : lv_has ls 2 [(0, .ref (ad 0)), (1, .int x)] := hl
  refine lv_aload_n hx hb dX6_fails_0 rfl (lv_at hl 0 rfl) ?_
  refine lv_iload_n hx hb dX6_fails_1 rfl (lv_at hl 1 rfl) ?_
  refine pfX6_55 B hT hI hA hW hS (by decide) mE_0 (Nat.le_of_ble_eq_true rfl) rfl (by first | rfl | decide) dX6_fails_2 (fun H locs hW hS => ?_)
  have hW := hW.eq (E' := mE cI cZ ad x nP nH rN nf pn sp sk ag (RV V) (RV T) (FL pd) (FL py) du mA mC mH mG mS mI mT mP) (mE_u0 _ _ _ _ _ _ _ _ _ _ _ _ _ _ _ _)
  refine lv_iconst (v := 0) hx hb dX6_fails_5 (by decide) ?_
  exact e_i hQ B hr hlk hS hW dX6_fails_6 (Nat.le_of_ble_eq_true rfl) (Nat.le_of_ble_eq_true rfl) (⟨rfl, rfl⟩)
set_option maxHeartbeats 4000000 in
set_option maxRecDepth 100000 in
theorem mm_thrown {l : Launch} {D : va_G} {tys : List (ClassId × FieldType)} {ad : Nat → Nat} (hI : aI ad 13) {cI cZ : ClassId} (th : Int32) (nP nH rN : Nat) (nf pn : Int32) (sp sk : Int64) (ag : Nat → Int32) (V T : Nat → Nat → Int32) (pd py : Nat → Nat → Int32) (du : Nat → Int32) (mA mC mH mG mS mI mT mP : Int32) (hti : tys[0]? = some (cI, .int)) (htz : tys[1]? = some (cZ, .boolean))  (sz : Nat) : Met l yX6_thrown (Cond.code yX6_thrown cX6_thrown 1 (some .int) :: wsL_law) (rmk 0 0 0) (va_Pc [.ref (ad 0)] (PC D tys ad 13 (mE cI cZ ad th nP nH rN nf pn sp sk ag (RV V) (RV T) (FL pd) (FL py) du mA mC mH mG mS mI mT mP) sz)) (Qi D ad 13 (fun r E1 => r = th ∧ E1 = mE cI cZ ad th nP nH rN nf pn sp sk ag (RV V) (RV T) (FL pd) (FL py) du mA mC mH mG mS mI mT mP) (cA ad 13 sz)) 0 0 (cA ad 13 sz) := by
  refine cm_of (own := RX6) (Qc := Qi D ad 13 (fun r E1 => r = th ∧ E1 = mE cI cZ ad th nP nH rN nf pn sp sk ag (RV V) (RV T) (FL pd) (FL py) du mA mC mH mG mS mI mT mP)) rfl (by decide +kernel) (Nat.le_of_ble_eq_true rfl) ?_ sz
  intro p e s m args below meth c ls Q B hT hX hW hr hlk hnm hl hS hA hQ
  have hx := B.1
  have hb := B.2.1
  have hl : lv_has ls 1 [(0, .ref (ad 0))] := hl
  refine lv_aload_n hx hb dX6_thrown_0 rfl (lv_at hl 0 rfl) ?_
  refine gfX6_55 B hT hW (by decide) mE_0 rfl dX6_thrown_1 ?_
  exact e_i hQ B hr hlk hS hW dX6_thrown_4 (Nat.le_of_ble_eq_true rfl) (Nat.le_of_ble_eq_true rfl) (⟨rfl, rfl⟩)
set_option maxHeartbeats 4000000 in
set_option maxRecDepth 100000 in
theorem mm_isPerson {l : Launch} {D : va_G} {tys : List (ClassId × FieldType)} {ad : Nat → Nat} (hI : aI ad 13) {cI cZ : ClassId} (th : Int32) (nP nH rN : Nat) (nf pn : Int32) (sp sk : Int64) (ag : Nat → Int32) (V T : Nat → Nat → Int32) (pd py : Nat → Nat → Int32) (du : Nat → Int32) (mA mC mH mG mS mI mT mP : Int32) (x : Int32) (hti : tys[0]? = some (cI, .int)) (htz : tys[1]? = some (cZ, .boolean)) (hn9 : nP < 2 ^ 31) (sz : Nat) : Met l yX6_isPerson (Cond.code yX6_isPerson cX6_isPerson 2 (some .boolean) :: wsL_law) (rmk 1 0 0) (va_Pc [.ref (ad 0), .int x] (PC D tys ad 13 (mE cI cZ ad th nP nH rN nf pn sp sk ag (RV V) (RV T) (FL pd) (FL py) du mA mC mH mG mS mI mT mP) sz)) (Qi D ad 13 (fun r E1 => r = cif (vp_in x nP) 1 0 ∧ E1 = mE cI cZ ad th nP nH rN nf pn sp sk ag (RV V) (RV T) (FL pd) (FL py) du mA mC mH mG mS mI mT mP) (cA ad 13 sz)) 0 0 (cA ad 13 sz) := by
  refine cm_of (own := RX6) (Qc := Qi D ad 13 (fun r E1 => r = cif (vp_in x nP) 1 0 ∧ E1 = mE cI cZ ad th nP nH rN nf pn sp sk ag (RV V) (RV T) (FL pd) (FL py) du mA mC mH mG mS mI mT mP)) rfl (by decide +kernel) (Nat.le_of_ble_eq_true rfl) ?_ sz
  intro p e s m args below meth c ls Q B hT hX hW hr hlk hnm hl hS hA hQ
  have hx := B.1
  have hb := B.2.1
  have hl : lv_has ls 2 [(0, .ref (ad 0)), (1, .int x)] := hl
  refine lv_iload_n hx hb dX6_isPerson_0 rfl (lv_at hl 1 rfl) ?_
  refine lv_iconst (v := 0) hx hb dX6_isPerson_1 (by decide) ?_
  refine lv_aload_n hx hb dX6_isPerson_2 rfl (lv_at hl 0 rfl) ?_
  refine gfX6_58 B hT hW (by decide) mE_0 rfl dX6_isPerson_3 ?_
  refine lv_iconst (v := 1) hx hb dX6_isPerson_6 (by decide) ?_
  refine lv_isub hx hb dX6_isPerson_7 ?_
  refine b_ci (b_runS B hT hX hW hS (As := [.int x, .int 0, .int ((nI nP) - 1)]) (rest := []) (fun sz => mm_in hI x 0 ((nI nP) - 1) sz) (cwX6_61 B.2.2.2.2.1 ⟨Nat.le_of_ble_eq_true rfl, Nat.le_of_ble_eq_true rfl⟩) rfl hl.1 (Nat.le_of_ble_eq_true rfl) dX6_isPerson_8 ⟨Nat.le_of_ble_eq_true rfl, Nat.le_of_ble_eq_true rfl⟩) hS (fun r_8 E1 H locs hp_8 hW hS => ?_)
  obtain ⟨hr_, hE_⟩ := hp_8
  subst hr_
  have hW := hW.eq hE_
  exact e_n hQ B hr hlk hS (bo01 (kIn_01 _ _ _)) hW dX6_isPerson_11 (Nat.le_of_ble_eq_true rfl) (Nat.le_of_ble_eq_true rfl) (⟨kIn_sub hn9, rfl⟩)
set_option maxHeartbeats 4000000 in
set_option maxRecDepth 100000 in
theorem mm_isHouse {l : Launch} {D : va_G} {tys : List (ClassId × FieldType)} {ad : Nat → Nat} (hI : aI ad 13) {cI cZ : ClassId} (th : Int32) (nP nH rN : Nat) (nf pn : Int32) (sp sk : Int64) (ag : Nat → Int32) (V T : Nat → Nat → Int32) (pd py : Nat → Nat → Int32) (du : Nat → Int32) (mA mC mH mG mS mI mT mP : Int32) (x : Int32) (hti : tys[0]? = some (cI, .int)) (htz : tys[1]? = some (cZ, .boolean)) (hn9 : nH < 2 ^ 31) (sz : Nat) : Met l yX6_isHousehold (Cond.code yX6_isHousehold cX6_isHousehold 2 (some .boolean) :: wsL_law) (rmk 1 0 0) (va_Pc [.ref (ad 0), .int x] (PC D tys ad 13 (mE cI cZ ad th nP nH rN nf pn sp sk ag (RV V) (RV T) (FL pd) (FL py) du mA mC mH mG mS mI mT mP) sz)) (Qi D ad 13 (fun r E1 => r = cif (vp_in x nH) 1 0 ∧ E1 = mE cI cZ ad th nP nH rN nf pn sp sk ag (RV V) (RV T) (FL pd) (FL py) du mA mC mH mG mS mI mT mP) (cA ad 13 sz)) 0 0 (cA ad 13 sz) := by
  refine cm_of (own := RX6) (Qc := Qi D ad 13 (fun r E1 => r = cif (vp_in x nH) 1 0 ∧ E1 = mE cI cZ ad th nP nH rN nf pn sp sk ag (RV V) (RV T) (FL pd) (FL py) du mA mC mH mG mS mI mT mP)) rfl (by decide +kernel) (Nat.le_of_ble_eq_true rfl) ?_ sz
  intro p e s m args below meth c ls Q B hT hX hW hr hlk hnm hl hS hA hQ
  have hx := B.1
  have hb := B.2.1
  have hl : lv_has ls 2 [(0, .ref (ad 0)), (1, .int x)] := hl
  refine lv_iload_n hx hb dX6_isHousehold_0 rfl (lv_at hl 1 rfl) ?_
  refine lv_iconst (v := 0) hx hb dX6_isHousehold_1 (by decide) ?_
  refine lv_aload_n hx hb dX6_isHousehold_2 rfl (lv_at hl 0 rfl) ?_
  refine gfX6_65 B hT hW (by decide) mE_0 rfl dX6_isHousehold_3 ?_
  refine lv_iconst (v := 1) hx hb dX6_isHousehold_6 (by decide) ?_
  refine lv_isub hx hb dX6_isHousehold_7 ?_
  refine b_ci (b_runS B hT hX hW hS (As := [.int x, .int 0, .int ((nI nH) - 1)]) (rest := []) (fun sz => mm_in hI x 0 ((nI nH) - 1) sz) (cwX6_61 B.2.2.2.2.1 ⟨Nat.le_of_ble_eq_true rfl, Nat.le_of_ble_eq_true rfl⟩) rfl hl.1 (Nat.le_of_ble_eq_true rfl) dX6_isHousehold_8 ⟨Nat.le_of_ble_eq_true rfl, Nat.le_of_ble_eq_true rfl⟩) hS (fun r_8 E1 H locs hp_8 hW hS => ?_)
  obtain ⟨hr_, hE_⟩ := hp_8
  subst hr_
  have hW := hW.eq hE_
  exact e_n hQ B hr hlk hS (bo01 (kIn_01 _ _ _)) hW dX6_isHousehold_11 (Nat.le_of_ble_eq_true rfl) (Nat.le_of_ble_eq_true rfl) (⟨kIn_sub hn9, rfl⟩)
set_option maxHeartbeats 4000000 in
set_option maxRecDepth 100000 in
theorem mm_at {l : Launch} {D : va_G} {tys : List (ClassId × FieldType)} {ad : Nat → Nat} (hI : aI ad 13) {cI cZ : ClassId} (th : Int32) (nP nH rN : Nat) (nf pn : Int32) (sp sk : Int64) (ag : Nat → Int32) (V T : Nat → Nat → Int32) (pd py : Nat → Nat → Int32) (du : Nat → Int32) (mA mC mH mG mS mI mT mP : Int32) (r d : Nat) (hti : tys[0]? = some (cI, .int)) (htz : tys[1]? = some (cZ, .boolean)) (hr7 : r < 7) (hd : d < 360) (sz : Nat) : Met l yX6_at (Cond.code yX6_at cX6_at 3 (some .int) :: wsL_law) (rmk 0 0 0) (va_Pc [.ref (ad 0), .int (nI r), .int (nI d)] (PC D tys ad 13 (mE cI cZ ad th nP nH rN nf pn sp sk ag (RV V) (RV T) (FL pd) (FL py) du mA mC mH mG mS mI mT mP) sz)) (Qi D ad 13 (fun r0 E1 => r0 = V (20 + r) d ∧ E1 = mE cI cZ ad th nP nH rN nf pn sp sk ag (RV V) (RV T) (FL pd) (FL py) du mA mC mH mG mS mI mT mP) (cA ad 13 sz)) 0 0 (cA ad 13 sz) := by
  refine cm_of (own := RX6) (Qc := Qi D ad 13 (fun r0 E1 => r0 = V (20 + r) d ∧ E1 = mE cI cZ ad th nP nH rN nf pn sp sk ag (RV V) (RV T) (FL pd) (FL py) du mA mC mH mG mS mI mT mP)) rfl (by decide +kernel) (Nat.le_of_ble_eq_true rfl) ?_ sz
  intro p e s m args below meth c ls Q B hT hX hW hr hlk hnm hl hS hA hQ
  have hx := B.1
  have hb := B.2.1
  have hl : lv_has ls 3 [(0, .ref (ad 0)), (1, .int (nI r)), (2, .int (nI d))] := hl
  refine lv_aload_n hx hb dX6_at_0 rfl (lv_at hl 0 rfl) ?_
  refine gfX6_26 B hT hW (by decide) mE_0 rfl dX6_at_1 ?_
  refine lv_sipush (v := (nI 360)) hx hb dX6_at_4 (by decide) ?_
  refine lv_iload_n hx hb dX6_at_7 rfl (lv_at hl 1 rfl) ?_
  refine lv_imul hx hb dX6_at_8 ?_
  refine b_top (y := nI (360 * r)) (pk_mul _ _) ?_
  refine lv_iload_n hx hb dX6_at_9 rfl (lv_at hl 2 rfl) ?_
  refine lv_iadd hx hb dX6_at_10 ?_
  refine b_top (y := nI (360 * r + d)) (nI_add _ _) ?_
  refine b_iald B hW hti (j := (360 * r + d)) (by decide) mE_5 (vp_in_nI (by omega) (Nat.le_of_ble_eq_true rfl)) (nI_clamp (by omega)) dX6_at_11 ?_
  refine b_top (y := V (20 + r) d) (RV_at (j := 3) (i := r) (d := d) (by omega) (show 360 * r + 360 ≤ 2520 by omega) (by omega) rfl) ?_
  exact e_i hQ B hr hlk hS hW dX6_at_12 (Nat.le_of_ble_eq_true rfl) (Nat.le_of_ble_eq_true rfl) (⟨rfl, rfl⟩)
set_option maxHeartbeats 4000000 in
set_option maxRecDepth 100000 in
theorem mm_holds {l : Launch} {D : va_G} {tys : List (ClassId × FieldType)} {ad : Nat → Nat} (hI : aI ad 13) {cI cZ : ClassId} (th : Int32) (nP nH rN : Nat) (nf pn : Int32) (sp sk : Int64) (ag : Nat → Int32) (V T : Nat → Nat → Int32) (pd py : Nat → Nat → Int32) (du : Nat → Int32) (mA mC mH mG mS mI mT mP : Int32) (j i d t : Nat) (v : Int32) (hti : tys[0]? = some (cI, .int)) (htz : tys[1]? = some (cZ, .boolean)) (hj : j < 4) (hi : 360 * i + 360 ≤ nR j) (hd : d < 360) (ht : offR j + i = t) (sz : Nat) : Met l yX6_holds (Cond.code yX6_holds cX6_holds 6 none :: wsL_law) (rmk 0 0 0) (va_Pc [.ref (ad (2 + j)), .ref (ad (6 + j)), .int (nI (360 * i)), .int (nI d), .int v] (PC D tys ad 13 (mE cI cZ ad th nP nH rN nf pn sp sk ag (RV V) (RV T) (FL pd) (FL py) du mA mC mH mG mS mI mT mP) sz)) (Qv D ad 13 (fun E1 => E1 = mE cI cZ ad th nP nH rN nf pn sp sk ag (RV (upd2 V t (hold (V t) (T t) d v))) (RV T) (FL pd) (FL py) du mA mC mH mG mS mI mT mP) (cA ad 13 sz)) 0 0 (cA ad 13 sz) := by
  refine cm_of (own := RX6) (Qc := Qv D ad 13 (fun E1 => E1 = mE cI cZ ad th nP nH rN nf pn sp sk ag (RV (upd2 V t (hold (V t) (T t) d v))) (RV T) (FL pd) (FL py) du mA mC mH mG mS mI mT mP)) rfl (by decide +kernel) (Nat.le_of_ble_eq_true rfl) ?_ sz
  intro p e s m args below meth c ls Q B hT hX hW hr hlk hnm hl hS hA hQ
  have hx := B.1
  have hb := B.2.1
  have hl : lv_has ls 6 [(0, .ref (ad (2 + j))), (1, .ref (ad (6 + j))), (2, .int (nI (360 * i))), (3, .int (nI d)), (4, .int v)] := hl
  have hnR := nR_le j
  have L_12 : ∀ (n_ : Nat) (d1 : Nat) (f1 : Nat → Int32), (hd1 : d1 ≤ 360) → (hn : 360 < n_ + d1) → (hf1 : hF (T t) v (360 - d1) d1 f1 = hold (V t) (T t) d v) → ∀ (H : Heap) (locs : List Loc) (ls : Array Slot), hH D ad 13 (mE cI cZ ad th nP nH rN nf pn sp sk ag (RV (upd2 V t f1)) (RV T) (FL pd) (FL py) du mA mC mH mG mS mI mT mP) H → va_S (cA ad 13 s.heap.size) s.heap H locs → lv_has ls 6 [(0, .ref (ad (2 + j))), (1, .ref (ad (6 + j))), (2, .int (nI (360 * i))), (3, .int (nI d)), (4, .int v), (5, .int (nI d1))] → W p l e (rmk 0 0 0) s m args below meth c H locs 0 0 Q (F0 m 12 ls []) := by
    intro n_
    induction n_ with
    | zero =>
      intro d1 f1 hd1 hn hf1
      omega
    | succ n_ ih =>
      intro d1 f1 hd1 hn hf1 H locs ls hW hS hl
      refine lv_iload hx hb dX6_holds_12 (lv_at hl 5 rfl) ?_
      refine lv_sipush (v := (nI 360)) hx hb dX6_holds_14 (by decide) ?_
      refine lv_icmp_ge (tgt := 43) hx hb dX6_holds_17 (by decide) (fun c_17 => ?_) (fun c_17 => ?_)
      · skip
        exact e_v hQ B hr hlk hS hW dX6_holds_43 (Nat.le_of_ble_eq_true rfl) (Nat.le_of_ble_eq_true rfl) (by rw [← hf1, hF_0 ((nI_leI (by omega) (by omega)).mp c_17)])
      · skip
        have q17 : d1 < 360 := Nat.lt_of_not_le (fun q => c_17 ((nI_leI (by omega) (by omega)).mpr q))
        refine lv_aload_n hx hb dX6_holds_20 rfl (lv_at hl 1 rfl) ?_
        refine lv_iload_n hx hb dX6_holds_21 rfl (lv_at hl 2 rfl) ?_
        refine lv_iload hx hb dX6_holds_22 (lv_at hl 5 rfl) ?_
        refine lv_iadd hx hb dX6_holds_24 ?_
        refine b_top (y := nI (360 * i + d1)) (nI_add _ _) ?_
        refine b_zald B hW htz (j := (360 * i + d1)) (by omega) (mE_is (by omega)) (vp_in_nI (by omega) (nR_lt _)) (nI_clamp (by omega)) dX6_holds_25 ?_
        refine b_top (y := T t d1) (RV_at (j := j) (i := i) (d := d1) (by omega) hi (by omega) ht) ?_
        refine lv_if_ne (tgt := 43) hx hb dX6_holds_26 (by decide) (fun c_26 => ?_) (fun c_26 => ?_)
        · skip
          exact e_v hQ B hr hlk hS hW dX6_holds_43 (Nat.le_of_ble_eq_true rfl) (Nat.le_of_ble_eq_true rfl) (by rw [← hf1, hF_n q17 c_26])
        · skip
          have c0 : T t d1 = 0 := c_26
          refine lv_aload_n hx hb dX6_holds_29 rfl (lv_at hl 0 rfl) ?_
          refine lv_iload_n hx hb dX6_holds_30 rfl (lv_at hl 2 rfl) ?_
          refine lv_iload hx hb dX6_holds_31 (lv_at hl 5 rfl) ?_
          refine lv_iadd hx hb dX6_holds_33 ?_
          refine b_top (y := nI (360 * i + d1)) (nI_add _ _) ?_
          refine lv_iload hx hb dX6_holds_34 (lv_at hl 4 rfl) ?_
          refine b_iast B hI hA hW hS hti (j := (360 * i + d1)) (by omega) (mE_row (by omega)) (vp_in_nI (by omega) (nR_lt _)) (nI_clamp (by omega)) dX6_holds_36 (fun H locs hW hS => ?_)
          have hW := hW.eq (E' := mE cI cZ ad th nP nH rN nf pn sp sk ag (upd2 (RV (upd2 V t f1)) j (upd ((RV (upd2 V t f1)) j) (360 * i + d1) v)) (RV T) (FL pd) (FL py) du mA mC mH mG mS mI mT mP) (mE_uR (by omega) _)
          have hW := hW.eq (E' := mE cI cZ ad th nP nH rN nf pn sp sk ag (RV (upd2 V t (upd f1 d1 v))) (RV T) (FL pd) (FL py) du mA mC mH mG mS mI mT mP) (by rw [RV_up2 hj hi q17 ht])
          refine lv_iinc (v := (nI (d1 + 1))) (lv' := [(5, .int (nI (d1 + 1))), (0, .ref (ad (2 + j))), (1, .ref (ad (6 + j))), (2, .int (nI (360 * i))), (3, .int (nI d)), (4, .int v)]) hx hb dX6_holds_37 hl (k := 5) rfl (nI_1 d1) (by decide) rfl (fun ls hl => ?_)
          refine lv_goto (tgt := 12) hx hb dX6_holds_40 (by decide) ?_
          exact ih (d1 + 1) (upd f1 d1 v) (by omega) (by omega) (by rw [← hF_s (by omega) c0]; exact hf1) _ _ _ hW hS (lv_sub hl [1, 2, 3, 4, 5, 0] rfl)
  refine lv_aload_n hx hb dX6_holds_0 rfl (lv_at hl 0 rfl) ?_
  refine lv_iload_n hx hb dX6_holds_1 rfl (lv_at hl 2 rfl) ?_
  refine lv_iload_n hx hb dX6_holds_2 rfl (lv_at hl 3 rfl) ?_
  refine lv_iadd hx hb dX6_holds_3 ?_
  refine b_top (y := nI (360 * i + d)) (nI_add _ _) ?_
  refine lv_iload hx hb dX6_holds_4 (lv_at hl 4 rfl) ?_
  refine b_iast B hI hA hW hS hti (j := (360 * i + d)) (by omega) (mE_row (by omega)) (vp_in_nI (by omega) (nR_lt _)) (nI_clamp (by omega)) dX6_holds_6 (fun H locs hW hS => ?_)
  have hW := hW.eq (E' := mE cI cZ ad th nP nH rN nf pn sp sk ag (upd2 (RV V) j (upd ((RV V) j) (360 * i + d) v)) (RV T) (FL pd) (FL py) du mA mC mH mG mS mI mT mP) (mE_uR (by omega) _)
  have hW := hW.eq (E' := mE cI cZ ad th nP nH rN nf pn sp sk ag (RV (upd2 V t (upd (V t) d v))) (RV T) (FL pd) (FL py) du mA mC mH mG mS mI mT mP) (by rw [RV_up hj hi hd ht])
  refine lv_iload_n hx hb dX6_holds_7 rfl (lv_at hl 3 rfl) ?_
  refine lv_iconst (v := 1) hx hb dX6_holds_8 (by decide) ?_
  refine lv_iadd hx hb dX6_holds_9 ?_
  refine b_top (y := nI (d + 1)) (nI_1 d) ?_
  refine lv_istore (lv' := [(5, .int (nI (d + 1))), (0, .ref (ad (2 + j))), (1, .ref (ad (6 + j))), (2, .int (nI (360 * i))), (3, .int (nI d)), (4, .int v)]) hx hb dX6_holds_10 hl (by decide) rfl (fun ls hl => ?_)
  exact L_12 361 (d + 1) (upd (V t) d v) (by omega) (by omega) (by show hF (T t) v (360 - (d + 1)) (d + 1) _ = hF (T t) v (359 - d) (d + 1) _; rw [show 360 - (d + 1) = 359 - d by omega]) _ _ _ hW hS (lv_sub hl [1, 2, 3, 4, 5, 0] rfl)
set_option maxHeartbeats 4000000 in
set_option maxRecDepth 100000 in
theorem mm_tells {l : Launch} {D : va_G} {tys : List (ClassId × FieldType)} {ad : Nat → Nat} (hI : aI ad 13) {cI cZ : ClassId} (th : Int32) (nP nH rN : Nat) (nf pn : Int32) (sp sk : Int64) (ag : Nat → Int32) (V T : Nat → Nat → Int32) (pd py : Nat → Nat → Int32) (du : Nat → Int32) (mA mC mH mG mS mI mT mP : Int32) (j i d t : Nat) (v : Int32) (hti : tys[0]? = some (cI, .int)) (htz : tys[1]? = some (cZ, .boolean)) (hj : j < 4) (hi : 360 * i + 360 ≤ nR j) (hd : d < 360) (ht : offR j + i = t) (sz : Nat) : Met l yX6_tells (Cond.code yX6_tells cX6_tells 7 (some .int) :: wsL_law) (rmk 1 0 0) (va_Pc [.ref (ad 0), .ref (ad (2 + j)), .ref (ad (6 + j)), .int (nI (360 * i)), .int (nI d), .int v] (PC D tys ad 13 (mE cI cZ ad th nP nH rN nf pn sp sk ag (RV V) (RV T) (FL pd) (FL py) du mA mC mH mG mS mI mT mP) sz)) (Qi D ad 13 (fun r E1 => r = V t d ∧ E1 = mE cI cZ ad th nP nH rN (if T t d = 0 then nf + 1 else nf) pn sp sk ag (RV (upd2 V t (tellV (V t) (T t) d v))) (RV (upd2 T t (upd (T t) d 1))) (FL pd) (FL py) du mA mC mH mG mS mI mT mP) (cA ad 13 sz)) 0 0 (cA ad 13 sz) := by
  refine cm_of (own := RX6) (Qc := Qi D ad 13 (fun r E1 => r = V t d ∧ E1 = mE cI cZ ad th nP nH rN (if T t d = 0 then nf + 1 else nf) pn sp sk ag (RV (upd2 V t (tellV (V t) (T t) d v))) (RV (upd2 T t (upd (T t) d 1))) (FL pd) (FL py) du mA mC mH mG mS mI mT mP)) rfl (by decide +kernel) (Nat.le_of_ble_eq_true rfl) ?_ sz
  intro p e s m args below meth c ls Q B hT hX hW hr hlk hnm hl hS hA hQ
  have hx := B.1
  have hb := B.2.1
  have hl : lv_has ls 7 [(0, .ref (ad 0)), (1, .ref (ad (2 + j))), (2, .ref (ad (6 + j))), (3, .int (nI (360 * i))), (4, .int (nI d)), (5, .int v)] := hl
  have hnR := nR_le j
  refine lv_aload_n hx hb dX6_tells_0 rfl (lv_at hl 1 rfl) ?_
  refine lv_iload_n hx hb dX6_tells_1 rfl (lv_at hl 3 rfl) ?_
  refine lv_iload hx hb dX6_tells_2 (lv_at hl 4 rfl) ?_
  refine lv_iadd hx hb dX6_tells_4 ?_
  refine b_top (y := nI (360 * i + d)) (nI_add _ _) ?_
  refine b_iald B hW hti (j := (360 * i + d)) (by omega) (mE_row (by omega)) (vp_in_nI (by omega) (nR_lt _)) (nI_clamp (by omega)) dX6_tells_5 ?_
  refine b_top (y := V t d) (RV_at (j := j) (i := i) (d := d) (by omega) hi (by omega) ht) ?_
  refine lv_istore (lv' := [(6, .int (V t d)), (0, .ref (ad 0)), (1, .ref (ad (2 + j))), (2, .ref (ad (6 + j))), (3, .int (nI (360 * i))), (4, .int (nI d)), (5, .int v)]) hx hb dX6_tells_6 hl (by decide) rfl (fun ls hl => ?_)
  refine lv_aload_n hx hb dX6_tells_8 rfl (lv_at hl 1 rfl) ?_
  refine lv_dup hx hb dX6_tells_9 rfl ?_
  refine gfX6_7 B hT hW (by decide) mE_0 rfl dX6_tells_10 ?_
  refine lv_aload_n hx hb dX6_tells_13 rfl (lv_at hl 3 rfl) ?_
  refine lv_iload_n hx hb dX6_tells_14 rfl (lv_at hl 4 rfl) ?_
  refine lv_iload hx hb dX6_tells_15 (lv_at hl 5 rfl) ?_
  refine lv_iadd hx hb dX6_tells_17 ?_
  refine b_top (y := nI (360 * i + d)) (nI_add _ _) ?_
  refine b_zald B hW htz (j := (360 * i + d)) (by omega) (mE_is (by omega)) (vp_in_nI (by omega) (nR_lt _)) (nI_clamp (by omega)) dX6_tells_18 ?_
  refine b_top (y := T t d) (RV_at (j := j) (i := i) (d := d) (by omega) hi (by omega) ht) ?_
  refine lv_if_eq (tgt := 26) hx hb dX6_tells_19 (by decide) (fun c_19 => ?_) (fun c_19 => ?_)
  · skip
    refine lv_iconst (v := 1) hx hb dX6_tells_26 (by decide) ?_
    refine lv_iadd hx hb dX6_tells_27 ?_
    refine pfX6_7 B hT hI hA hW hS (by decide) mE_0 (Nat.le_of_ble_eq_true rfl) rfl (by first | rfl | decide) dX6_tells_28 (fun H locs hW hS => ?_)
    have hW := hW.eq (E' := mE cI cZ ad th nP nH rN (nf + 1) pn sp sk ag (RV V) (RV T) (FL pd) (FL py) du mA mC mH mG mS mI mT mP) (mE_u0 _ _ _ _ _ _ _ _ _ _ _ _ _ _ _ _)
    refine lv_aload_n hx hb dX6_tells_31 rfl (lv_at hl 3 rfl) ?_
    refine lv_iload_n hx hb dX6_tells_32 rfl (lv_at hl 4 rfl) ?_
    refine lv_iload hx hb dX6_tells_33 (lv_at hl 5 rfl) ?_
    refine lv_iadd hx hb dX6_tells_35 ?_
    refine b_top (y := nI (360 * i + d)) (nI_add _ _) ?_
    refine lv_iconst (v := 1) hx hb dX6_tells_36 (by decide) ?_
    refine b_zast B hI hA hW hS htz (j := (360 * i + d)) (by omega) (mE_is (by omega)) (vp_in_nI (by omega) (nR_lt _)) (nI_clamp (by omega)) rfl dX6_tells_37 (fun H locs hW hS => ?_)
    have hW := hW.eq (E' := mE cI cZ ad th nP nH rN (nf + 1) pn sp sk ag (RV V) (upd2 (RV T) j (upd ((RV T) j) (360 * i + d) 1)) (FL pd) (FL py) du mA mC mH mG mS mI mT mP) (mE_uI (by omega) _)
    have hW := hW.eq (E' := mE cI cZ ad th nP nH rN (nf + 1) pn sp sk ag (RV V) (RV (upd2 T t (upd (T t) d 1))) (FL pd) (FL py) du mA mC mH mG mS mI mT mP) (by rw [RV_up hj hi hd ht])
    refine lv_aload_n hx hb dX6_tells_38 rfl (lv_at hl 2 rfl) ?_
    refine lv_aload_n hx hb dX6_tells_39 rfl (lv_at hl 3 rfl) ?_
    refine lv_iload_n hx hb dX6_tells_40 rfl (lv_at hl 4 rfl) ?_
    refine lv_iload hx hb dX6_tells_41 (lv_at hl 5 rfl) ?_
    refine lv_iload hx hb dX6_tells_43 (lv_at hl 6 rfl) ?_
    refine b_cv (b_runS B hT hX hW hS (As := [.ref (ad (2 + j)), .ref (ad (6 + j)), .int (nI (360 * i)), .int (nI d), .int v]) (rest := []) (fun sz => mm_holds hI th nP nH rN (nf + 1) pn sp sk ag V (upd2 T t (upd (T t) d 1)) pd py du mA mC mH mG mS mI mT mP j i d t v hti htz (by omega) (by first | assumption | omega) (by omega) ht sz) (cwX6_71 B.2.2.2.2.1 ⟨Nat.le_of_ble_eq_true rfl, Nat.le_of_ble_eq_true rfl⟩) rfl hl.1 (Nat.le_of_ble_eq_true rfl) dX6_tells_45 ⟨Nat.le_of_ble_eq_true rfl, Nat.le_of_ble_eq_true rfl⟩) hS (fun E1 H locs hp_45 hW hS => ?_)
    have hW := hW.eq hp_45
    refine lv_iload hx hb dX6_tells_48 (lv_at hl 0 rfl) ?_
    exact e_i hQ B hr hlk hS hW dX6_tells_50 (Nat.le_of_ble_eq_true rfl) (Nat.le_of_ble_eq_true rfl) (⟨rfl, by rw [upd2_s]; unfold tellV; rw [if_pos c_19]⟩)
  · skip
    refine lv_iconst (v := 0) hx hb dX6_tells_22 (by decide) ?_
    refine lv_goto (tgt := 27) hx hb dX6_tells_23 (by decide) ?_
    refine lv_iadd hx hb dX6_tells_27 ?_
    refine pfX6_7 B hT hI hA hW hS (by decide) mE_0 (Nat.le_of_ble_eq_true rfl) rfl (by first | rfl | decide) dX6_tells_28 (fun H locs hW hS => ?_)
    have hW := hW.eq (E' := mE cI cZ ad th nP nH rN (nf + 0) pn sp sk ag (RV V) (RV T) (FL pd) (FL py) du mA mC mH mG mS mI mT mP) (mE_u0 _ _ _ _ _ _ _ _ _ _ _ _ _ _ _ _)
    refine lv_aload_n hx hb dX6_tells_31 rfl (lv_at hl 3 rfl) ?_
    refine lv_iload_n hx hb dX6_tells_32 rfl (lv_at hl 4 rfl) ?_
    refine lv_iload hx hb dX6_tells_33 (lv_at hl 5 rfl) ?_
    refine lv_iadd hx hb dX6_tells_35 ?_
    refine b_top (y := nI (360 * i + d)) (nI_add _ _) ?_
    refine lv_iconst (v := 1) hx hb dX6_tells_36 (by decide) ?_
    refine b_zast B hI hA hW hS htz (j := (360 * i + d)) (by omega) (mE_is (by omega)) (vp_in_nI (by omega) (nR_lt _)) (nI_clamp (by omega)) rfl dX6_tells_37 (fun H locs hW hS => ?_)
    have hW := hW.eq (E' := mE cI cZ ad th nP nH rN (nf + 0) pn sp sk ag (RV V) (upd2 (RV T) j (upd ((RV T) j) (360 * i + d) 1)) (FL pd) (FL py) du mA mC mH mG mS mI mT mP) (mE_uI (by omega) _)
    have hW := hW.eq (E' := mE cI cZ ad th nP nH rN (nf + 0) pn sp sk ag (RV V) (RV (upd2 T t (upd (T t) d 1))) (FL pd) (FL py) du mA mC mH mG mS mI mT mP) (by rw [RV_up hj hi hd ht])
    refine lv_aload_n hx hb dX6_tells_38 rfl (lv_at hl 2 rfl) ?_
    refine lv_aload_n hx hb dX6_tells_39 rfl (lv_at hl 3 rfl) ?_
    refine lv_iload_n hx hb dX6_tells_40 rfl (lv_at hl 4 rfl) ?_
    refine lv_iload hx hb dX6_tells_41 (lv_at hl 5 rfl) ?_
    refine lv_iload hx hb dX6_tells_43 (lv_at hl 6 rfl) ?_
    refine b_cv (b_runS B hT hX hW hS (As := [.ref (ad (2 + j)), .ref (ad (6 + j)), .int (nI (360 * i)), .int (nI d), .int v]) (rest := []) (fun sz => mm_holds hI th nP nH rN (nf + 0) pn sp sk ag V (upd2 T t (upd (T t) d 1)) pd py du mA mC mH mG mS mI mT mP j i d t v hti htz (by omega) (by first | assumption | omega) (by omega) ht sz) (cwX6_71 B.2.2.2.2.1 ⟨Nat.le_of_ble_eq_true rfl, Nat.le_of_ble_eq_true rfl⟩) rfl hl.1 (Nat.le_of_ble_eq_true rfl) dX6_tells_45 ⟨Nat.le_of_ble_eq_true rfl, Nat.le_of_ble_eq_true rfl⟩) hS (fun E1 H locs hp_45 hW hS => ?_)
    have hW := hW.eq hp_45
    refine lv_iload hx hb dX6_tells_48 (lv_at hl 0 rfl) ?_
    exact e_i hQ B hr hlk hS hW dX6_tells_50 (Nat.le_of_ble_eq_true rfl) (Nat.le_of_ble_eq_true rfl) (⟨rfl, by rw [upd2_s]; unfold tellV; rw [if_neg c_19, Int32.add_zero]⟩)
set_option maxHeartbeats 4000000 in
set_option maxRecDepth 100000 in
theorem mm_takes {l : Launch} {D : va_G} {tys : List (ClassId × FieldType)} {ad : Nat → Nat} (hI : aI ad 13) {cI cZ : ClassId} (th : Int32) (nP nH rN : Nat) (nf pn : Int32) (sp sk : Int64) (ag : Nat → Int32) (V T : Nat → Nat → Int32) (pd py : Nat → Nat → Int32) (du : Nat → Int32) (mA mC mH mG mS mI mT mP : Int32) (j i d t : Nat) (v : Int32) (hti : tys[0]? = some (cI, .int)) (htz : tys[1]? = some (cZ, .boolean)) (hj : j < 4) (hi : 360 * i + 360 ≤ nR j) (hd : d < 360) (ht : offR j + i = t) (sz : Nat) : Met l yX6_takes (Cond.code yX6_takes cX6_takes 7 (some .int) :: wsL_law) (rmk 1 0 0) (va_Pc [.ref (ad 0), .ref (ad (2 + j)), .ref (ad (6 + j)), .int (nI (360 * i)), .int (nI d), .int v] (PC D tys ad 13 (mE cI cZ ad th nP nH rN nf pn sp sk ag (RV V) (RV T) (FL pd) (FL py) du mA mC mH mG mS mI mT mP) sz)) (Qi D ad 13 (fun r E1 => r = V t d ∧ E1 = mE cI cZ ad th nP nH rN (nf - 1) pn sp sk ag (RV (upd2 V t (takeV (V t) (T t) d v))) (RV (upd2 T t (upd (T t) d 0))) (FL pd) (FL py) du mA mC mH mG mS mI mT mP) (cA ad 13 sz)) 0 0 (cA ad 13 sz) := by
  refine cm_of (own := RX6) (Qc := Qi D ad 13 (fun r E1 => r = V t d ∧ E1 = mE cI cZ ad th nP nH rN (nf - 1) pn sp sk ag (RV (upd2 V t (takeV (V t) (T t) d v))) (RV (upd2 T t (upd (T t) d 0))) (FL pd) (FL py) du mA mC mH mG mS mI mT mP)) rfl (by decide +kernel) (Nat.le_of_ble_eq_true rfl) ?_ sz
  intro p e s m args below meth c ls Q B hT hX hW hr hlk hnm hl hS hA hQ
  have hx := B.1
  have hb := B.2.1
  have hl : lv_has ls 7 [(0, .ref (ad 0)), (1, .ref (ad (2 + j))), (2, .ref (ad (6 + j))), (3, .int (nI (360 * i))), (4, .int (nI d)), (5, .int v)] := hl
  have hnR := nR_le j
  refine lv_aload_n hx hb dX6_takes_0 rfl (lv_at hl 1 rfl) ?_
  refine lv_iload_n hx hb dX6_takes_1 rfl (lv_at hl 3 rfl) ?_
  refine lv_iload hx hb dX6_takes_2 (lv_at hl 4 rfl) ?_
  refine lv_iadd hx hb dX6_takes_4 ?_
  refine b_top (y := nI (360 * i + d)) (nI_add _ _) ?_
  refine b_iald B hW hti (j := (360 * i + d)) (by omega) (mE_row (by omega)) (vp_in_nI (by omega) (nR_lt _)) (nI_clamp (by omega)) dX6_takes_5 ?_
  refine b_top (y := V t d) (RV_at (j := j) (i := i) (d := d) (by omega) hi (by omega) ht) ?_
  refine lv_istore (lv' := [(6, .int (V t d)), (0, .ref (ad 0)), (1, .ref (ad (2 + j))), (2, .ref (ad (6 + j))), (3, .int (nI (360 * i))), (4, .int (nI d)), (5, .int v)]) hx hb dX6_takes_6 hl (by decide) rfl (fun ls hl => ?_)
  refine lv_aload_n hx hb dX6_takes_8 rfl (lv_at hl 1 rfl) ?_
  refine lv_dup hx hb dX6_takes_9 rfl ?_
  refine gfX6_7 B hT hW (by decide) mE_0 rfl dX6_takes_10 ?_
  refine lv_iconst (v := 1) hx hb dX6_takes_13 (by decide) ?_
  refine lv_isub hx hb dX6_takes_14 ?_
  refine pfX6_7 B hT hI hA hW hS (by decide) mE_0 (Nat.le_of_ble_eq_true rfl) rfl (by first | rfl | decide) dX6_takes_15 (fun H locs hW hS => ?_)
  have hW := hW.eq (E' := mE cI cZ ad th nP nH rN (nf - 1) pn sp sk ag (RV V) (RV T) (FL pd) (FL py) du mA mC mH mG mS mI mT mP) (mE_u0 _ _ _ _ _ _ _ _ _ _ _ _ _ _ _ _)
  refine lv_aload_n hx hb dX6_takes_18 rfl (lv_at hl 3 rfl) ?_
  refine lv_iload_n hx hb dX6_takes_19 rfl (lv_at hl 4 rfl) ?_
  refine lv_iload hx hb dX6_takes_20 (lv_at hl 5 rfl) ?_
  refine lv_iadd hx hb dX6_takes_22 ?_
  refine b_top (y := nI (360 * i + d)) (nI_add _ _) ?_
  refine lv_iconst (v := 0) hx hb dX6_takes_23 (by decide) ?_
  refine b_zast B hI hA hW hS htz (j := (360 * i + d)) (by omega) (mE_is (by omega)) (vp_in_nI (by omega) (nR_lt _)) (nI_clamp (by omega)) rfl dX6_takes_24 (fun H locs hW hS => ?_)
  have hW := hW.eq (E' := mE cI cZ ad th nP nH rN (nf - 1) pn sp sk ag (RV V) (upd2 (RV T) j (upd ((RV T) j) (360 * i + d) 0)) (FL pd) (FL py) du mA mC mH mG mS mI mT mP) (mE_uI (by omega) _)
  have hW := hW.eq (E' := mE cI cZ ad th nP nH rN (nf - 1) pn sp sk ag (RV V) (RV (upd2 T t (upd (T t) d 0))) (FL pd) (FL py) du mA mC mH mG mS mI mT mP) (by rw [RV_up hj hi hd ht])
  refine lv_aload_n hx hb dX6_takes_25 rfl (lv_at hl 2 rfl) ?_
  refine lv_aload_n hx hb dX6_takes_26 rfl (lv_at hl 3 rfl) ?_
  refine lv_iload_n hx hb dX6_takes_27 rfl (lv_at hl 4 rfl) ?_
  refine lv_iload hx hb dX6_takes_28 (lv_at hl 5 rfl) ?_
  refine lv_iload hx hb dX6_takes_30 (lv_at hl 5 rfl) ?_
  refine lv_if_ne (tgt := 40) hx hb dX6_takes_32 (by decide) (fun c_32 => ?_) (fun c_32 => ?_)
  · skip
    refine lv_aload_n hx hb dX6_takes_40 rfl (lv_at hl 2 rfl) ?_
    refine lv_iload_n hx hb dX6_takes_41 rfl (lv_at hl 4 rfl) ?_
    refine lv_iload hx hb dX6_takes_42 (lv_at hl 5 rfl) ?_
    refine lv_iadd hx hb dX6_takes_44 ?_
    refine b_top (y := nI (360 * i + d)) (nI_add _ _) ?_
    refine lv_iconst (v := 1) hx hb dX6_takes_45 (by decide) ?_
    refine lv_isub hx hb dX6_takes_46 ?_
    have q32 : 0 < d := Nat.pos_of_ne_zero (fun q => c_32 (by rw [q]; rfl))
    refine b_top (y := nI (360 * i + (d - 1))) (by rw [show 360 * i + d = (360 * i + (d - 1)) + 1 by omega]; exact nI_m1) ?_
    refine b_iald B hW hti (j := (360 * i + (d - 1))) (by omega) (mE_row (by omega)) (vp_in_nI (by omega) (nR_lt _)) (nI_clamp (by omega)) dX6_takes_47 ?_
    refine b_top (y := V t (d - 1)) (RV_at (j := j) (i := i) (d := (d - 1)) (by omega) hi (by omega) ht) ?_
    refine b_cv (b_runS B hT hX hW hS (As := [.ref (ad (2 + j)), .ref (ad (6 + j)), .int (nI (360 * i)), .int (nI d), .int (V t (d - 1))]) (rest := []) (fun sz => mm_holds hI th nP nH rN (nf - 1) pn sp sk ag V (upd2 T t (upd (T t) d 0)) pd py du mA mC mH mG mS mI mT mP j i d t (V t (d - 1)) hti htz (by omega) (by first | assumption | omega) (by omega) ht sz) (cwX6_71 B.2.2.2.2.1 ⟨Nat.le_of_ble_eq_true rfl, Nat.le_of_ble_eq_true rfl⟩) rfl hl.1 (Nat.le_of_ble_eq_true rfl) dX6_takes_48 ⟨Nat.le_of_ble_eq_true rfl, Nat.le_of_ble_eq_true rfl⟩) hS (fun E1 H locs hp_48 hW hS => ?_)
    have hW := hW.eq hp_48
    refine lv_iload hx hb dX6_takes_51 (lv_at hl 0 rfl) ?_
    exact e_i hQ B hr hlk hS hW dX6_takes_53 (Nat.le_of_ble_eq_true rfl) (Nat.le_of_ble_eq_true rfl) (⟨rfl, by rw [upd2_s]; unfold takeV; rw [if_neg (by omega)]⟩)
  · skip
    refine lv_iload hx hb dX6_takes_35 (lv_at hl 6 rfl) ?_
    refine lv_goto (tgt := 48) hx hb dX6_takes_37 (by decide) ?_
    have q32 : d = 0 := Nat.eq_zero_of_not_pos (fun q => absurd (nI_inj0 (by omega) c_32) (by omega))
    refine b_cv (b_runS B hT hX hW hS (As := [.ref (ad (2 + j)), .ref (ad (6 + j)), .int (nI (360 * i)), .int (nI d), .int v]) (rest := []) (fun sz => mm_holds hI th nP nH rN (nf - 1) pn sp sk ag V (upd2 T t (upd (T t) d 0)) pd py du mA mC mH mG mS mI mT mP j i d t v hti htz (by omega) (by first | assumption | omega) (by omega) ht sz) (cwX6_71 B.2.2.2.2.1 ⟨Nat.le_of_ble_eq_true rfl, Nat.le_of_ble_eq_true rfl⟩) rfl hl.1 (Nat.le_of_ble_eq_true rfl) dX6_takes_48 ⟨Nat.le_of_ble_eq_true rfl, Nat.le_of_ble_eq_true rfl⟩) hS (fun E1 H locs hp_48 hW hS => ?_)
    have hW := hW.eq hp_48
    refine lv_iload hx hb dX6_takes_51 (lv_at hl 0 rfl) ?_
    exact e_i hQ B hr hlk hS hW dX6_takes_53 (Nat.le_of_ble_eq_true rfl) (Nat.le_of_ble_eq_true rfl) (⟨rfl, by rw [upd2_s]; unfold takeV; rw [if_pos q32]⟩)
