theorem gfX4_9 {p : Program} {l : Launch} {e : Env} {R : Room} {s : State} {m : MethodId} {args : Array Value} {below : List Frame} {meth : Method} {c : Code} {H : Heap} {locs : List Loc} {cells slots : Nat} {Q : State → Prop} {cc : ByteArray} {pc nL : Nat} {ls : Array Slot} {rest : List Value} {D : va_G} {tys : List (ClassId × FieldType)} {ad : Nat → Nat} {N : Nat} {E : Nat → va_E} {k : Nat} {fs : List Value} {v : Value} (B : MB p c cc nL RX4 s m args D tys) (hT : TX s) (hW : hH D ad N E H) (hk : k < N) (he : E k = .inr (4, fs)) (hv : fs[1]? = some v) (hdg : decode cc pc = .ok (.getfield 9, 3)) (kk : W p l e R s m args below meth c H locs cells slots Q (F0 m (pc + 3) ls (v :: rest))) : W p l e R s m args below meth c H locs cells slots Q (F0 m pc ls (.ref (ad k) :: rest)) :=
  b_get B hW inlX4 rfl 1 (by decide) (r3_in _ (List.mem_of_getElem? (i := 6) rfl)) rfl hk he hv hdg kk
theorem gfX4_15 {p : Program} {l : Launch} {e : Env} {R : Room} {s : State} {m : MethodId} {args : Array Value} {below : List Frame} {meth : Method} {c : Code} {H : Heap} {locs : List Loc} {cells slots : Nat} {Q : State → Prop} {cc : ByteArray} {pc nL : Nat} {ls : Array Slot} {rest : List Value} {D : va_G} {tys : List (ClassId × FieldType)} {ad : Nat → Nat} {N : Nat} {E : Nat → va_E} {k : Nat} {fs : List Value} {v : Value} (B : MB p c cc nL RX4 s m args D tys) (hT : TX s) (hW : hH D ad N E H) (hk : k < N) (he : E k = .inr (4, fs)) (hv : fs[2]? = some v) (hdg : decode cc pc = .ok (.getfield 15, 3)) (kk : W p l e R s m args below meth c H locs cells slots Q (F0 m (pc + 3) ls (v :: rest))) : W p l e R s m args below meth c H locs cells slots Q (F0 m pc ls (.ref (ad k) :: rest)) :=
  b_get B hW inlX4 rfl 2 (by decide) (r3_in _ (List.mem_of_getElem? (i := 8) rfl)) rfl hk he hv hdg kk
theorem cwX4_29 {R : Room} {s : State} {args : Array Value} {rm : Room} (hts : ∀ w ∈ wsL_law, w.before args s = true) (hR : rm.frames + 1 ≤ R.frames ∧ 8 + (4 + 11) + rm.locals ≤ R.locals) : CWV R s args RX4 RX4 29 yX4_holdFrom cX4_holdFrom 4 none rm rm.cells rm.slots 2 :=
  cwV 2 hts (gi_V (r4_in _ (List.mem_of_getElem? (i := 16) rfl)) (r4_in _ (List.mem_of_getElem? (i := 17) rfl)) (r4_in _ (List.mem_of_getElem? (i := 18) rfl)) (r2_in _ (List.mem_of_getElem? (i := 12) rfl)) (r4_in _ (List.mem_of_getElem? (i := 19) rfl))) rfl rfl rfl (by decide +kernel) hR
theorem gfX4_19 {p : Program} {l : Launch} {e : Env} {R : Room} {s : State} {m : MethodId} {args : Array Value} {below : List Frame} {meth : Method} {c : Code} {H : Heap} {locs : List Loc} {cells slots : Nat} {Q : State → Prop} {cc : ByteArray} {pc nL : Nat} {ls : Array Slot} {rest : List Value} {D : va_G} {tys : List (ClassId × FieldType)} {ad : Nat → Nat} {N : Nat} {E : Nat → va_E} {k : Nat} {fs : List Value} {v : Value} (B : MB p c cc nL RX4 s m args D tys) (hT : TX s) (hW : hH D ad N E H) (hk : k < N) (he : E k = .inr (4, fs)) (hv : fs[0]? = some v) (hdg : decode cc pc = .ok (.getfield 19, 3)) (kk : W p l e R s m args below meth c H locs cells slots Q (F0 m (pc + 3) ls (v :: rest))) : W p l e R s m args below meth c H locs cells slots Q (F0 m pc ls (.ref (ad k) :: rest)) :=
  b_get B hW inlX4 rfl 0 (by decide) (r3_in _ (List.mem_of_getElem? (i := 9) rfl)) rfl hk he hv hdg kk
set_option maxHeartbeats 4000000 in
set_option maxRecDepth 100000 in
theorem mt_valueOn {l : Launch} {D : va_G} {tys : List (ClassId × FieldType)} {ad : Nat → Nat} {N : Nat} (hI : aI ad N) {E : Nat → va_E} {cI cZ : ClassId} (k kv kt : Nat) {w : Int32} (f g : Nat → Int32) (d : Nat) (hti : tys[0]? = some (cI, .int)) (hk : k < N) (hkv : kv < N) (he : E k = .inr (4, [.int w, .ref (ad kv), .ref (ad kt)])) (hev : E kv = .inl (cI, 360, .inl f)) (hd : d < 360) (sz : Nat) : Met l yX4_valueOn (Cond.code yX4_valueOn cX4_valueOn 2 (some .int) :: wsL_law) (rmk 0 0 0) (va_Pc [.ref (ad k), .int (nI d)] (PC D tys ad N E sz)) (Qi D ad N (fun r E1 => r = f d ∧ E1 = E) (cA ad N sz)) 0 0 (cA ad N sz) := by
  refine cm_of (own := RX4) (Qc := Qi D ad N (fun r E1 => r = f d ∧ E1 = E)) rfl (by decide +kernel) (Nat.le_of_ble_eq_true rfl) ?_ sz
  intro p e s m args below meth c ls Q B hT hX hW hr hlk hnm hl hS hA hQ
  have hx := B.1
  have hb := B.2.1
  have hl : lv_has ls 2 [(0, .ref (ad k)), (1, .int (nI d))] := hl
  refine lv_aload_n hx hb dX4_valueOn_0 rfl (lv_at hl 0 rfl) ?_
  refine gfX4_9 B hT hW hk he rfl dX4_valueOn_1 ?_
  refine lv_iload_n hx hb dX4_valueOn_4 rfl (lv_at hl 1 rfl) ?_
  refine b_iald B hW hti (j := d) hkv hev (vp_in_nI hd (Nat.le_of_ble_eq_true rfl)) (nI_clamp (Nat.lt_trans hd (Nat.le_of_ble_eq_true rfl))) dX4_valueOn_5 ?_
  exact e_i hQ B hr hlk hS hW dX4_valueOn_6 (by decide) (by decide) (⟨rfl, rfl⟩)
set_option maxHeartbeats 4000000 in
set_option maxRecDepth 100000 in
theorem mt_isToldFor {l : Launch} {D : va_G} {tys : List (ClassId × FieldType)} {ad : Nat → Nat} {N : Nat} (hI : aI ad N) {E : Nat → va_E} {cI cZ : ClassId} (k kv kt : Nat) {w : Int32} (f g : Nat → Int32) (d : Nat) (htz : tys[1]? = some (cZ, .boolean)) (hk : k < N) (hkt : kt < N) (he : E k = .inr (4, [.int w, .ref (ad kv), .ref (ad kt)])) (het : E kt = .inl (cZ, 360, .inl g)) (hd : d < 360) (hbo : narrow .boolean (.int (g d)) = .int (g d)) (sz : Nat) : Met l yX4_isToldFor (Cond.code yX4_isToldFor cX4_isToldFor 2 (some .boolean) :: wsL_law) (rmk 0 0 0) (va_Pc [.ref (ad k), .int (nI d)] (PC D tys ad N E sz)) (Qi D ad N (fun r E1 => r = g d ∧ E1 = E) (cA ad N sz)) 0 0 (cA ad N sz) := by
  refine cm_of (own := RX4) (Qc := Qi D ad N (fun r E1 => r = g d ∧ E1 = E)) rfl (by decide +kernel) (Nat.le_of_ble_eq_true rfl) ?_ sz
  intro p e s m args below meth c ls Q B hT hX hW hr hlk hnm hl hS hA hQ
  have hx := B.1
  have hb := B.2.1
  have hl : lv_has ls 2 [(0, .ref (ad k)), (1, .int (nI d))] := hl
  refine lv_aload_n hx hb dX4_isToldFor_0 rfl (lv_at hl 0 rfl) ?_
  refine gfX4_15 B hT hW hk he rfl dX4_isToldFor_1 ?_
  refine lv_iload_n hx hb dX4_isToldFor_4 rfl (lv_at hl 1 rfl) ?_
  refine b_zald B hW htz (j := d) hkt het (vp_in_nI hd (Nat.le_of_ble_eq_true rfl)) (nI_clamp (Nat.lt_trans hd (Nat.le_of_ble_eq_true rfl))) dX4_isToldFor_5 ?_
  exact e_n hQ B hr hlk hS hbo hW dX4_isToldFor_6 (by decide) (by decide) (⟨rfl, rfl⟩)
set_option maxHeartbeats 4000000 in
set_option maxRecDepth 100000 in
theorem mt_holdFrom {l : Launch} {D : va_G} {tys : List (ClassId × FieldType)} {ad : Nat → Nat} {N : Nat} (hI : aI ad N) {E : Nat → va_E} {cI cZ : ClassId} (k kv kt : Nat) {w : Int32} (f g : Nat → Int32) (d : Nat) (v : Int32) (hti : tys[0]? = some (cI, .int)) (htz : tys[1]? = some (cZ, .boolean)) (hk : k < N) (hkv : kv < N) (hkt : kt < N) (he : E k = .inr (4, [.int w, .ref (ad kv), .ref (ad kt)])) (hev : E kv = .inl (cI, 360, .inl f)) (het : E kt = .inl (cZ, 360, .inl g)) (n1 : k ≠ kv) (n2 : k ≠ kt) (n3 : kv ≠ kt) (hd : d < 360) (sz : Nat) : Met l yX4_holdFrom (Cond.code yX4_holdFrom cX4_holdFrom 4 none :: wsL_law) (rmk 0 0 0) (va_Pc [.ref (ad k), .int v, .int (nI d)] (PC D tys ad N E sz)) (Qv D ad N (fun E1 => E1 = va_up E kv (.inl (cI, 360, .inl (hold f g d v)))) (cA ad N sz)) 0 0 (cA ad N sz) := by
  refine cm_of (own := RX4) (Qc := Qv D ad N (fun E1 => E1 = va_up E kv (.inl (cI, 360, .inl (hold f g d v))))) rfl (by decide +kernel) (Nat.le_of_ble_eq_true rfl) ?_ sz
  intro p e s m args below meth c ls Q B hT hX hW hr hlk hnm hl hS hA hQ
  have hx := B.1
  have hb := B.2.1
  have hl : lv_has ls 4 [(0, .ref (ad k)), (1, .int v), (2, .int (nI d))] := hl
  have L_11 : ∀ (n_ : Nat) (d1 : Nat) (f1 : Nat → Int32), (hd1 : d1 ≤ 360) → (hn : 360 < n_ + d1) → (hf1 : hF g v (360 - d1) d1 f1 = hold f g d v) → ∀ (H : Heap) (locs : List Loc) (ls : Array Slot), hH D ad N (va_up E kv (.inl (cI, 360, .inl f1))) H → va_S (cA ad N s.heap.size) s.heap H locs → lv_has ls 4 [(0, .ref (ad k)), (1, .int v), (2, .int (nI d)), (3, .int (nI d1))] → W p l e (rmk 0 0 0) s m args below meth c H locs 0 0 Q (F0 m 11 ls []) := by
    intro n_
    induction n_ with
    | zero =>
      intro d1 f1 hd1 hn hf1
      omega
    | succ n_ ih =>
      intro d1 f1 hd1 hn hf1 H locs ls hW hS hl
      refine lv_iload_n hx hb dX4_holdFrom_11 rfl (lv_at hl 3 rfl) ?_
      refine lv_sipush (v := (nI 360)) hx hb dX4_holdFrom_12 (by decide) ?_
      refine lv_icmp_ge (tgt := 40) hx hb dX4_holdFrom_15 (by decide) (fun c_15 => ?_) (fun c_15 => ?_)
      · skip
        exact e_v hQ B hr hlk hS hW dX4_holdFrom_40 (by decide) (by decide) (by rw [← hf1, hF_0 ((nI_leI (by omega) (by omega)).mp c_15)])
      · skip
        have q15 : d1 < 360 := Nat.lt_of_not_le (fun q => c_15 ((nI_leI (by omega) (by omega)).mpr q))
        refine lv_aload_n hx hb dX4_holdFrom_18 rfl (lv_at hl 0 rfl) ?_
        refine gfX4_15 B hT hW hk ((va_up_ne _ _ n1).trans he) rfl dX4_holdFrom_19 ?_
        refine lv_iload_n hx hb dX4_holdFrom_22 rfl (lv_at hl 3 rfl) ?_
        refine b_zald B hW htz (j := d1) hkt ((va_up_ne _ _ n3.symm).trans het) (vp_in_nI (by omega) (Nat.le_of_ble_eq_true rfl)) (nI_clamp (by omega)) dX4_holdFrom_23 ?_
        refine lv_if_ne (tgt := 40) hx hb dX4_holdFrom_24 (by decide) (fun c_24 => ?_) (fun c_24 => ?_)
        · skip
          exact e_v hQ B hr hlk hS hW dX4_holdFrom_40 (by decide) (by decide) (by rw [← hf1, hF_n q15 c_24])
        · skip
          have c0 : g d1 = 0 := c_24
          refine lv_aload_n hx hb dX4_holdFrom_27 rfl (lv_at hl 0 rfl) ?_
          refine gfX4_9 B hT hW hk ((va_up_ne _ _ n1).trans he) rfl dX4_holdFrom_28 ?_
          refine lv_iload_n hx hb dX4_holdFrom_31 rfl (lv_at hl 3 rfl) ?_
          refine lv_iload_n hx hb dX4_holdFrom_32 rfl (lv_at hl 1 rfl) ?_
          refine b_iast B hI hA hW hS hti (j := d1) hkv (va_up_self _ _ _) (vp_in_nI (by omega) (Nat.le_of_ble_eq_true rfl)) (nI_clamp (by omega)) dX4_holdFrom_33 (fun H locs hW hS => ?_)
          have hW := hW.eq (E' := va_up E kv (.inl (cI, 360, .inl (upd f1 d1 v)))) (bx_uu _ _ _ _)
          refine lv_iinc (v := (nI (d1 + 1))) (lv' := [(3, .int (nI (d1 + 1))), (0, .ref (ad k)), (1, .int v), (2, .int (nI d))]) hx hb dX4_holdFrom_34 hl (k := 3) rfl (nI_1 d1) (by decide) rfl (fun ls hl => ?_)
          refine lv_goto (tgt := 11) hx hb dX4_holdFrom_37 (by decide) ?_
          exact ih (d1 + 1) (upd f1 d1 v) (by omega) (by omega) (by rw [← hF_s (by omega) c0]; exact hf1) _ _ _ hW hS (lv_sub hl [1, 2, 3, 0] rfl)
  refine lv_aload_n hx hb dX4_holdFrom_0 rfl (lv_at hl 0 rfl) ?_
  refine gfX4_9 B hT hW hk he rfl dX4_holdFrom_1 ?_
  refine lv_iload_n hx hb dX4_holdFrom_4 rfl (lv_at hl 2 rfl) ?_
  refine lv_iload_n hx hb dX4_holdFrom_5 rfl (lv_at hl 1 rfl) ?_
  refine b_iast B hI hA hW hS hti (j := d) hkv hev (vp_in_nI hd (Nat.le_of_ble_eq_true rfl)) (nI_clamp (Nat.lt_trans hd (Nat.le_of_ble_eq_true rfl))) dX4_holdFrom_6 (fun H locs hW hS => ?_)
  have hW := hW.eq (E' := va_up E kv (.inl (cI, 360, .inl (upd f d v)))) rfl
  refine lv_iload_n hx hb dX4_holdFrom_7 rfl (lv_at hl 2 rfl) ?_
  refine lv_iconst (v := 1) hx hb dX4_holdFrom_8 (by decide) ?_
  refine lv_iadd hx hb dX4_holdFrom_9 ?_
  refine b_top (y := nI (d + 1)) (nI_1 d) ?_
  refine lv_istore_n (lv' := [(3, .int (nI (d + 1))), (0, .ref (ad k)), (1, .int v), (2, .int (nI d))]) hx hb dX4_holdFrom_10 rfl hl (by decide) rfl (fun ls hl => ?_)
  exact L_11 (361) (d + 1) (upd f d v) (by omega) (by omega) (by show hF g v (360 - (d + 1)) (d + 1) (upd f d v) = hF g v (359 - d) (d + 1) (upd f d v); rw [show 360 - (d + 1) = 359 - d by omega]) _ _ _ hW hS (lv_sub hl [1, 2, 3, 0] rfl)
set_option maxHeartbeats 4000000 in
set_option maxRecDepth 100000 in
theorem mt_put {l : Launch} {D : va_G} {tys : List (ClassId × FieldType)} {ad : Nat → Nat} {N : Nat} (hI : aI ad N) {E : Nat → va_E} {cI cZ : ClassId} (k kv kt : Nat) {w : Int32} (f g : Nat → Int32) (d : Nat) (v : Int32) (hti : tys[0]? = some (cI, .int)) (htz : tys[1]? = some (cZ, .boolean)) (hk : k < N) (hkv : kv < N) (hkt : kt < N) (he : E k = .inr (4, [.int w, .ref (ad kv), .ref (ad kt)])) (hev : E kv = .inl (cI, 360, .inl f)) (het : E kt = .inl (cZ, 360, .inl g)) (n1 : k ≠ kv) (n2 : k ≠ kt) (n3 : kv ≠ kt) (hd : d < 360) (sz : Nat) : Met l yX4_put (Cond.code yX4_put cX4_put 3 none :: wsL_law) (rmk 1 0 0) (va_Pc [.ref (ad k), .int v, .int (nI d)] (PC D tys ad N E sz)) (Qv D ad N (fun E1 => E1 = va_up (va_up E kt (.inl (cZ, 360, .inl (upd g d 1)))) kv (.inl (cI, 360, .inl (tellV f g d v)))) (cA ad N sz)) 0 0 (cA ad N sz) := by
  refine cm_of (own := RX4) (Qc := Qv D ad N (fun E1 => E1 = va_up (va_up E kt (.inl (cZ, 360, .inl (upd g d 1)))) kv (.inl (cI, 360, .inl (tellV f g d v))))) rfl (by decide +kernel) (Nat.le_of_ble_eq_true rfl) ?_ sz
  intro p e s m args below meth c ls Q B hT hX hW hr hlk hnm hl hS hA hQ
  have hx := B.1
  have hb := B.2.1
  have hl : lv_has ls 3 [(0, .ref (ad k)), (1, .int v), (2, .int (nI d))] := hl
  refine lv_aload_n hx hb dX4_put_0 rfl (lv_at hl 0 rfl) ?_
  refine gfX4_15 B hT hW hk he rfl dX4_put_1 ?_
  refine lv_iload_n hx hb dX4_put_4 rfl (lv_at hl 2 rfl) ?_
  refine lv_iconst (v := 1) hx hb dX4_put_5 (by decide) ?_
  refine b_zast B hI hA hW hS htz (j := d) hkt het (vp_in_nI hd (Nat.le_of_ble_eq_true rfl)) (nI_clamp (Nat.lt_trans hd (Nat.le_of_ble_eq_true rfl))) rfl dX4_put_6 (fun H locs hW hS => ?_)
  have hW := hW.eq (E' := va_up E kt (.inl (cZ, 360, .inl (upd g d 1)))) rfl
  refine lv_aload_n hx hb dX4_put_7 rfl (lv_at hl 0 rfl) ?_
  refine lv_iload_n hx hb dX4_put_8 rfl (lv_at hl 1 rfl) ?_
  refine lv_iload_n hx hb dX4_put_9 rfl (lv_at hl 2 rfl) ?_
  refine b_cv (b_runV B hT hX hW hS (As := [.int v, .int (nI d)]) (rest := []) (fun sz => mt_holdFrom hI k kv kt f (upd g d 1) d v hti htz hk hkv hkt ((va_up_ne _ _ n2).trans he) ((va_up_ne _ _ n3).trans hev) (va_up_self _ _ _) n1 n2 n3 (by omega) sz) (cwX4_29 B.2.2.2.2.1 ⟨by decide, by decide⟩) (b_recv B hW hk ((va_up_ne _ _ n2).trans he) rfl) rfl hl.1 (by decide) dX4_put_10 ⟨by decide, by decide⟩) hS (fun E1 H locs hp_10 hW hS => ?_)
  subst hp_10
  have hW := hW.eq (E' := va_up (va_up E kt (.inl (cZ, 360, .inl (upd g d 1)))) kv (.inl (cI, 360, .inl (hold f (upd g d 1) d v)))) rfl
  exact e_v hQ B hr hlk hS hW dX4_put_13 (by decide) (by decide) rfl
set_option maxHeartbeats 4000000 in
set_option maxRecDepth 100000 in
theorem mt_remove {l : Launch} {D : va_G} {tys : List (ClassId × FieldType)} {ad : Nat → Nat} {N : Nat} (hI : aI ad N) {E : Nat → va_E} {cI cZ : ClassId} (k kv kt : Nat) {w : Int32} (f g : Nat → Int32) (d : Nat) (hti : tys[0]? = some (cI, .int)) (htz : tys[1]? = some (cZ, .boolean)) (hk : k < N) (hkv : kv < N) (hkt : kt < N) (he : E k = .inr (4, [.int w, .ref (ad kv), .ref (ad kt)])) (hev : E kv = .inl (cI, 360, .inl f)) (het : E kt = .inl (cZ, 360, .inl g)) (n1 : k ≠ kv) (n2 : k ≠ kt) (n3 : kv ≠ kt) (hd : d < 360) (sz : Nat) : Met l yX4_remove (Cond.code yX4_remove cX4_remove 2 none :: wsL_law) (rmk 1 0 0) (va_Pc [.ref (ad k), .int (nI d)] (PC D tys ad N E sz)) (Qv D ad N (fun E1 => E1 = va_up (va_up E kt (.inl (cZ, 360, .inl (upd g d 0)))) kv (.inl (cI, 360, .inl (takeV f g d w)))) (cA ad N sz)) 0 0 (cA ad N sz) := by
  refine cm_of (own := RX4) (Qc := Qv D ad N (fun E1 => E1 = va_up (va_up E kt (.inl (cZ, 360, .inl (upd g d 0)))) kv (.inl (cI, 360, .inl (takeV f g d w))))) rfl (by decide +kernel) (Nat.le_of_ble_eq_true rfl) ?_ sz
  intro p e s m args below meth c ls Q B hT hX hW hr hlk hnm hl hS hA hQ
  have hx := B.1
  have hb := B.2.1
  have hl : lv_has ls 2 [(0, .ref (ad k)), (1, .int (nI d))] := hl
  refine lv_aload_n hx hb dX4_remove_0 rfl (lv_at hl 0 rfl) ?_
  refine gfX4_15 B hT hW hk he rfl dX4_remove_1 ?_
  refine lv_iload_n hx hb dX4_remove_4 rfl (lv_at hl 1 rfl) ?_
  refine lv_iconst (v := 0) hx hb dX4_remove_5 (by decide) ?_
  refine b_zast B hI hA hW hS htz (j := d) hkt het (vp_in_nI hd (Nat.le_of_ble_eq_true rfl)) (nI_clamp (Nat.lt_trans hd (Nat.le_of_ble_eq_true rfl))) rfl dX4_remove_6 (fun H locs hW hS => ?_)
  have hW := hW.eq (E' := va_up E kt (.inl (cZ, 360, .inl (upd g d 0)))) rfl
  refine lv_aload_n hx hb dX4_remove_7 rfl (lv_at hl 0 rfl) ?_
  refine lv_iload_n hx hb dX4_remove_8 rfl (lv_at hl 1 rfl) ?_
  refine lv_if_le (tgt := 23) hx hb dX4_remove_9 (by decide) (fun c_9 => ?_) (fun c_9 => ?_)
  · skip
    have q9 : d = 0 := Nat.eq_zero_of_not_pos (fun q => nI_nle q (by omega) c_9)
    refine lv_aload_n hx hb dX4_remove_23 rfl (lv_at hl 0 rfl) ?_
    refine gfX4_19 B hT hW hk ((va_up_ne _ _ n2).trans he) rfl dX4_remove_24 ?_
    refine lv_iload_n hx hb dX4_remove_27 rfl (lv_at hl 1 rfl) ?_
    refine b_cv (b_runV B hT hX hW hS (As := [.int w, .int (nI d)]) (rest := []) (fun sz => mt_holdFrom hI k kv kt f (upd g d 0) d w hti htz hk hkv hkt ((va_up_ne _ _ n2).trans he) ((va_up_ne _ _ n3).trans hev) (va_up_self _ _ _) n1 n2 n3 (by omega) sz) (cwX4_29 B.2.2.2.2.1 ⟨by decide, by decide⟩) (b_recv B hW hk ((va_up_ne _ _ n2).trans he) rfl) rfl hl.1 (by decide) dX4_remove_28 ⟨by decide, by decide⟩) hS (fun E1 H locs hp_28 hW hS => ?_)
    subst hp_28
    have hW := hW.eq (E' := va_up (va_up E kt (.inl (cZ, 360, .inl (upd g d 0)))) kv (.inl (cI, 360, .inl (hold f (upd g d 0) d w)))) rfl
    exact e_v hQ B hr hlk hS hW dX4_remove_31 (by decide) (by decide) (by unfold takeV; rw [if_pos q9])
  · skip
    have q9 : 0 < d := Nat.pos_of_ne_zero (fun q => c_9 (by rw [q]; decide))
    refine lv_aload_n hx hb dX4_remove_12 rfl (lv_at hl 0 rfl) ?_
    refine gfX4_9 B hT hW hk ((va_up_ne _ _ n2).trans he) rfl dX4_remove_13 ?_
    refine lv_iload_n hx hb dX4_remove_16 rfl (lv_at hl 1 rfl) ?_
    refine lv_iconst (v := 1) hx hb dX4_remove_17 (by decide) ?_
    refine lv_isub hx hb dX4_remove_18 ?_
    refine b_top (y := nI (d - 1)) (pk_sub q9) ?_
    refine b_iald B hW hti (j := (d - 1)) hkv ((va_up_ne _ _ n3).trans hev) (vp_in_nI (by omega) (Nat.le_of_ble_eq_true rfl)) (nI_clamp (by omega)) dX4_remove_19 ?_
    refine lv_goto (tgt := 27) hx hb dX4_remove_20 (by decide) ?_
    refine lv_iload_n hx hb dX4_remove_27 rfl (lv_at hl 1 rfl) ?_
    refine b_cv (b_runV B hT hX hW hS (As := [.int (f (d - 1)), .int (nI d)]) (rest := []) (fun sz => mt_holdFrom hI k kv kt f (upd g d 0) d (f (d - 1)) hti htz hk hkv hkt ((va_up_ne _ _ n2).trans he) ((va_up_ne _ _ n3).trans hev) (va_up_self _ _ _) n1 n2 n3 (by omega) sz) (cwX4_29 B.2.2.2.2.1 ⟨by decide, by decide⟩) (b_recv B hW hk ((va_up_ne _ _ n2).trans he) rfl) rfl hl.1 (by decide) dX4_remove_28 ⟨by decide, by decide⟩) hS (fun E1 H locs hp_28 hW hS => ?_)
    subst hp_28
    have hW := hW.eq (E' := va_up (va_up E kt (.inl (cZ, 360, .inl (upd g d 0)))) kv (.inl (cI, 360, .inl (hold f (upd g d 0) d (f (d - 1)))))) rfl
    exact e_v hQ B hr hlk hS hW dX4_remove_31 (by decide) (by decide) (by unfold takeV; rw [if_neg (by omega)])
