set_option maxHeartbeats 4000000 in
set_option maxRecDepth 100000 in
theorem mt_tell {l : Launch} {D : va_G} {tys : List (ClassId × FieldType)} {ad : Nat → Nat} (hI : aI ad 109) {cI cZ cH cP cT : ClassId} (V T : Nat → Nat → Int32) (ag : Nat → Int32) (nP nH rN : Nat) (nf pn : Int32) (sp sk : Int64) (py pd : Nat → Nat → Int32) (so en : Nat → Int32) (rA rC rI aA aC aH aT aP : Int32) (t d : Nat) (v : Int32) (hti : tys[0]? = some (cI, .int)) (htz : cZ = cI) (hth : tys[2]? = some (cH, .object RX1)) (htp : tys[3]? = some (cP, .object RX2)) (htt : tys[4]? = some (cT, .object RX4)) (ht : t < 27) (hd : d < 360) (hbo : narrow .boolean (.int (T t d)) = .int (T t d)) (sz : Nat) : Met l yX5_tell (Cond.code yX5_tell cX5_tell 5 (some .int) :: wsL_law) (rmk 4 0 0) (va_Pc [.ref (ad 0), .ref (ad (20 + t)), .int v, .int (nI d)] (PC D tys ad 109 (cE cI cZ cH cP cT ad V T ag nP nH rN nf pn sp sk py pd so en rA rC rI aA aC aH aT aP) sz)) (Qi D ad 109 (fun r E1 => r = V t d ∧ E1 = cE cI cZ cH cP cT ad (upd2 V t (tellV (V t) (T t) d v)) (upd2 T t (upd (T t) d 1)) ag nP nH rN (if T t d = 0 then nf + 1 else nf) pn sp sk py pd (if T t d = 0 then upd so d (so d + 1) else so) en rA rC rI aA aC aH aT aP) (cA ad 109 sz)) 0 0 (cA ad 109 sz) := by
  refine cm_of (own := RX5) (Qc := Qi D ad 109 (fun r E1 => r = V t d ∧ E1 = cE cI cZ cH cP cT ad (upd2 V t (tellV (V t) (T t) d v)) (upd2 T t (upd (T t) d 1)) ag nP nH rN (if T t d = 0 then nf + 1 else nf) pn sp sk py pd (if T t d = 0 then upd so d (so d + 1) else so) en rA rC rI aA aC aH aT aP)) rfl (by decide +kernel) (Nat.le_of_ble_eq_true rfl) ?_ sz
  intro p e s m args below meth c ls Q B hT hX hW hr hlk hnm hl hS hA hQ
  have hx := B.1
  have hb := B.2.1
  have hl : lv_has ls 5 [(0, .ref (ad 0)), (1, .ref (ad (20 + t))), (2, .int v), (3, .int (nI d))] := hl
  refine lv_aload_n hx hb dX5_tell_0 rfl (lv_at hl 1 rfl) ?_
  refine lv_iload_n hx hb dX5_tell_1 rfl (lv_at hl 3 rfl) ?_
  refine b_ci (b_runV B hT hX hW hS (As := [.int (nI d)]) (rest := []) (fun sz => mt_valueOn hI (20 + t) (47 + t) (74 + t) (V t) (fun _ => 0) d hti (by omega) (by omega) (cE_tl (by omega)) (cE_val (by omega)) (by omega) sz) (cwX5_167 B.2.2.2.2.1 ⟨Nat.le_of_ble_eq_true rfl, Nat.le_of_ble_eq_true rfl⟩) (b_recv B hW (by omega) (cE_tl (by omega)) rfl) rfl hl.1 (Nat.le_of_ble_eq_true rfl) dX5_tell_2 ⟨Nat.le_of_ble_eq_true rfl, Nat.le_of_ble_eq_true rfl⟩) hS (fun r_2 E1 H locs hp_2 hW hS => ?_)
  obtain ⟨hr_, hE_⟩ := hp_2
  subst hr_
  have hW := hW.eq hE_
  refine lv_istore (lv' := [(4, .int ((V t) d)), (0, .ref (ad 0)), (1, .ref (ad (20 + t))), (2, .int v), (3, .int (nI d))]) hx hb dX5_tell_5 hl (by decide) rfl (fun ls hl => ?_)
  refine lv_aload_n hx hb dX5_tell_7 rfl (lv_at hl 2 rfl) ?_
  refine lv_iload_n hx hb dX5_tell_8 rfl (lv_at hl 4 rfl) ?_
  refine b_ci (b_runV B hT hX hW hS (As := [.int (nI d)]) (rest := []) (fun sz => mt_isToldFor hI (20 + t) (47 + t) (74 + t) (fun _ => 0) (T t) d hti (by omega) (by omega) (cE_tl (by omega)) (cE_told (by omega)) (by omega) sz) (cwX5_237 B.2.2.2.2.1 ⟨Nat.le_of_ble_eq_true rfl, Nat.le_of_ble_eq_true rfl⟩) (b_recv B hW (by omega) (cE_tl (by omega)) rfl) rfl hl.1 (Nat.le_of_ble_eq_true rfl) dX5_tell_9 ⟨Nat.le_of_ble_eq_true rfl, Nat.le_of_ble_eq_true rfl⟩) hS (fun r_9 E1 H locs hp_9 hW hS => ?_)
  obtain ⟨hr_, hE_⟩ := hp_9
  subst hr_
  have hW := hW.eq hE_
  refine b_top (y := (T t) d) (nar01 hbo) ?_
  refine lv_if_ne (tgt := 35) hx hb dX5_tell_12 (by decide) (fun c_12 => ?_) (fun c_12 => ?_)
  · skip
    refine lv_aload_n hx hb dX5_tell_35 rfl (lv_at hl 2 rfl) ?_
    refine lv_iload_n hx hb dX5_tell_36 rfl (lv_at hl 3 rfl) ?_
    refine lv_iload_n hx hb dX5_tell_37 rfl (lv_at hl 4 rfl) ?_
    refine b_cv (b_runV B hT hX hW hS (As := [.int v, .int (nI d)]) (rest := []) (fun sz => mt_put hI (20 + t) (47 + t) (74 + t) (V t) (T t) d v hti (by omega) (by omega) (by omega) (cE_tl (by omega)) (cE_val (by omega)) (cE_told (by omega)) (by omega) (by omega) (by omega) (by omega) sz) (cwX5_243 B.2.2.2.2.1 ⟨Nat.le_of_ble_eq_true rfl, Nat.le_of_ble_eq_true rfl⟩) (b_recv B hW (by omega) (cE_tl (by omega)) rfl) rfl hl.1 (Nat.le_of_ble_eq_true rfl) dX5_tell_38 ⟨Nat.le_of_ble_eq_true rfl, Nat.le_of_ble_eq_true rfl⟩) hS (fun E1 H locs hp_38 hW hS => ?_)
    have hW := hW.eq hp_38
    have hW := hW.eq (E' := cE cI cZ cH cP cT ad (upd2 V t (tellV (V t) (T t) d v)) (upd2 T t (upd (T t) d 1)) ag nP nH rN nf pn sp sk py pd so en rA rC rI aA aC aH aT aP) (by rw [cE_uT (by omega), cE_uV (by omega)])
    refine lv_iload hx hb dX5_tell_41 (lv_at hl 0 rfl) ?_
    exact e_i hQ B hr hlk hS hW dX5_tell_43 (Nat.le_of_ble_eq_true rfl) (Nat.le_of_ble_eq_true rfl) (⟨rfl, by rw [if_neg c_12, if_neg c_12]⟩)
  · skip
    refine lv_aload_n hx hb dX5_tell_15 rfl (lv_at hl 1 rfl) ?_
    refine gfX5_27 B hT hW (by decide) cE_0 rfl dX5_tell_16 ?_
    refine lv_iload_n hx hb dX5_tell_19 rfl (lv_at hl 4 rfl) ?_
    refine lv_dup2_11 hx hb dX5_tell_20 rfl rfl ?_
    refine b_iald B hW hti (j := d) (by decide) cE_4 (vp_in_nI (by omega) (Nat.le_of_ble_eq_true rfl)) (nI_clamp (by omega)) dX5_tell_21 ?_
    refine lv_iconst (v := 1) hx hb dX5_tell_22 (by decide) ?_
    refine lv_iadd hx hb dX5_tell_23 ?_
    refine b_iast B hI hA hW hS hti (j := d) (by decide) cE_4 (vp_in_nI (by omega) (Nat.le_of_ble_eq_true rfl)) (nI_clamp (by omega)) dX5_tell_24 (fun H locs hW hS => ?_)
    have hW := hW.eq (E' := cE cI cZ cH cP cT ad V T ag nP nH rN nf pn sp sk py pd (upd so d ((so d) + 1)) en rA rC rI aA aC aH aT aP) (cE_u4 _)
    refine lv_aload_n hx hb dX5_tell_25 rfl (lv_at hl 1 rfl) ?_
    refine lv_dup hx hb dX5_tell_26 rfl ?_
    refine gfX5_208 B hT hW (by decide) cE_0 rfl dX5_tell_27 ?_
    refine lv_iconst (v := 1) hx hb dX5_tell_30 (by decide) ?_
    refine lv_iadd hx hb dX5_tell_31 ?_
    refine pfX5_208 B hT hI hA hW hS (by decide) cE_0 (Nat.le_of_ble_eq_true rfl) rfl (by first | rfl | decide) dX5_tell_32 (fun H locs hW hS => ?_)
    have hW := hW.eq (E' := cE cI cZ cH cP cT ad V T ag nP nH rN (nf + 1) pn sp sk py pd (upd so d ((so d) + 1)) en rA rC rI aA aC aH aT aP) (cE_u0 _ _ _ _ _ _ _)
    refine lv_aload_n hx hb dX5_tell_35 rfl (lv_at hl 2 rfl) ?_
    refine lv_iload_n hx hb dX5_tell_36 rfl (lv_at hl 3 rfl) ?_
    refine lv_iload_n hx hb dX5_tell_37 rfl (lv_at hl 4 rfl) ?_
    refine b_cv (b_runV B hT hX hW hS (As := [.int v, .int (nI d)]) (rest := []) (fun sz => mt_put hI (20 + t) (47 + t) (74 + t) (V t) (T t) d v hti (by omega) (by omega) (by omega) (cE_tl (by omega)) (cE_val (by omega)) (cE_told (by omega)) (by omega) (by omega) (by omega) (by omega) sz) (cwX5_243 B.2.2.2.2.1 ⟨Nat.le_of_ble_eq_true rfl, Nat.le_of_ble_eq_true rfl⟩) (b_recv B hW (by omega) (cE_tl (by omega)) rfl) rfl hl.1 (Nat.le_of_ble_eq_true rfl) dX5_tell_38 ⟨Nat.le_of_ble_eq_true rfl, Nat.le_of_ble_eq_true rfl⟩) hS (fun E1 H locs hp_38 hW hS => ?_)
    have hW := hW.eq hp_38
    have hW := hW.eq (E' := cE cI cZ cH cP cT ad (upd2 V t (tellV (V t) (T t) d v)) (upd2 T t (upd (T t) d 1)) ag nP nH rN (nf + 1) pn sp sk py pd (upd so d ((so d) + 1)) en rA rC rI aA aC aH aT aP) (by rw [cE_uT (by omega), cE_uV (by omega)])
    refine lv_iload hx hb dX5_tell_41 (lv_at hl 0 rfl) ?_
    exact e_i hQ B hr hlk hS hW dX5_tell_43 (Nat.le_of_ble_eq_true rfl) (Nat.le_of_ble_eq_true rfl) (⟨rfl, by rw [if_pos c_12, if_pos c_12]⟩)
set_option maxHeartbeats 4000000 in
set_option maxRecDepth 100000 in
theorem mt_takeBack {l : Launch} {D : va_G} {tys : List (ClassId × FieldType)} {ad : Nat → Nat} (hI : aI ad 109) {cI cZ cH cP cT : ClassId} (V T : Nat → Nat → Int32) (ag : Nat → Int32) (nP nH rN : Nat) (nf pn : Int32) (sp sk : Int64) (py pd : Nat → Nat → Int32) (so en : Nat → Int32) (rA rC rI aA aC aH aT aP : Int32) (t d : Nat) (hti : tys[0]? = some (cI, .int)) (htz : cZ = cI) (hth : tys[2]? = some (cH, .object RX1)) (htp : tys[3]? = some (cP, .object RX2)) (htt : tys[4]? = some (cT, .object RX4)) (ht : t < 27) (hd : d < 360) (sz : Nat) : Met l yX5_takeBack (Cond.code yX5_takeBack cX5_takeBack 4 (some .int) :: wsL_law) (rmk 4 0 0) (va_Pc [.ref (ad 0), .ref (ad (20 + t)), .int (nI d)] (PC D tys ad 109 (cE cI cZ cH cP cT ad V T ag nP nH rN nf pn sp sk py pd so en rA rC rI aA aC aH aT aP) sz)) (Qi D ad 109 (fun r E1 => r = V t d ∧ E1 = cE cI cZ cH cP cT ad (upd2 V t (takeV (V t) (T t) d (w0 t))) (upd2 T t (upd (T t) d 0)) ag nP nH rN (nf - 1) pn sp sk py pd (upd so d (so d - 1)) en rA rC rI aA aC aH aT aP) (cA ad 109 sz)) 0 0 (cA ad 109 sz) := by
  refine cm_of (own := RX5) (Qc := Qi D ad 109 (fun r E1 => r = V t d ∧ E1 = cE cI cZ cH cP cT ad (upd2 V t (takeV (V t) (T t) d (w0 t))) (upd2 T t (upd (T t) d 0)) ag nP nH rN (nf - 1) pn sp sk py pd (upd so d (so d - 1)) en rA rC rI aA aC aH aT aP)) rfl (by decide +kernel) (Nat.le_of_ble_eq_true rfl) ?_ sz
  intro p e s m args below meth c ls Q B hT hX hW hr hlk hnm hl hS hA hQ
  have hx := B.1
  have hb := B.2.1
  have hl : lv_has ls 4 [(0, .ref (ad 0)), (1, .ref (ad (20 + t))), (2, .int (nI d))] := hl
  refine lv_aload_n hx hb dX5_takeBack_0 rfl (lv_at hl 1 rfl) ?_
  refine lv_iload_n hx hb dX5_takeBack_1 rfl (lv_at hl 2 rfl) ?_
  refine b_ci (b_runV B hT hX hW hS (As := [.int (nI d)]) (rest := []) (fun sz => mt_valueOn hI (20 + t) (47 + t) (74 + t) (V t) (fun _ => 0) d hti (by omega) (by omega) (cE_tl (by omega)) (cE_val (by omega)) (by omega) sz) (cwX5_167 B.2.2.2.2.1 ⟨Nat.le_of_ble_eq_true rfl, Nat.le_of_ble_eq_true rfl⟩) (b_recv B hW (by omega) (cE_tl (by omega)) rfl) rfl hl.1 (Nat.le_of_ble_eq_true rfl) dX5_takeBack_2 ⟨Nat.le_of_ble_eq_true rfl, Nat.le_of_ble_eq_true rfl⟩) hS (fun r_2 E1 H locs hp_2 hW hS => ?_)
  obtain ⟨hr_, hE_⟩ := hp_2
  subst hr_
  have hW := hW.eq hE_
  refine lv_istore_n (lv' := [(3, .int ((V t) d)), (0, .ref (ad 0)), (1, .ref (ad (20 + t))), (2, .int (nI d))]) hx hb dX5_takeBack_5 rfl hl (by decide) rfl (fun ls hl => ?_)
  refine lv_aload_n hx hb dX5_takeBack_6 rfl (lv_at hl 1 rfl) ?_
  refine gfX5_27 B hT hW (by decide) cE_0 rfl dX5_takeBack_7 ?_
  refine lv_iload_n hx hb dX5_takeBack_10 rfl (lv_at hl 3 rfl) ?_
  refine lv_dup2_11 hx hb dX5_takeBack_11 rfl rfl ?_
  refine b_iald B hW hti (j := d) (by decide) cE_4 (vp_in_nI (by omega) (Nat.le_of_ble_eq_true rfl)) (nI_clamp (by omega)) dX5_takeBack_12 ?_
  refine lv_iconst (v := 1) hx hb dX5_takeBack_13 (by decide) ?_
  refine lv_isub hx hb dX5_takeBack_14 ?_
  refine b_iast B hI hA hW hS hti (j := d) (by decide) cE_4 (vp_in_nI (by omega) (Nat.le_of_ble_eq_true rfl)) (nI_clamp (by omega)) dX5_takeBack_15 (fun H locs hW hS => ?_)
  have hW := hW.eq (E' := cE cI cZ cH cP cT ad V T ag nP nH rN nf pn sp sk py pd (upd so d ((so d) - 1)) en rA rC rI aA aC aH aT aP) (cE_u4 _)
  refine lv_aload_n hx hb dX5_takeBack_16 rfl (lv_at hl 1 rfl) ?_
  refine lv_dup hx hb dX5_takeBack_17 rfl ?_
  refine gfX5_208 B hT hW (by decide) cE_0 rfl dX5_takeBack_18 ?_
  refine lv_iconst (v := 1) hx hb dX5_takeBack_21 (by decide) ?_
  refine lv_isub hx hb dX5_takeBack_22 ?_
  refine pfX5_208 B hT hI hA hW hS (by decide) cE_0 (Nat.le_of_ble_eq_true rfl) rfl (by first | rfl | decide) dX5_takeBack_23 (fun H locs hW hS => ?_)
  have hW := hW.eq (E' := cE cI cZ cH cP cT ad V T ag nP nH rN (nf - 1) pn sp sk py pd (upd so d ((so d) - 1)) en rA rC rI aA aC aH aT aP) (cE_u0 _ _ _ _ _ _ _)
  refine lv_aload_n hx hb dX5_takeBack_26 rfl (lv_at hl 2 rfl) ?_
  refine lv_iload_n hx hb dX5_takeBack_27 rfl (lv_at hl 3 rfl) ?_
  refine b_cv (b_runV B hT hX hW hS (As := [.int (nI d)]) (rest := []) (fun sz => mt_remove hI (20 + t) (47 + t) (74 + t) (V t) (T t) d hti (by omega) (by omega) (by omega) (cE_tl (by omega)) (cE_val (by omega)) (cE_told (by omega)) (by omega) (by omega) (by omega) (by omega) sz) (cwX5_246 B.2.2.2.2.1 ⟨Nat.le_of_ble_eq_true rfl, Nat.le_of_ble_eq_true rfl⟩) (b_recv B hW (by omega) (cE_tl (by omega)) rfl) rfl hl.1 (Nat.le_of_ble_eq_true rfl) dX5_takeBack_28 ⟨Nat.le_of_ble_eq_true rfl, Nat.le_of_ble_eq_true rfl⟩) hS (fun E1 H locs hp_28 hW hS => ?_)
  have hW := hW.eq hp_28
  have hW := hW.eq (E' := cE cI cZ cH cP cT ad (upd2 V t (takeV (V t) (T t) d (w0 t))) (upd2 T t (upd (T t) d 0)) ag nP nH rN (nf - 1) pn sp sk py pd (upd so d ((so d) - 1)) en rA rC rI aA aC aH aT aP) (by rw [cE_uT (by omega), cE_uV (by omega)])
  refine lv_iload_n hx hb dX5_takeBack_31 rfl (lv_at hl 0 rfl) ?_
  exact e_i hQ B hr hlk hS hW dX5_takeBack_32 (Nat.le_of_ble_eq_true rfl) (Nat.le_of_ble_eq_true rfl) (⟨rfl, rfl⟩)
set_option maxHeartbeats 4000000 in
set_option maxRecDepth 100000 in
theorem mt_findRes {l : Launch} {D : va_G} {tys : List (ClassId × FieldType)} {ad : Nat → Nat} (hI : aI ad 109) {cI cZ cH cP cT : ClassId} (V T : Nat → Nat → Int32) (ag : Nat → Int32) (nP nH rN : Nat) (nf pn : Int32) (sp sk : Int64) (py pd : Nat → Nat → Int32) (so en : Nat → Int32) (rA rC rI aA aC aH aT aP : Int32) (h d : Nat) (hti : tys[0]? = some (cI, .int)) (htz : cZ = cI) (hth : tys[2]? = some (cH, .object RX1)) (htp : tys[3]? = some (cP, .object RX2)) (htt : tys[4]? = some (cT, .object RX4)) (hP8 : nP ≤ 8) (hd : d < 360) (sz : Nat) : Met l yX5_findResidents (Cond.code yX5_findResidents cX5_findResidents 4 none :: wsL_law) (rmk 2 0 0) (va_Pc [.ref (ad 0), .int (nI h), .int (nI d)] (PC D tys ad 109 (cE cI cZ cH cP cT ad V T ag nP nH rN nf pn sp sk py pd so en rA rC rI aA aC aH aT aP) sz)) (Qv D ad 109 (fun E1 => E1 = cE cI cZ cH cP cT ad V T ag nP nH rN nf pn sp sk py pd so en ((cnt V ag (nI h) d nP).1) ((cnt V ag (nI h) d nP).2.1) ((cnt V ag (nI h) d nP).2.2) aA aC aH aT aP) (cA ad 109 sz)) 0 0 (cA ad 109 sz) := by
  refine cm_of (own := RX5) (Qc := Qv D ad 109 (fun E1 => E1 = cE cI cZ cH cP cT ad V T ag nP nH rN nf pn sp sk py pd so en ((cnt V ag (nI h) d nP).1) ((cnt V ag (nI h) d nP).2.1) ((cnt V ag (nI h) d nP).2.2) aA aC aH aT aP)) rfl (by decide +kernel) (Nat.le_of_ble_eq_true rfl) ?_ sz
  intro p e s m args below meth c ls Q B hT hX hW hr hlk hnm hl hS hA hQ
  have hx := B.1
  have hb := B.2.1
  have hl : lv_has ls 4 [(0, .ref (ad 0)), (1, .int (nI h)), (2, .int (nI d))] := hl
  have L_9 : ∀ (n_ : Nat) (i : Nat), (hi : i ≤ nP) → (hn : nP < n_ + i) → ∀ (H : Heap) (locs : List Loc) (ls : Array Slot), hH D ad 109 (cE cI cZ cH cP cT ad V T ag nP nH rN nf pn sp sk py pd so en ((cnt V ag (nI h) d i).1) ((cnt V ag (nI h) d i).2.1) ((cnt V ag (nI h) d i).2.2) aA aC aH aT aP) H → va_S (cA ad 109 s.heap.size) s.heap H locs → lv_has ls 4 [(0, .ref (ad 0)), (1, .int (nI h)), (2, .int (nI d)), (3, .int (nI i))] → W p l e (rmk 2 0 0) s m args below meth c H locs 0 0 Q (F0 m 9 ls []) := by
    intro n_
    induction n_ with
    | zero =>
      intro i hi hn
      omega
    | succ n_ ih =>
      intro i hi hn H locs ls hW hS hl
      refine lv_iload_n hx hb dX5_findResidents_9 rfl (lv_at hl 3 rfl) ?_
      refine lv_aload_n hx hb dX5_findResidents_10 rfl (lv_at hl 0 rfl) ?_
      refine gfX5_63 B hT hW (by decide) cE_0 rfl dX5_findResidents_11 ?_
      refine lv_icmp_ge (tgt := 54) hx hb dX5_findResidents_14 (by decide) (fun c_14 => ?_) (fun c_14 => ?_)
      · skip
        exact e_v hQ B hr hlk hS hW dX5_findResidents_54 (Nat.le_of_ble_eq_true rfl) (Nat.le_of_ble_eq_true rfl) (by rw [show i = nP from Nat.le_antisymm hi ((nI_leI (by omega) (by omega)).mp c_14)])
      · skip
        have q14 : i < nP := Nat.lt_of_not_le (fun q => c_14 ((nI_leI (by omega) (by omega)).mpr q))
        refine lv_aload_n hx hb dX5_findResidents_17 rfl (lv_at hl 0 rfl) ?_
        refine gfX5_11 B hT hW (by decide) cE_0 rfl dX5_findResidents_18 ?_
        refine lv_iload_n hx hb dX5_findResidents_21 rfl (lv_at hl 3 rfl) ?_
        refine b_aald B hW 3 htp (j := i) (by decide) cE_1 (vp_in_nI (by omega) (Nat.le_of_ble_eq_true rfl)) (nI_clamp (by omega)) rfl dX5_findResidents_22 ?_
        refine gfX5_92 B hT hW (by omega) (cE_per (by omega)) rfl dX5_findResidents_23 ?_
        refine lv_iload_n hx hb dX5_findResidents_26 rfl (lv_at hl 2 rfl) ?_
        refine b_ci (b_runV B hT hX hW hS (As := [.int (nI d)]) (rest := []) (fun sz => mt_valueOn hI (20 + i) (47 + i) (74 + i) (V i) (fun _ => 0) d hti (by omega) (by omega) (cE_tl (by omega)) (cE_val (by omega)) (by omega) sz) (cwX5_167 B.2.2.2.2.1 ⟨Nat.le_of_ble_eq_true rfl, Nat.le_of_ble_eq_true rfl⟩) (b_recv B hW (by omega) (cE_tl (by omega)) rfl) rfl hl.1 (Nat.le_of_ble_eq_true rfl) dX5_findResidents_27 ⟨Nat.le_of_ble_eq_true rfl, Nat.le_of_ble_eq_true rfl⟩) hS (fun r_27 E1 H locs hp_27 hW hS => ?_)
        obtain ⟨hr_, hE_⟩ := hp_27
        subst hr_
        have hW := hW.eq hE_
        refine lv_iload_n hx hb dX5_findResidents_30 rfl (lv_at hl 1 rfl) ?_
        refine lv_icmp_ne (tgt := 48) hx hb dX5_findResidents_31 (by decide) (fun c_31 => ?_) (fun c_31 => ?_)
        · skip
          refine lv_iinc (v := (nI (i + 1))) (lv' := [(3, .int (nI (i + 1))), (0, .ref (ad 0)), (1, .int (nI h)), (2, .int (nI d))]) hx hb dX5_findResidents_48 hl (k := 3) rfl (nI_1 i) (by decide) rfl (fun ls hl => ?_)
          refine lv_goto (tgt := 9) hx hb dX5_findResidents_51 (by decide) ?_
          exact ih (i + 1) (by omega) (by omega) _ _ _ (hW.eq (by rw [cnt, if_neg c_31])) hS (lv_sub hl [1, 2, 3, 0] rfl)
        · skip
          refine lv_aload_n hx hb dX5_findResidents_34 rfl (lv_at hl 0 rfl) ?_
          refine gfX5_34 B hT hW (by decide) cE_0 rfl dX5_findResidents_35 ?_
          refine lv_aload_n hx hb dX5_findResidents_38 rfl (lv_at hl 0 rfl) ?_
          refine gfX5_11 B hT hW (by decide) cE_0 rfl dX5_findResidents_39 ?_
          refine lv_iload_n hx hb dX5_findResidents_42 rfl (lv_at hl 3 rfl) ?_
          refine b_aald B hW 3 htp (j := i) (by decide) cE_1 (vp_in_nI (by omega) (Nat.le_of_ble_eq_true rfl)) (nI_clamp (by omega)) rfl dX5_findResidents_43 ?_
          refine lv_iload_n hx hb dX5_findResidents_44 rfl (lv_at hl 2 rfl) ?_
          refine b_cv (b_runV B hT hX hW hS (As := [.ref (ad (8 + i)), .int (nI d)]) (rest := []) (fun sz => mt_radd hI 5 (8 + i) (20 + i) (20 + (8 + i)) (47 + (8 + i)) (74 + (8 + i)) (V (8 + i)) d hti (by decide) (by omega) (by omega) (by omega) cE_5 (cE_per (by omega)) (cE_tl (by omega)) (cE_val (by omega)) (by omega) (by omega) (by omega) (by omega) sz) (cwX5_252 B.2.2.2.2.1 ⟨Nat.le_of_ble_eq_true rfl, Nat.le_of_ble_eq_true rfl⟩) (b_recv B hW (by decide) cE_5 rfl) rfl hl.1 (Nat.le_of_ble_eq_true rfl) dX5_findResidents_45 ⟨Nat.le_of_ble_eq_true rfl, Nat.le_of_ble_eq_true rfl⟩) hS (fun E1 H locs hp_45 hW hS => ?_)
          have hW := hW.eq hp_45
          have hW := hW.eq (E' := cE cI cZ cH cP cT ad V T ag nP nH rN nf pn sp sk py pd so en (((cnt V ag (nI h) d i).1) + (if nI d < ag i then 0 else 1)) (((cnt V ag (nI h) d i).2.1) + (if nI d < ag i then 1 else 0)) (((cnt V ag (nI h) d i).2.2) + (V (8 + i)) d) aA aC aH aT aP) (cE_u5 _ _ _)
          refine lv_iinc (v := (nI (i + 1))) (lv' := [(3, .int (nI (i + 1))), (0, .ref (ad 0)), (1, .int (nI h)), (2, .int (nI d))]) hx hb dX5_findResidents_48 hl (k := 3) rfl (nI_1 i) (by decide) rfl (fun ls hl => ?_)
          refine lv_goto (tgt := 9) hx hb dX5_findResidents_51 (by decide) ?_
          exact ih (i + 1) (by omega) (by omega) _ _ _ (hW.eq (by rw [cnt, if_pos c_31])) hS (lv_sub hl [1, 2, 3, 0] rfl)
  refine lv_aload_n hx hb dX5_findResidents_0 rfl (lv_at hl 0 rfl) ?_
  refine gfX5_34 B hT hW (by decide) cE_0 rfl dX5_findResidents_1 ?_
  refine b_cv (b_runV B hT hX hW hS (As := []) (rest := []) (fun sz => mt_rclear hI 5 (by decide) cE_5 sz) (cwX5_249 B.2.2.2.2.1 ⟨Nat.le_of_ble_eq_true rfl, Nat.le_of_ble_eq_true rfl⟩) (b_recv B hW (by decide) cE_5 rfl) rfl hl.1 (Nat.le_of_ble_eq_true rfl) dX5_findResidents_4 ⟨Nat.le_of_ble_eq_true rfl, Nat.le_of_ble_eq_true rfl⟩) hS (fun E1 H locs hp_4 hW hS => ?_)
  have hW := hW.eq hp_4
  have hW := hW.eq (E' := cE cI cZ cH cP cT ad V T ag nP nH rN nf pn sp sk py pd so en 0 0 0 aA aC aH aT aP) (cE_u5 _ _ _)
  refine lv_iconst (v := 0) hx hb dX5_findResidents_7 (by decide) ?_
  refine lv_istore_n (lv' := [(3, .int 0), (0, .ref (ad 0)), (1, .int (nI h)), (2, .int (nI d))]) hx hb dX5_findResidents_8 rfl hl (by decide) rfl (fun ls hl => ?_)
  exact L_9 (nP + 1) 0 (by omega) (by omega) _ _ _ (hW.eq rfl) hS (lv_sub hl [1, 2, 3, 0] rfl)
theorem lim5_w {cI cZ cH cP cT : ClassId} {ad : Nat → Nat} {V T : Nat → Nat → Int32} {ag : Nat → Int32} {nP nH rN : Nat} {nf pn : Int32} {sp sk : Int64} {py pd : Nat → Nat → Int32} {so en : Nat → Int32} {rA rC rI a c h t m : Int32} : (if a + c + h ≤ 0 ∨ a + c + h ≤ m then cE cI cZ cH cP cT ad V T ag nP nH rN nf pn sp sk py pd so en rA rC rI a c h t 0 else va_up (cE cI cZ cH cP cT ad V T ag nP nH rN nf pn sp sk py pd so en rA rC rI a c h t 0) 6 (.inr (0, [.int (lim3 a c h m).1, .int (lim3 a c h m).2.1, .int (lim3 a c h m).2.2, .int t, .int 1]))) = cE cI cZ cH cP cT ad V T ag nP nH rN nf pn sp sk py pd so en rA rC rI (lim5 a c h t m).1 (lim5 a c h t m).2.1 (lim5 a c h t m).2.2.1 (lim5 a c h t m).2.2.2.1 (lim5 a c h t m).2.2.2.2 := by
  unfold lim5
  split
  · rfl
  · exact cE_u6 _ _ _ _ _
set_option maxHeartbeats 4000000 in
set_option maxRecDepth 100000 in
theorem mt_findAmt {l : Launch} {D : va_G} {tys : List (ClassId × FieldType)} {ad : Nat → Nat} (hI : aI ad 109) {cI cZ cH cP cT : ClassId} (V T : Nat → Nat → Int32) (ag : Nat → Int32) (nP nH rN : Nat) (nf pn : Int32) (sp sk : Int64) (py pd : Nat → Nat → Int32) (so en : Nat → Int32) (rA rC rI aA aC aH aT aP : Int32) (h d : Nat) (hti : tys[0]? = some (cI, .int)) (htz : cZ = cI) (hth : tys[2]? = some (cH, .object RX1)) (htp : tys[3]? = some (cP, .object RX2)) (htt : tys[4]? = some (cT, .object RX4)) (hP8 : nP ≤ 8) (hh : h < 4) (hd : d < 360) (sz : Nat) : Met l yX5_findAmounts (Cond.code yX5_findAmounts cX5_findAmounts 4 none :: wsL_law) (rmk 3 0 0) (va_Pc [.ref (ad 0), .int (nI h), .int (nI d)] (PC D tys ad 109 (cE cI cZ cH cP cT ad V T ag nP nH rN nf pn sp sk py pd so en rA rC rI aA aC aH aT aP) sz)) (Qv D ad 109 (fun E1 => E1 = cE cI cZ cH cP cT ad V T ag nP nH rN nf pn sp sk py pd so en ((cnt V ag (nI h) d nP).1) ((cnt V ag (nI h) d nP).2.1) ((cnt V ag (nI h) d nP).2.2) ((amt V ag nP h d).1) ((amt V ag nP h d).2.1) ((amt V ag nP h d).2.2.1) ((amt V ag nP h d).2.2.2.1) ((amt V ag nP h d).2.2.2.2)) (cA ad 109 sz)) 0 0 (cA ad 109 sz) := by
  refine cm_of (own := RX5) (Qc := Qv D ad 109 (fun E1 => E1 = cE cI cZ cH cP cT ad V T ag nP nH rN nf pn sp sk py pd so en ((cnt V ag (nI h) d nP).1) ((cnt V ag (nI h) d nP).2.1) ((cnt V ag (nI h) d nP).2.2) ((amt V ag nP h d).1) ((amt V ag nP h d).2.1) ((amt V ag nP h d).2.2.1) ((amt V ag nP h d).2.2.2.1) ((amt V ag nP h d).2.2.2.2))) rfl (by decide +kernel) (Nat.le_of_ble_eq_true rfl) ?_ sz
  intro p e s m args below meth c ls Q B hT hX hW hr hlk hnm hl hS hA hQ
  have hx := B.1
  have hb := B.2.1
  have hl : lv_has ls 4 [(0, .ref (ad 0)), (1, .int (nI h)), (2, .int (nI d))] := hl
  refine lv_aload_n hx hb dX5_findAmounts_0 rfl (lv_at hl 0 rfl) ?_
  refine lv_iload_n hx hb dX5_findAmounts_1 rfl (lv_at hl 1 rfl) ?_
  refine lv_iload_n hx hb dX5_findAmounts_2 rfl (lv_at hl 2 rfl) ?_
  refine b_cv (b_runV B hT hX hW hS (As := [.int (nI h), .int (nI d)]) (rest := []) (fun sz => mt_findRes hI V T ag nP nH rN nf pn sp sk py pd so en rA rC rI aA aC aH aT aP h d hti htz hth htp htt hP8 (by omega) sz) (cwX5_171 B.2.2.2.2.1 ⟨Nat.le_of_ble_eq_true rfl, Nat.le_of_ble_eq_true rfl⟩) (b_recv B hW (by decide) cE_0 rfl) rfl hl.1 (Nat.le_of_ble_eq_true rfl) dX5_findAmounts_3 ⟨Nat.le_of_ble_eq_true rfl, Nat.le_of_ble_eq_true rfl⟩) hS (fun E1 H locs hp_3 hW hS => ?_)
  have hW := hW.eq hp_3
  refine lv_aload_n hx hb dX5_findAmounts_6 rfl (lv_at hl 0 rfl) ?_
  refine gfX5_41 B hT hW (by decide) cE_0 rfl dX5_findAmounts_7 ?_
  refine b_cv (b_runV B hT hX hW hS (As := []) (rest := []) (fun sz => mt_aclear hI 6 (by decide) cE_6 sz) (cwX5_256 B.2.2.2.2.1 ⟨Nat.le_of_ble_eq_true rfl, Nat.le_of_ble_eq_true rfl⟩) (b_recv B hW (by decide) cE_6 rfl) rfl hl.1 (Nat.le_of_ble_eq_true rfl) dX5_findAmounts_10 ⟨Nat.le_of_ble_eq_true rfl, Nat.le_of_ble_eq_true rfl⟩) hS (fun E1 H locs hp_10 hW hS => ?_)
  have hW := hW.eq hp_10
  have hW := hW.eq (E' := cE cI cZ cH cP cT ad V T ag nP nH rN nf pn sp sk py pd so en ((cnt V ag (nI h) d nP).1) ((cnt V ag (nI h) d nP).2.1) ((cnt V ag (nI h) d nP).2.2) 0 0 0 0 0) (cE_u6 _ _ _ _ _)
  refine lv_aload_n hx hb dX5_findAmounts_13 rfl (lv_at hl 0 rfl) ?_
  refine gfX5_34 B hT hW (by decide) cE_0 rfl dX5_findAmounts_14 ?_
  refine gfX5_175 B hT hW (by decide) cE_5 rfl dX5_findAmounts_17 ?_
  refine lv_if_ne (tgt := 24) hx hb dX5_findAmounts_20 (by decide) (fun c_20 => ?_) (fun c_20 => ?_)
  · skip
    refine lv_aload_n hx hb dX5_findAmounts_24 rfl (lv_at hl 0 rfl) ?_
    refine gfX5_41 B hT hW (by decide) cE_0 rfl dX5_findAmounts_25 ?_
    refine lv_aload_n hx hb dX5_findAmounts_28 rfl (lv_at hl 0 rfl) ?_
    refine gfX5_34 B hT hW (by decide) cE_0 rfl dX5_findAmounts_29 ?_
    refine gfX5_175 B hT hW (by decide) cE_5 rfl dX5_findAmounts_32 ?_
    refine lv_aload_n hx hb dX5_findAmounts_35 rfl (lv_at hl 0 rfl) ?_
    refine gfX5_23 B hT hW (by decide) cE_0 rfl dX5_findAmounts_36 ?_
    refine lv_iconst (v := 0) hx hb dX5_findAmounts_39 (by decide) ?_
    refine b_aald B hW 4 htt (j := 0) (by decide) cE_3 (vp_in_nI (n := 0) (by decide) (Nat.le_of_ble_eq_true rfl)) rfl rfl dX5_findAmounts_40 ?_
    refine lv_iload_n hx hb dX5_findAmounts_41 rfl (lv_at hl 2 rfl) ?_
    refine b_ci (b_runV B hT hX hW hS (As := [.int (nI d)]) (rest := [.int ((cnt V ag (nI h) d nP).1), .ref (ad 6)]) (fun sz => mt_valueOn hI (20 + (20 + 0)) (47 + (20 + 0)) (74 + (20 + 0)) (V (20 + 0)) (fun _ => 0) d hti (by omega) (by omega) (cE_tl (by omega)) (cE_val (by omega)) (by omega) sz) (cwX5_167 B.2.2.2.2.1 ⟨Nat.le_of_ble_eq_true rfl, Nat.le_of_ble_eq_true rfl⟩) (b_recv B hW (by omega) (cE_tl (by omega)) rfl) rfl hl.1 (Nat.le_of_ble_eq_true rfl) dX5_findAmounts_42 ⟨Nat.le_of_ble_eq_true rfl, Nat.le_of_ble_eq_true rfl⟩) hS (fun r_42 E1 H locs hp_42 hW hS => ?_)
    obtain ⟨hr_, hE_⟩ := hp_42
    subst hr_
    have hW := hW.eq hE_
    refine lv_imul hx hb dX5_findAmounts_45 ?_
    refine pfX5_186 B hT hI hA hW hS (by decide) cE_6 (Nat.le_of_ble_eq_true rfl) rfl (by first | rfl | decide) dX5_findAmounts_46 (fun H locs hW hS => ?_)
    have hW := hW.eq (E' := cE cI cZ cH cP cT ad V T ag nP nH rN nf pn sp sk py pd so en ((cnt V ag (nI h) d nP).1) ((cnt V ag (nI h) d nP).2.1) ((cnt V ag (nI h) d nP).2.2) (((cnt V ag (nI h) d nP).1) * ((V (20 + 0)) d)) 0 0 0 0) (cE_u6 _ _ _ _ _)
    refine lv_aload_n hx hb dX5_findAmounts_49 rfl (lv_at hl 0 rfl) ?_
    refine gfX5_41 B hT hW (by decide) cE_0 rfl dX5_findAmounts_50 ?_
    refine lv_aload_n hx hb dX5_findAmounts_53 rfl (lv_at hl 0 rfl) ?_
    refine gfX5_34 B hT hW (by decide) cE_0 rfl dX5_findAmounts_54 ?_
    refine gfX5_178 B hT hW (by decide) cE_5 rfl dX5_findAmounts_57 ?_
    refine lv_aload_n hx hb dX5_findAmounts_60 rfl (lv_at hl 0 rfl) ?_
    refine gfX5_23 B hT hW (by decide) cE_0 rfl dX5_findAmounts_61 ?_
    refine lv_iconst (v := 1) hx hb dX5_findAmounts_64 (by decide) ?_
    refine b_aald B hW 4 htt (j := 1) (by decide) cE_3 (vp_in_nI (n := 1) (by decide) (Nat.le_of_ble_eq_true rfl)) rfl rfl dX5_findAmounts_65 ?_
    refine lv_iload_n hx hb dX5_findAmounts_66 rfl (lv_at hl 2 rfl) ?_
    refine b_ci (b_runV B hT hX hW hS (As := [.int (nI d)]) (rest := [.int ((cnt V ag (nI h) d nP).2.1), .ref (ad 6)]) (fun sz => mt_valueOn hI (20 + (20 + 1)) (47 + (20 + 1)) (74 + (20 + 1)) (V (20 + 1)) (fun _ => 0) d hti (by omega) (by omega) (cE_tl (by omega)) (cE_val (by omega)) (by omega) sz) (cwX5_167 B.2.2.2.2.1 ⟨Nat.le_of_ble_eq_true rfl, Nat.le_of_ble_eq_true rfl⟩) (b_recv B hW (by omega) (cE_tl (by omega)) rfl) rfl hl.1 (Nat.le_of_ble_eq_true rfl) dX5_findAmounts_67 ⟨Nat.le_of_ble_eq_true rfl, Nat.le_of_ble_eq_true rfl⟩) hS (fun r_67 E1 H locs hp_67 hW hS => ?_)
    obtain ⟨hr_, hE_⟩ := hp_67
    subst hr_
    have hW := hW.eq hE_
    refine lv_imul hx hb dX5_findAmounts_70 ?_
    refine pfX5_189 B hT hI hA hW hS (by decide) cE_6 (Nat.le_of_ble_eq_true rfl) rfl (by first | rfl | decide) dX5_findAmounts_71 (fun H locs hW hS => ?_)
    have hW := hW.eq (E' := cE cI cZ cH cP cT ad V T ag nP nH rN nf pn sp sk py pd so en ((cnt V ag (nI h) d nP).1) ((cnt V ag (nI h) d nP).2.1) ((cnt V ag (nI h) d nP).2.2) (((cnt V ag (nI h) d nP).1) * ((V (20 + 0)) d)) (((cnt V ag (nI h) d nP).2.1) * ((V (20 + 1)) d)) 0 0 0) (cE_u6 _ _ _ _ _)
    refine lv_aload_n hx hb dX5_findAmounts_74 rfl (lv_at hl 0 rfl) ?_
    refine gfX5_34 B hT hW (by decide) cE_0 rfl dX5_findAmounts_75 ?_
    refine gfX5_178 B hT hW (by decide) cE_5 rfl dX5_findAmounts_78 ?_
    refine lv_if_le (tgt := 106) hx hb dX5_findAmounts_81 (by decide) (fun c_81 => ?_) (fun c_81 => ?_)
    · skip
      refine lv_aload_n hx hb dX5_findAmounts_106 rfl (lv_at hl 0 rfl) ?_
      refine gfX5_41 B hT hW (by decide) cE_0 rfl dX5_findAmounts_107 ?_
      refine lv_aload_n hx hb dX5_findAmounts_110 rfl (lv_at hl 0 rfl) ?_
      refine gfX5_17 B hT hW (by decide) cE_0 rfl dX5_findAmounts_111 ?_
      refine lv_iload_n hx hb dX5_findAmounts_114 rfl (lv_at hl 1 rfl) ?_
      refine b_aald B hW 2 hth (j := h) (by decide) cE_2 (vp_in_nI (by omega) (Nat.le_of_ble_eq_true rfl)) (nI_clamp (by omega)) rfl dX5_findAmounts_115 ?_
      refine gfX5_103 B hT hW (by omega) (cE_hh (by omega)) rfl dX5_findAmounts_116 ?_
      refine lv_iload_n hx hb dX5_findAmounts_119 rfl (lv_at hl 2 rfl) ?_
      refine b_ci (b_runV B hT hX hW hS (As := [.int (nI d)]) (rest := [.ref (ad 6)]) (fun sz => mt_valueOn hI (20 + (16 + h)) (47 + (16 + h)) (74 + (16 + h)) (V (16 + h)) (fun _ => 0) d hti (by omega) (by omega) (cE_tl (by omega)) (cE_val (by omega)) (by omega) sz) (cwX5_167 B.2.2.2.2.1 ⟨Nat.le_of_ble_eq_true rfl, Nat.le_of_ble_eq_true rfl⟩) (b_recv B hW (by omega) (cE_tl (by omega)) rfl) rfl hl.1 (Nat.le_of_ble_eq_true rfl) dX5_findAmounts_120 ⟨Nat.le_of_ble_eq_true rfl, Nat.le_of_ble_eq_true rfl⟩) hS (fun r_120 E1 H locs hp_120 hW hS => ?_)
      obtain ⟨hr_, hE_⟩ := hp_120
      subst hr_
      have hW := hW.eq hE_
      refine lv_aload_n hx hb dX5_findAmounts_123 rfl (lv_at hl 0 rfl) ?_
      refine gfX5_23 B hT hW (by decide) cE_0 rfl dX5_findAmounts_124 ?_
      refine lv_iconst (v := 3) hx hb dX5_findAmounts_127 (by decide) ?_
      refine b_aald B hW 4 htt (j := 3) (by decide) cE_3 (vp_in_nI (n := 3) (by decide) (Nat.le_of_ble_eq_true rfl)) rfl rfl dX5_findAmounts_128 ?_
      refine lv_iload_n hx hb dX5_findAmounts_129 rfl (lv_at hl 2 rfl) ?_
      refine b_ci (b_runV B hT hX hW hS (As := [.int (nI d)]) (rest := [.int ((V (16 + h)) d), .ref (ad 6)]) (fun sz => mt_valueOn hI (20 + (20 + 3)) (47 + (20 + 3)) (74 + (20 + 3)) (V (20 + 3)) (fun _ => 0) d hti (by omega) (by omega) (cE_tl (by omega)) (cE_val (by omega)) (by omega) sz) (cwX5_167 B.2.2.2.2.1 ⟨Nat.le_of_ble_eq_true rfl, Nat.le_of_ble_eq_true rfl⟩) (b_recv B hW (by omega) (cE_tl (by omega)) rfl) rfl hl.1 (Nat.le_of_ble_eq_true rfl) dX5_findAmounts_130 ⟨Nat.le_of_ble_eq_true rfl, Nat.le_of_ble_eq_true rfl⟩) hS (fun r_130 E1 H locs hp_130 hW hS => ?_)
      obtain ⟨hr_, hE_⟩ := hp_130
      subst hr_
      have hW := hW.eq hE_
      refine va_mmin hx hb (by rw [B.2.2.1]; exact hl.1.symm) B.2.2.2.1 (B.2.2.2.2.1 _ (r8_in _ (List.mem_of_getElem? (i := 16) rfl))) (B.2.2.2.2.1 _ (r8_in _ (List.mem_of_getElem? (i := 17) rfl))) (B.2.2.2.2.1 _ (r8_in _ (List.mem_of_getElem? (i := 18) rfl))) (B.2.2.2.2.1 _ (r8_in _ (List.mem_of_getElem? (i := 19) rfl))) (Nat.le_of_ble_eq_true rfl) (Nat.le_of_ble_eq_true rfl) (Nat.le_of_ble_eq_true rfl) (Nat.le_of_ble_eq_true rfl) dX5_findAmounts_133 ?_
      refine b_top (y := imin ((V (16 + h)) d) ((V (20 + 3)) d)) rfl ?_
      refine pfX5_192 B hT hI hA hW hS (by decide) cE_6 (Nat.le_of_ble_eq_true rfl) rfl (by first | rfl | decide) dX5_findAmounts_136 (fun H locs hW hS => ?_)
      have hW := hW.eq (E' := cE cI cZ cH cP cT ad V T ag nP nH rN nf pn sp sk py pd so en ((cnt V ag (nI h) d nP).1) ((cnt V ag (nI h) d nP).2.1) ((cnt V ag (nI h) d nP).2.2) (((cnt V ag (nI h) d nP).1) * ((V (20 + 0)) d)) (((cnt V ag (nI h) d nP).2.1) * ((V (20 + 1)) d)) (imin ((V (16 + h)) d) ((V (20 + 3)) d)) 0 0) (cE_u6 _ _ _ _ _)
      refine lv_aload_n hx hb dX5_findAmounts_139 rfl (lv_at hl 0 rfl) ?_
      refine gfX5_34 B hT hW (by decide) cE_0 rfl dX5_findAmounts_140 ?_
      refine gfX5_181 B hT hW (by decide) cE_5 rfl dX5_findAmounts_143 ?_
      refine lv_aload_n hx hb dX5_findAmounts_146 rfl (lv_at hl 0 rfl) ?_
      refine gfX5_23 B hT hW (by decide) cE_0 rfl dX5_findAmounts_147 ?_
      refine lv_iconst (v := 4) hx hb dX5_findAmounts_150 (by decide) ?_
      refine b_aald B hW 4 htt (j := 4) (by decide) cE_3 (vp_in_nI (n := 4) (by decide) (Nat.le_of_ble_eq_true rfl)) rfl rfl dX5_findAmounts_151 ?_
      refine lv_iload_n hx hb dX5_findAmounts_152 rfl (lv_at hl 2 rfl) ?_
      refine b_ci (b_runV B hT hX hW hS (As := [.int (nI d)]) (rest := [.int ((cnt V ag (nI h) d nP).2.2)]) (fun sz => mt_valueOn hI (20 + (20 + 4)) (47 + (20 + 4)) (74 + (20 + 4)) (V (20 + 4)) (fun _ => 0) d hti (by omega) (by omega) (cE_tl (by omega)) (cE_val (by omega)) (by omega) sz) (cwX5_167 B.2.2.2.2.1 ⟨Nat.le_of_ble_eq_true rfl, Nat.le_of_ble_eq_true rfl⟩) (b_recv B hW (by omega) (cE_tl (by omega)) rfl) rfl hl.1 (Nat.le_of_ble_eq_true rfl) dX5_findAmounts_153 ⟨Nat.le_of_ble_eq_true rfl, Nat.le_of_ble_eq_true rfl⟩) hS (fun r_153 E1 H locs hp_153 hW hS => ?_)
      obtain ⟨hr_, hE_⟩ := hp_153
      subst hr_
      have hW := hW.eq hE_
      refine lv_isub hx hb dX5_findAmounts_156 ?_
      refine lv_istore_n (lv' := [(3, .int (((cnt V ag (nI h) d nP).2.2) - ((V (20 + 4)) d))), (0, .ref (ad 0)), (1, .int (nI h)), (2, .int (nI d))]) hx hb dX5_findAmounts_157 rfl hl (by decide) rfl (fun ls hl => ?_)
      refine lv_iload_n hx hb dX5_findAmounts_158 rfl (lv_at hl 0 rfl) ?_
      refine lv_if_le (tgt := 184) hx hb dX5_findAmounts_159 (by decide) (fun c_159 => ?_) (fun c_159 => ?_)
      · skip
        refine lv_aload_n hx hb dX5_findAmounts_184 rfl (lv_at hl 1 rfl) ?_
        refine gfX5_41 B hT hW (by decide) cE_0 rfl dX5_findAmounts_185 ?_
        refine lv_aload_n hx hb dX5_findAmounts_188 rfl (lv_at hl 1 rfl) ?_
        refine gfX5_23 B hT hW (by decide) cE_0 rfl dX5_findAmounts_189 ?_
        refine lv_bipush (v := 6) hx hb dX5_findAmounts_192 (by decide) ?_
        refine b_aald B hW 4 htt (j := 6) (by decide) cE_3 (vp_in_nI (n := 6) (by decide) (Nat.le_of_ble_eq_true rfl)) rfl rfl dX5_findAmounts_194 ?_
        refine lv_iload_n hx hb dX5_findAmounts_195 rfl (lv_at hl 3 rfl) ?_
        refine b_ci (b_runV B hT hX hW hS (As := [.int (nI d)]) (rest := [.ref (ad 6)]) (fun sz => mt_valueOn hI (20 + (20 + 6)) (47 + (20 + 6)) (74 + (20 + 6)) (V (20 + 6)) (fun _ => 0) d hti (by omega) (by omega) (cE_tl (by omega)) (cE_val (by omega)) (by omega) sz) (cwX5_167 B.2.2.2.2.1 ⟨Nat.le_of_ble_eq_true rfl, Nat.le_of_ble_eq_true rfl⟩) (b_recv B hW (by omega) (cE_tl (by omega)) rfl) rfl hl.1 (Nat.le_of_ble_eq_true rfl) dX5_findAmounts_196 ⟨Nat.le_of_ble_eq_true rfl, Nat.le_of_ble_eq_true rfl⟩) hS (fun r_196 E1 H locs hp_196 hW hS => ?_)
        obtain ⟨hr_, hE_⟩ := hp_196
        subst hr_
        have hW := hW.eq hE_
        refine b_cv (b_runV B hT hX hW hS (As := [.int ((V (20 + 6)) d)]) (rest := []) (fun sz => mt_limitTo hI 6 ((V (20 + 6)) d) (by decide) cE_6 sz) (cwX5_265 B.2.2.2.2.1 ⟨Nat.le_of_ble_eq_true rfl, Nat.le_of_ble_eq_true rfl⟩) (b_recv B hW (by decide) cE_6 rfl) rfl hl.1 (Nat.le_of_ble_eq_true rfl) dX5_findAmounts_199 ⟨Nat.le_of_ble_eq_true rfl, Nat.le_of_ble_eq_true rfl⟩) hS (fun E1 H locs hp_199 hW hS => ?_)
        have hW := hW.eq (E' := cE cI cZ cH cP cT ad V T ag nP nH rN nf pn sp sk py pd so en ((cnt V ag (nI h) d nP).1) ((cnt V ag (nI h) d nP).2.1) ((cnt V ag (nI h) d nP).2.2) ((lim5 (((cnt V ag (nI h) d nP).1) * ((V (20 + 0)) d)) (((cnt V ag (nI h) d nP).2.1) * ((V (20 + 1)) d)) (imin ((V (16 + h)) d) ((V (20 + 3)) d)) 0 ((V (20 + 6)) d)).1) ((lim5 (((cnt V ag (nI h) d nP).1) * ((V (20 + 0)) d)) (((cnt V ag (nI h) d nP).2.1) * ((V (20 + 1)) d)) (imin ((V (16 + h)) d) ((V (20 + 3)) d)) 0 ((V (20 + 6)) d)).2.1) ((lim5 (((cnt V ag (nI h) d nP).1) * ((V (20 + 0)) d)) (((cnt V ag (nI h) d nP).2.1) * ((V (20 + 1)) d)) (imin ((V (16 + h)) d) ((V (20 + 3)) d)) 0 ((V (20 + 6)) d)).2.2.1) ((lim5 (((cnt V ag (nI h) d nP).1) * ((V (20 + 0)) d)) (((cnt V ag (nI h) d nP).2.1) * ((V (20 + 1)) d)) (imin ((V (16 + h)) d) ((V (20 + 3)) d)) 0 ((V (20 + 6)) d)).2.2.2.1) ((lim5 (((cnt V ag (nI h) d nP).1) * ((V (20 + 0)) d)) (((cnt V ag (nI h) d nP).2.1) * ((V (20 + 1)) d)) (imin ((V (16 + h)) d) ((V (20 + 3)) d)) 0 ((V (20 + 6)) d)).2.2.2.2)) (by rw [hp_199]; exact lim5_w)
        exact e_v hQ B hr hlk hS hW dX5_findAmounts_202 (Nat.le_of_ble_eq_true rfl) (Nat.le_of_ble_eq_true rfl) (by unfold amt amtC tap5; rw [if_neg c_20, if_pos c_81, if_pos c_159])
      · skip
        refine lv_aload_n hx hb dX5_findAmounts_162 rfl (lv_at hl 1 rfl) ?_
        refine gfX5_41 B hT hW (by decide) cE_0 rfl dX5_findAmounts_163 ?_
        refine lv_iload_n hx hb dX5_findAmounts_166 rfl (lv_at hl 0 rfl) ?_
        refine lv_aload_n hx hb dX5_findAmounts_167 rfl (lv_at hl 1 rfl) ?_
        refine gfX5_23 B hT hW (by decide) cE_0 rfl dX5_findAmounts_168 ?_
        refine lv_iconst (v := 5) hx hb dX5_findAmounts_171 (by decide) ?_
        refine b_aald B hW 4 htt (j := 5) (by decide) cE_3 (vp_in_nI (n := 5) (by decide) (Nat.le_of_ble_eq_true rfl)) rfl rfl dX5_findAmounts_172 ?_
        refine lv_iload_n hx hb dX5_findAmounts_173 rfl (lv_at hl 3 rfl) ?_
        refine b_ci (b_runV B hT hX hW hS (As := [.int (nI d)]) (rest := [.int (((cnt V ag (nI h) d nP).2.2) - ((V (20 + 4)) d)), .ref (ad 6)]) (fun sz => mt_valueOn hI (20 + (20 + 5)) (47 + (20 + 5)) (74 + (20 + 5)) (V (20 + 5)) (fun _ => 0) d hti (by omega) (by omega) (cE_tl (by omega)) (cE_val (by omega)) (by omega) sz) (cwX5_167 B.2.2.2.2.1 ⟨Nat.le_of_ble_eq_true rfl, Nat.le_of_ble_eq_true rfl⟩) (b_recv B hW (by omega) (cE_tl (by omega)) rfl) rfl hl.1 (Nat.le_of_ble_eq_true rfl) dX5_findAmounts_174 ⟨Nat.le_of_ble_eq_true rfl, Nat.le_of_ble_eq_true rfl⟩) hS (fun r_174 E1 H locs hp_174 hW hS => ?_)
        obtain ⟨hr_, hE_⟩ := hp_174
        subst hr_
        have hW := hW.eq hE_
        refine lv_imul hx hb dX5_findAmounts_177 ?_
        refine lv_bipush (v := 100) hx hb dX5_findAmounts_178 (by decide) ?_
        refine lv_idiv hx hb dX5_findAmounts_180 (by decide) ?_
        refine b_cv (b_runV B hT hX hW hS (As := [.int (((((cnt V ag (nI h) d nP).2.2) - ((V (20 + 4)) d)) * ((V (20 + 5)) d)) / 100)]) (rest := []) (fun sz => mt_taper hI 6 (((((cnt V ag (nI h) d nP).2.2) - ((V (20 + 4)) d)) * ((V (20 + 5)) d)) / 100) (by decide) cE_6 sz) (cwX5_262 B.2.2.2.2.1 ⟨Nat.le_of_ble_eq_true rfl, Nat.le_of_ble_eq_true rfl⟩) (b_recv B hW (by decide) cE_6 rfl) rfl hl.1 (Nat.le_of_ble_eq_true rfl) dX5_findAmounts_181 ⟨Nat.le_of_ble_eq_true rfl, Nat.le_of_ble_eq_true rfl⟩) hS (fun E1 H locs hp_181 hW hS => ?_)
        have hW := hW.eq hp_181
        have hW := hW.eq (E' := cE cI cZ cH cP cT ad V T ag nP nH rN nf pn sp sk py pd so en ((cnt V ag (nI h) d nP).1) ((cnt V ag (nI h) d nP).2.1) ((cnt V ag (nI h) d nP).2.2) ((((cnt V ag (nI h) d nP).1) * ((V (20 + 0)) d)) - imin ((((((cnt V ag (nI h) d nP).2.2) - ((V (20 + 4)) d)) * ((V (20 + 5)) d)) / 100) - imin (((((cnt V ag (nI h) d nP).2.2) - ((V (20 + 4)) d)) * ((V (20 + 5)) d)) / 100) (imin ((V (16 + h)) d) ((V (20 + 3)) d))) (((cnt V ag (nI h) d nP).1) * ((V (20 + 0)) d))) (((cnt V ag (nI h) d nP).2.1) * ((V (20 + 1)) d)) ((imin ((V (16 + h)) d) ((V (20 + 3)) d)) - imin (((((cnt V ag (nI h) d nP).2.2) - ((V (20 + 4)) d)) * ((V (20 + 5)) d)) / 100) (imin ((V (16 + h)) d) ((V (20 + 3)) d))) (if imin (((((cnt V ag (nI h) d nP).2.2) - ((V (20 + 4)) d)) * ((V (20 + 5)) d)) / 100) (imin ((V (16 + h)) d) ((V (20 + 3)) d)) + imin ((((((cnt V ag (nI h) d nP).2.2) - ((V (20 + 4)) d)) * ((V (20 + 5)) d)) / 100) - imin (((((cnt V ag (nI h) d nP).2.2) - ((V (20 + 4)) d)) * ((V (20 + 5)) d)) / 100) (imin ((V (16 + h)) d) ((V (20 + 3)) d))) (((cnt V ag (nI h) d nP).1) * ((V (20 + 0)) d)) ≤ 0 then 0 else 1) 0) (cE_u6 _ _ _ _ _)
        refine lv_aload_n hx hb dX5_findAmounts_184 rfl (lv_at hl 1 rfl) ?_
        refine gfX5_41 B hT hW (by decide) cE_0 rfl dX5_findAmounts_185 ?_
        refine lv_aload_n hx hb dX5_findAmounts_188 rfl (lv_at hl 1 rfl) ?_
        refine gfX5_23 B hT hW (by decide) cE_0 rfl dX5_findAmounts_189 ?_
        refine lv_bipush (v := 6) hx hb dX5_findAmounts_192 (by decide) ?_
        refine b_aald B hW 4 htt (j := 6) (by decide) cE_3 (vp_in_nI (n := 6) (by decide) (Nat.le_of_ble_eq_true rfl)) rfl rfl dX5_findAmounts_194 ?_
        refine lv_iload_n hx hb dX5_findAmounts_195 rfl (lv_at hl 3 rfl) ?_
        refine b_ci (b_runV B hT hX hW hS (As := [.int (nI d)]) (rest := [.ref (ad 6)]) (fun sz => mt_valueOn hI (20 + (20 + 6)) (47 + (20 + 6)) (74 + (20 + 6)) (V (20 + 6)) (fun _ => 0) d hti (by omega) (by omega) (cE_tl (by omega)) (cE_val (by omega)) (by omega) sz) (cwX5_167 B.2.2.2.2.1 ⟨Nat.le_of_ble_eq_true rfl, Nat.le_of_ble_eq_true rfl⟩) (b_recv B hW (by omega) (cE_tl (by omega)) rfl) rfl hl.1 (Nat.le_of_ble_eq_true rfl) dX5_findAmounts_196 ⟨Nat.le_of_ble_eq_true rfl, Nat.le_of_ble_eq_true rfl⟩) hS (fun r_196 E1 H locs hp_196 hW hS => ?_)
        obtain ⟨hr_, hE_⟩ := hp_196
        subst hr_
        have hW := hW.eq hE_
        refine b_cv (b_runV B hT hX hW hS (As := [.int ((V (20 + 6)) d)]) (rest := []) (fun sz => mt_limitTo hI 6 ((V (20 + 6)) d) (by decide) cE_6 sz) (cwX5_265 B.2.2.2.2.1 ⟨Nat.le_of_ble_eq_true rfl, Nat.le_of_ble_eq_true rfl⟩) (b_recv B hW (by decide) cE_6 rfl) rfl hl.1 (Nat.le_of_ble_eq_true rfl) dX5_findAmounts_199 ⟨Nat.le_of_ble_eq_true rfl, Nat.le_of_ble_eq_true rfl⟩) hS (fun E1 H locs hp_199 hW hS => ?_)
        have hW := hW.eq (E' := cE cI cZ cH cP cT ad V T ag nP nH rN nf pn sp sk py pd so en ((cnt V ag (nI h) d nP).1) ((cnt V ag (nI h) d nP).2.1) ((cnt V ag (nI h) d nP).2.2) ((lim5 ((((cnt V ag (nI h) d nP).1) * ((V (20 + 0)) d)) - imin ((((((cnt V ag (nI h) d nP).2.2) - ((V (20 + 4)) d)) * ((V (20 + 5)) d)) / 100) - imin (((((cnt V ag (nI h) d nP).2.2) - ((V (20 + 4)) d)) * ((V (20 + 5)) d)) / 100) (imin ((V (16 + h)) d) ((V (20 + 3)) d))) (((cnt V ag (nI h) d nP).1) * ((V (20 + 0)) d))) (((cnt V ag (nI h) d nP).2.1) * ((V (20 + 1)) d)) ((imin ((V (16 + h)) d) ((V (20 + 3)) d)) - imin (((((cnt V ag (nI h) d nP).2.2) - ((V (20 + 4)) d)) * ((V (20 + 5)) d)) / 100) (imin ((V (16 + h)) d) ((V (20 + 3)) d))) (if imin (((((cnt V ag (nI h) d nP).2.2) - ((V (20 + 4)) d)) * ((V (20 + 5)) d)) / 100) (imin ((V (16 + h)) d) ((V (20 + 3)) d)) + imin ((((((cnt V ag (nI h) d nP).2.2) - ((V (20 + 4)) d)) * ((V (20 + 5)) d)) / 100) - imin (((((cnt V ag (nI h) d nP).2.2) - ((V (20 + 4)) d)) * ((V (20 + 5)) d)) / 100) (imin ((V (16 + h)) d) ((V (20 + 3)) d))) (((cnt V ag (nI h) d nP).1) * ((V (20 + 0)) d)) ≤ 0 then 0 else 1) ((V (20 + 6)) d)).1) ((lim5 ((((cnt V ag (nI h) d nP).1) * ((V (20 + 0)) d)) - imin ((((((cnt V ag (nI h) d nP).2.2) - ((V (20 + 4)) d)) * ((V (20 + 5)) d)) / 100) - imin (((((cnt V ag (nI h) d nP).2.2) - ((V (20 + 4)) d)) * ((V (20 + 5)) d)) / 100) (imin ((V (16 + h)) d) ((V (20 + 3)) d))) (((cnt V ag (nI h) d nP).1) * ((V (20 + 0)) d))) (((cnt V ag (nI h) d nP).2.1) * ((V (20 + 1)) d)) ((imin ((V (16 + h)) d) ((V (20 + 3)) d)) - imin (((((cnt V ag (nI h) d nP).2.2) - ((V (20 + 4)) d)) * ((V (20 + 5)) d)) / 100) (imin ((V (16 + h)) d) ((V (20 + 3)) d))) (if imin (((((cnt V ag (nI h) d nP).2.2) - ((V (20 + 4)) d)) * ((V (20 + 5)) d)) / 100) (imin ((V (16 + h)) d) ((V (20 + 3)) d)) + imin ((((((cnt V ag (nI h) d nP).2.2) - ((V (20 + 4)) d)) * ((V (20 + 5)) d)) / 100) - imin (((((cnt V ag (nI h) d nP).2.2) - ((V (20 + 4)) d)) * ((V (20 + 5)) d)) / 100) (imin ((V (16 + h)) d) ((V (20 + 3)) d))) (((cnt V ag (nI h) d nP).1) * ((V (20 + 0)) d)) ≤ 0 then 0 else 1) ((V (20 + 6)) d)).2.1) ((lim5 ((((cnt V ag (nI h) d nP).1) * ((V (20 + 0)) d)) - imin ((((((cnt V ag (nI h) d nP).2.2) - ((V (20 + 4)) d)) * ((V (20 + 5)) d)) / 100) - imin (((((cnt V ag (nI h) d nP).2.2) - ((V (20 + 4)) d)) * ((V (20 + 5)) d)) / 100) (imin ((V (16 + h)) d) ((V (20 + 3)) d))) (((cnt V ag (nI h) d nP).1) * ((V (20 + 0)) d))) (((cnt V ag (nI h) d nP).2.1) * ((V (20 + 1)) d)) ((imin ((V (16 + h)) d) ((V (20 + 3)) d)) - imin (((((cnt V ag (nI h) d nP).2.2) - ((V (20 + 4)) d)) * ((V (20 + 5)) d)) / 100) (imin ((V (16 + h)) d) ((V (20 + 3)) d))) (if imin (((((cnt V ag (nI h) d nP).2.2) - ((V (20 + 4)) d)) * ((V (20 + 5)) d)) / 100) (imin ((V (16 + h)) d) ((V (20 + 3)) d)) + imin ((((((cnt V ag (nI h) d nP).2.2) - ((V (20 + 4)) d)) * ((V (20 + 5)) d)) / 100) - imin (((((cnt V ag (nI h) d nP).2.2) - ((V (20 + 4)) d)) * ((V (20 + 5)) d)) / 100) (imin ((V (16 + h)) d) ((V (20 + 3)) d))) (((cnt V ag (nI h) d nP).1) * ((V (20 + 0)) d)) ≤ 0 then 0 else 1) ((V (20 + 6)) d)).2.2.1) ((lim5 ((((cnt V ag (nI h) d nP).1) * ((V (20 + 0)) d)) - imin ((((((cnt V ag (nI h) d nP).2.2) - ((V (20 + 4)) d)) * ((V (20 + 5)) d)) / 100) - imin (((((cnt V ag (nI h) d nP).2.2) - ((V (20 + 4)) d)) * ((V (20 + 5)) d)) / 100) (imin ((V (16 + h)) d) ((V (20 + 3)) d))) (((cnt V ag (nI h) d nP).1) * ((V (20 + 0)) d))) (((cnt V ag (nI h) d nP).2.1) * ((V (20 + 1)) d)) ((imin ((V (16 + h)) d) ((V (20 + 3)) d)) - imin (((((cnt V ag (nI h) d nP).2.2) - ((V (20 + 4)) d)) * ((V (20 + 5)) d)) / 100) (imin ((V (16 + h)) d) ((V (20 + 3)) d))) (if imin (((((cnt V ag (nI h) d nP).2.2) - ((V (20 + 4)) d)) * ((V (20 + 5)) d)) / 100) (imin ((V (16 + h)) d) ((V (20 + 3)) d)) + imin ((((((cnt V ag (nI h) d nP).2.2) - ((V (20 + 4)) d)) * ((V (20 + 5)) d)) / 100) - imin (((((cnt V ag (nI h) d nP).2.2) - ((V (20 + 4)) d)) * ((V (20 + 5)) d)) / 100) (imin ((V (16 + h)) d) ((V (20 + 3)) d))) (((cnt V ag (nI h) d nP).1) * ((V (20 + 0)) d)) ≤ 0 then 0 else 1) ((V (20 + 6)) d)).2.2.2.1) ((lim5 ((((cnt V ag (nI h) d nP).1) * ((V (20 + 0)) d)) - imin ((((((cnt V ag (nI h) d nP).2.2) - ((V (20 + 4)) d)) * ((V (20 + 5)) d)) / 100) - imin (((((cnt V ag (nI h) d nP).2.2) - ((V (20 + 4)) d)) * ((V (20 + 5)) d)) / 100) (imin ((V (16 + h)) d) ((V (20 + 3)) d))) (((cnt V ag (nI h) d nP).1) * ((V (20 + 0)) d))) (((cnt V ag (nI h) d nP).2.1) * ((V (20 + 1)) d)) ((imin ((V (16 + h)) d) ((V (20 + 3)) d)) - imin (((((cnt V ag (nI h) d nP).2.2) - ((V (20 + 4)) d)) * ((V (20 + 5)) d)) / 100) (imin ((V (16 + h)) d) ((V (20 + 3)) d))) (if imin (((((cnt V ag (nI h) d nP).2.2) - ((V (20 + 4)) d)) * ((V (20 + 5)) d)) / 100) (imin ((V (16 + h)) d) ((V (20 + 3)) d)) + imin ((((((cnt V ag (nI h) d nP).2.2) - ((V (20 + 4)) d)) * ((V (20 + 5)) d)) / 100) - imin (((((cnt V ag (nI h) d nP).2.2) - ((V (20 + 4)) d)) * ((V (20 + 5)) d)) / 100) (imin ((V (16 + h)) d) ((V (20 + 3)) d))) (((cnt V ag (nI h) d nP).1) * ((V (20 + 0)) d)) ≤ 0 then 0 else 1) ((V (20 + 6)) d)).2.2.2.2)) (by rw [hp_199]; exact lim5_w)
        exact e_v hQ B hr hlk hS hW dX5_findAmounts_202 (Nat.le_of_ble_eq_true rfl) (Nat.le_of_ble_eq_true rfl) (by unfold amt amtC tap5; rw [if_neg c_20, if_pos c_81, if_neg c_159])
    · skip
      refine lv_aload_n hx hb dX5_findAmounts_84 rfl (lv_at hl 0 rfl) ?_
      refine gfX5_41 B hT hW (by decide) cE_0 rfl dX5_findAmounts_85 ?_
      refine lv_dup hx hb dX5_findAmounts_88 rfl ?_
      refine gfX5_189 B hT hW (by decide) cE_6 rfl dX5_findAmounts_89 ?_
      refine lv_aload_n hx hb dX5_findAmounts_92 rfl (lv_at hl 0 rfl) ?_
      refine gfX5_23 B hT hW (by decide) cE_0 rfl dX5_findAmounts_93 ?_
      refine lv_iconst (v := 2) hx hb dX5_findAmounts_96 (by decide) ?_
      refine b_aald B hW 4 htt (j := 2) (by decide) cE_3 (vp_in_nI (n := 2) (by decide) (Nat.le_of_ble_eq_true rfl)) rfl rfl dX5_findAmounts_97 ?_
      refine lv_iload_n hx hb dX5_findAmounts_98 rfl (lv_at hl 2 rfl) ?_
      refine b_ci (b_runV B hT hX hW hS (As := [.int (nI d)]) (rest := [.int (((cnt V ag (nI h) d nP).2.1) * ((V (20 + 1)) d)), .ref (ad 6)]) (fun sz => mt_valueOn hI (20 + (20 + 2)) (47 + (20 + 2)) (74 + (20 + 2)) (V (20 + 2)) (fun _ => 0) d hti (by omega) (by omega) (cE_tl (by omega)) (cE_val (by omega)) (by omega) sz) (cwX5_167 B.2.2.2.2.1 ⟨Nat.le_of_ble_eq_true rfl, Nat.le_of_ble_eq_true rfl⟩) (b_recv B hW (by omega) (cE_tl (by omega)) rfl) rfl hl.1 (Nat.le_of_ble_eq_true rfl) dX5_findAmounts_99 ⟨Nat.le_of_ble_eq_true rfl, Nat.le_of_ble_eq_true rfl⟩) hS (fun r_99 E1 H locs hp_99 hW hS => ?_)
      obtain ⟨hr_, hE_⟩ := hp_99
      subst hr_
      have hW := hW.eq hE_
      refine lv_iadd hx hb dX5_findAmounts_102 ?_
      refine pfX5_189 B hT hI hA hW hS (by decide) cE_6 (Nat.le_of_ble_eq_true rfl) rfl (by first | rfl | decide) dX5_findAmounts_103 (fun H locs hW hS => ?_)
      have hW := hW.eq (E' := cE cI cZ cH cP cT ad V T ag nP nH rN nf pn sp sk py pd so en ((cnt V ag (nI h) d nP).1) ((cnt V ag (nI h) d nP).2.1) ((cnt V ag (nI h) d nP).2.2) (((cnt V ag (nI h) d nP).1) * ((V (20 + 0)) d)) ((((cnt V ag (nI h) d nP).2.1) * ((V (20 + 1)) d)) + ((V (20 + 2)) d)) 0 0 0) (cE_u6 _ _ _ _ _)
      refine lv_aload_n hx hb dX5_findAmounts_106 rfl (lv_at hl 0 rfl) ?_
      refine gfX5_41 B hT hW (by decide) cE_0 rfl dX5_findAmounts_107 ?_
      refine lv_aload_n hx hb dX5_findAmounts_110 rfl (lv_at hl 0 rfl) ?_
      refine gfX5_17 B hT hW (by decide) cE_0 rfl dX5_findAmounts_111 ?_
      refine lv_iload_n hx hb dX5_findAmounts_114 rfl (lv_at hl 1 rfl) ?_
      refine b_aald B hW 2 hth (j := h) (by decide) cE_2 (vp_in_nI (by omega) (Nat.le_of_ble_eq_true rfl)) (nI_clamp (by omega)) rfl dX5_findAmounts_115 ?_
      refine gfX5_103 B hT hW (by omega) (cE_hh (by omega)) rfl dX5_findAmounts_116 ?_
      refine lv_iload_n hx hb dX5_findAmounts_119 rfl (lv_at hl 2 rfl) ?_
      refine b_ci (b_runV B hT hX hW hS (As := [.int (nI d)]) (rest := [.ref (ad 6)]) (fun sz => mt_valueOn hI (20 + (16 + h)) (47 + (16 + h)) (74 + (16 + h)) (V (16 + h)) (fun _ => 0) d hti (by omega) (by omega) (cE_tl (by omega)) (cE_val (by omega)) (by omega) sz) (cwX5_167 B.2.2.2.2.1 ⟨Nat.le_of_ble_eq_true rfl, Nat.le_of_ble_eq_true rfl⟩) (b_recv B hW (by omega) (cE_tl (by omega)) rfl) rfl hl.1 (Nat.le_of_ble_eq_true rfl) dX5_findAmounts_120 ⟨Nat.le_of_ble_eq_true rfl, Nat.le_of_ble_eq_true rfl⟩) hS (fun r_120 E1 H locs hp_120 hW hS => ?_)
      obtain ⟨hr_, hE_⟩ := hp_120
      subst hr_
      have hW := hW.eq hE_
      refine lv_aload_n hx hb dX5_findAmounts_123 rfl (lv_at hl 0 rfl) ?_
      refine gfX5_23 B hT hW (by decide) cE_0 rfl dX5_findAmounts_124 ?_
      refine lv_iconst (v := 3) hx hb dX5_findAmounts_127 (by decide) ?_
      refine b_aald B hW 4 htt (j := 3) (by decide) cE_3 (vp_in_nI (n := 3) (by decide) (Nat.le_of_ble_eq_true rfl)) rfl rfl dX5_findAmounts_128 ?_
      refine lv_iload_n hx hb dX5_findAmounts_129 rfl (lv_at hl 2 rfl) ?_
      refine b_ci (b_runV B hT hX hW hS (As := [.int (nI d)]) (rest := [.int ((V (16 + h)) d), .ref (ad 6)]) (fun sz => mt_valueOn hI (20 + (20 + 3)) (47 + (20 + 3)) (74 + (20 + 3)) (V (20 + 3)) (fun _ => 0) d hti (by omega) (by omega) (cE_tl (by omega)) (cE_val (by omega)) (by omega) sz) (cwX5_167 B.2.2.2.2.1 ⟨Nat.le_of_ble_eq_true rfl, Nat.le_of_ble_eq_true rfl⟩) (b_recv B hW (by omega) (cE_tl (by omega)) rfl) rfl hl.1 (Nat.le_of_ble_eq_true rfl) dX5_findAmounts_130 ⟨Nat.le_of_ble_eq_true rfl, Nat.le_of_ble_eq_true rfl⟩) hS (fun r_130 E1 H locs hp_130 hW hS => ?_)
      obtain ⟨hr_, hE_⟩ := hp_130
      subst hr_
      have hW := hW.eq hE_
      refine va_mmin hx hb (by rw [B.2.2.1]; exact hl.1.symm) B.2.2.2.1 (B.2.2.2.2.1 _ (r8_in _ (List.mem_of_getElem? (i := 16) rfl))) (B.2.2.2.2.1 _ (r8_in _ (List.mem_of_getElem? (i := 17) rfl))) (B.2.2.2.2.1 _ (r8_in _ (List.mem_of_getElem? (i := 18) rfl))) (B.2.2.2.2.1 _ (r8_in _ (List.mem_of_getElem? (i := 19) rfl))) (Nat.le_of_ble_eq_true rfl) (Nat.le_of_ble_eq_true rfl) (Nat.le_of_ble_eq_true rfl) (Nat.le_of_ble_eq_true rfl) dX5_findAmounts_133 ?_
      refine b_top (y := imin ((V (16 + h)) d) ((V (20 + 3)) d)) rfl ?_
      refine pfX5_192 B hT hI hA hW hS (by decide) cE_6 (Nat.le_of_ble_eq_true rfl) rfl (by first | rfl | decide) dX5_findAmounts_136 (fun H locs hW hS => ?_)
      have hW := hW.eq (E' := cE cI cZ cH cP cT ad V T ag nP nH rN nf pn sp sk py pd so en ((cnt V ag (nI h) d nP).1) ((cnt V ag (nI h) d nP).2.1) ((cnt V ag (nI h) d nP).2.2) (((cnt V ag (nI h) d nP).1) * ((V (20 + 0)) d)) ((((cnt V ag (nI h) d nP).2.1) * ((V (20 + 1)) d)) + ((V (20 + 2)) d)) (imin ((V (16 + h)) d) ((V (20 + 3)) d)) 0 0) (cE_u6 _ _ _ _ _)
      refine lv_aload_n hx hb dX5_findAmounts_139 rfl (lv_at hl 0 rfl) ?_
      refine gfX5_34 B hT hW (by decide) cE_0 rfl dX5_findAmounts_140 ?_
      refine gfX5_181 B hT hW (by decide) cE_5 rfl dX5_findAmounts_143 ?_
      refine lv_aload_n hx hb dX5_findAmounts_146 rfl (lv_at hl 0 rfl) ?_
      refine gfX5_23 B hT hW (by decide) cE_0 rfl dX5_findAmounts_147 ?_
      refine lv_iconst (v := 4) hx hb dX5_findAmounts_150 (by decide) ?_
      refine b_aald B hW 4 htt (j := 4) (by decide) cE_3 (vp_in_nI (n := 4) (by decide) (Nat.le_of_ble_eq_true rfl)) rfl rfl dX5_findAmounts_151 ?_
      refine lv_iload_n hx hb dX5_findAmounts_152 rfl (lv_at hl 2 rfl) ?_
      refine b_ci (b_runV B hT hX hW hS (As := [.int (nI d)]) (rest := [.int ((cnt V ag (nI h) d nP).2.2)]) (fun sz => mt_valueOn hI (20 + (20 + 4)) (47 + (20 + 4)) (74 + (20 + 4)) (V (20 + 4)) (fun _ => 0) d hti (by omega) (by omega) (cE_tl (by omega)) (cE_val (by omega)) (by omega) sz) (cwX5_167 B.2.2.2.2.1 ⟨Nat.le_of_ble_eq_true rfl, Nat.le_of_ble_eq_true rfl⟩) (b_recv B hW (by omega) (cE_tl (by omega)) rfl) rfl hl.1 (Nat.le_of_ble_eq_true rfl) dX5_findAmounts_153 ⟨Nat.le_of_ble_eq_true rfl, Nat.le_of_ble_eq_true rfl⟩) hS (fun r_153 E1 H locs hp_153 hW hS => ?_)
      obtain ⟨hr_, hE_⟩ := hp_153
      subst hr_
      have hW := hW.eq hE_
      refine lv_isub hx hb dX5_findAmounts_156 ?_
      refine lv_istore_n (lv' := [(3, .int (((cnt V ag (nI h) d nP).2.2) - ((V (20 + 4)) d))), (0, .ref (ad 0)), (1, .int (nI h)), (2, .int (nI d))]) hx hb dX5_findAmounts_157 rfl hl (by decide) rfl (fun ls hl => ?_)
      refine lv_iload_n hx hb dX5_findAmounts_158 rfl (lv_at hl 0 rfl) ?_
      refine lv_if_le (tgt := 184) hx hb dX5_findAmounts_159 (by decide) (fun c_159 => ?_) (fun c_159 => ?_)
      · skip
        refine lv_aload_n hx hb dX5_findAmounts_184 rfl (lv_at hl 1 rfl) ?_
        refine gfX5_41 B hT hW (by decide) cE_0 rfl dX5_findAmounts_185 ?_
        refine lv_aload_n hx hb dX5_findAmounts_188 rfl (lv_at hl 1 rfl) ?_
        refine gfX5_23 B hT hW (by decide) cE_0 rfl dX5_findAmounts_189 ?_
        refine lv_bipush (v := 6) hx hb dX5_findAmounts_192 (by decide) ?_
        refine b_aald B hW 4 htt (j := 6) (by decide) cE_3 (vp_in_nI (n := 6) (by decide) (Nat.le_of_ble_eq_true rfl)) rfl rfl dX5_findAmounts_194 ?_
        refine lv_iload_n hx hb dX5_findAmounts_195 rfl (lv_at hl 3 rfl) ?_
        refine b_ci (b_runV B hT hX hW hS (As := [.int (nI d)]) (rest := [.ref (ad 6)]) (fun sz => mt_valueOn hI (20 + (20 + 6)) (47 + (20 + 6)) (74 + (20 + 6)) (V (20 + 6)) (fun _ => 0) d hti (by omega) (by omega) (cE_tl (by omega)) (cE_val (by omega)) (by omega) sz) (cwX5_167 B.2.2.2.2.1 ⟨Nat.le_of_ble_eq_true rfl, Nat.le_of_ble_eq_true rfl⟩) (b_recv B hW (by omega) (cE_tl (by omega)) rfl) rfl hl.1 (Nat.le_of_ble_eq_true rfl) dX5_findAmounts_196 ⟨Nat.le_of_ble_eq_true rfl, Nat.le_of_ble_eq_true rfl⟩) hS (fun r_196 E1 H locs hp_196 hW hS => ?_)
        obtain ⟨hr_, hE_⟩ := hp_196
        subst hr_
        have hW := hW.eq hE_
        refine b_cv (b_runV B hT hX hW hS (As := [.int ((V (20 + 6)) d)]) (rest := []) (fun sz => mt_limitTo hI 6 ((V (20 + 6)) d) (by decide) cE_6 sz) (cwX5_265 B.2.2.2.2.1 ⟨Nat.le_of_ble_eq_true rfl, Nat.le_of_ble_eq_true rfl⟩) (b_recv B hW (by decide) cE_6 rfl) rfl hl.1 (Nat.le_of_ble_eq_true rfl) dX5_findAmounts_199 ⟨Nat.le_of_ble_eq_true rfl, Nat.le_of_ble_eq_true rfl⟩) hS (fun E1 H locs hp_199 hW hS => ?_)
        have hW := hW.eq (E' := cE cI cZ cH cP cT ad V T ag nP nH rN nf pn sp sk py pd so en ((cnt V ag (nI h) d nP).1) ((cnt V ag (nI h) d nP).2.1) ((cnt V ag (nI h) d nP).2.2) ((lim5 (((cnt V ag (nI h) d nP).1) * ((V (20 + 0)) d)) ((((cnt V ag (nI h) d nP).2.1) * ((V (20 + 1)) d)) + ((V (20 + 2)) d)) (imin ((V (16 + h)) d) ((V (20 + 3)) d)) 0 ((V (20 + 6)) d)).1) ((lim5 (((cnt V ag (nI h) d nP).1) * ((V (20 + 0)) d)) ((((cnt V ag (nI h) d nP).2.1) * ((V (20 + 1)) d)) + ((V (20 + 2)) d)) (imin ((V (16 + h)) d) ((V (20 + 3)) d)) 0 ((V (20 + 6)) d)).2.1) ((lim5 (((cnt V ag (nI h) d nP).1) * ((V (20 + 0)) d)) ((((cnt V ag (nI h) d nP).2.1) * ((V (20 + 1)) d)) + ((V (20 + 2)) d)) (imin ((V (16 + h)) d) ((V (20 + 3)) d)) 0 ((V (20 + 6)) d)).2.2.1) ((lim5 (((cnt V ag (nI h) d nP).1) * ((V (20 + 0)) d)) ((((cnt V ag (nI h) d nP).2.1) * ((V (20 + 1)) d)) + ((V (20 + 2)) d)) (imin ((V (16 + h)) d) ((V (20 + 3)) d)) 0 ((V (20 + 6)) d)).2.2.2.1) ((lim5 (((cnt V ag (nI h) d nP).1) * ((V (20 + 0)) d)) ((((cnt V ag (nI h) d nP).2.1) * ((V (20 + 1)) d)) + ((V (20 + 2)) d)) (imin ((V (16 + h)) d) ((V (20 + 3)) d)) 0 ((V (20 + 6)) d)).2.2.2.2)) (by rw [hp_199]; exact lim5_w)
        exact e_v hQ B hr hlk hS hW dX5_findAmounts_202 (Nat.le_of_ble_eq_true rfl) (Nat.le_of_ble_eq_true rfl) (by unfold amt amtC tap5; rw [if_neg c_20, if_neg c_81, if_pos c_159])
      · skip
        refine lv_aload_n hx hb dX5_findAmounts_162 rfl (lv_at hl 1 rfl) ?_
        refine gfX5_41 B hT hW (by decide) cE_0 rfl dX5_findAmounts_163 ?_
        refine lv_iload_n hx hb dX5_findAmounts_166 rfl (lv_at hl 0 rfl) ?_
        refine lv_aload_n hx hb dX5_findAmounts_167 rfl (lv_at hl 1 rfl) ?_
        refine gfX5_23 B hT hW (by decide) cE_0 rfl dX5_findAmounts_168 ?_
        refine lv_iconst (v := 5) hx hb dX5_findAmounts_171 (by decide) ?_
        refine b_aald B hW 4 htt (j := 5) (by decide) cE_3 (vp_in_nI (n := 5) (by decide) (Nat.le_of_ble_eq_true rfl)) rfl rfl dX5_findAmounts_172 ?_
        refine lv_iload_n hx hb dX5_findAmounts_173 rfl (lv_at hl 3 rfl) ?_
        refine b_ci (b_runV B hT hX hW hS (As := [.int (nI d)]) (rest := [.int (((cnt V ag (nI h) d nP).2.2) - ((V (20 + 4)) d)), .ref (ad 6)]) (fun sz => mt_valueOn hI (20 + (20 + 5)) (47 + (20 + 5)) (74 + (20 + 5)) (V (20 + 5)) (fun _ => 0) d hti (by omega) (by omega) (cE_tl (by omega)) (cE_val (by omega)) (by omega) sz) (cwX5_167 B.2.2.2.2.1 ⟨Nat.le_of_ble_eq_true rfl, Nat.le_of_ble_eq_true rfl⟩) (b_recv B hW (by omega) (cE_tl (by omega)) rfl) rfl hl.1 (Nat.le_of_ble_eq_true rfl) dX5_findAmounts_174 ⟨Nat.le_of_ble_eq_true rfl, Nat.le_of_ble_eq_true rfl⟩) hS (fun r_174 E1 H locs hp_174 hW hS => ?_)
        obtain ⟨hr_, hE_⟩ := hp_174
        subst hr_
        have hW := hW.eq hE_
        refine lv_imul hx hb dX5_findAmounts_177 ?_
        refine lv_bipush (v := 100) hx hb dX5_findAmounts_178 (by decide) ?_
        refine lv_idiv hx hb dX5_findAmounts_180 (by decide) ?_
        refine b_cv (b_runV B hT hX hW hS (As := [.int (((((cnt V ag (nI h) d nP).2.2) - ((V (20 + 4)) d)) * ((V (20 + 5)) d)) / 100)]) (rest := []) (fun sz => mt_taper hI 6 (((((cnt V ag (nI h) d nP).2.2) - ((V (20 + 4)) d)) * ((V (20 + 5)) d)) / 100) (by decide) cE_6 sz) (cwX5_262 B.2.2.2.2.1 ⟨Nat.le_of_ble_eq_true rfl, Nat.le_of_ble_eq_true rfl⟩) (b_recv B hW (by decide) cE_6 rfl) rfl hl.1 (Nat.le_of_ble_eq_true rfl) dX5_findAmounts_181 ⟨Nat.le_of_ble_eq_true rfl, Nat.le_of_ble_eq_true rfl⟩) hS (fun E1 H locs hp_181 hW hS => ?_)
        have hW := hW.eq hp_181
        have hW := hW.eq (E' := cE cI cZ cH cP cT ad V T ag nP nH rN nf pn sp sk py pd so en ((cnt V ag (nI h) d nP).1) ((cnt V ag (nI h) d nP).2.1) ((cnt V ag (nI h) d nP).2.2) ((((cnt V ag (nI h) d nP).1) * ((V (20 + 0)) d)) - imin ((((((cnt V ag (nI h) d nP).2.2) - ((V (20 + 4)) d)) * ((V (20 + 5)) d)) / 100) - imin (((((cnt V ag (nI h) d nP).2.2) - ((V (20 + 4)) d)) * ((V (20 + 5)) d)) / 100) (imin ((V (16 + h)) d) ((V (20 + 3)) d))) (((cnt V ag (nI h) d nP).1) * ((V (20 + 0)) d))) ((((cnt V ag (nI h) d nP).2.1) * ((V (20 + 1)) d)) + ((V (20 + 2)) d)) ((imin ((V (16 + h)) d) ((V (20 + 3)) d)) - imin (((((cnt V ag (nI h) d nP).2.2) - ((V (20 + 4)) d)) * ((V (20 + 5)) d)) / 100) (imin ((V (16 + h)) d) ((V (20 + 3)) d))) (if imin (((((cnt V ag (nI h) d nP).2.2) - ((V (20 + 4)) d)) * ((V (20 + 5)) d)) / 100) (imin ((V (16 + h)) d) ((V (20 + 3)) d)) + imin ((((((cnt V ag (nI h) d nP).2.2) - ((V (20 + 4)) d)) * ((V (20 + 5)) d)) / 100) - imin (((((cnt V ag (nI h) d nP).2.2) - ((V (20 + 4)) d)) * ((V (20 + 5)) d)) / 100) (imin ((V (16 + h)) d) ((V (20 + 3)) d))) (((cnt V ag (nI h) d nP).1) * ((V (20 + 0)) d)) ≤ 0 then 0 else 1) 0) (cE_u6 _ _ _ _ _)
        refine lv_aload_n hx hb dX5_findAmounts_184 rfl (lv_at hl 1 rfl) ?_
        refine gfX5_41 B hT hW (by decide) cE_0 rfl dX5_findAmounts_185 ?_
        refine lv_aload_n hx hb dX5_findAmounts_188 rfl (lv_at hl 1 rfl) ?_
        refine gfX5_23 B hT hW (by decide) cE_0 rfl dX5_findAmounts_189 ?_
        refine lv_bipush (v := 6) hx hb dX5_findAmounts_192 (by decide) ?_
        refine b_aald B hW 4 htt (j := 6) (by decide) cE_3 (vp_in_nI (n := 6) (by decide) (Nat.le_of_ble_eq_true rfl)) rfl rfl dX5_findAmounts_194 ?_
        refine lv_iload_n hx hb dX5_findAmounts_195 rfl (lv_at hl 3 rfl) ?_
        refine b_ci (b_runV B hT hX hW hS (As := [.int (nI d)]) (rest := [.ref (ad 6)]) (fun sz => mt_valueOn hI (20 + (20 + 6)) (47 + (20 + 6)) (74 + (20 + 6)) (V (20 + 6)) (fun _ => 0) d hti (by omega) (by omega) (cE_tl (by omega)) (cE_val (by omega)) (by omega) sz) (cwX5_167 B.2.2.2.2.1 ⟨Nat.le_of_ble_eq_true rfl, Nat.le_of_ble_eq_true rfl⟩) (b_recv B hW (by omega) (cE_tl (by omega)) rfl) rfl hl.1 (Nat.le_of_ble_eq_true rfl) dX5_findAmounts_196 ⟨Nat.le_of_ble_eq_true rfl, Nat.le_of_ble_eq_true rfl⟩) hS (fun r_196 E1 H locs hp_196 hW hS => ?_)
        obtain ⟨hr_, hE_⟩ := hp_196
        subst hr_
        have hW := hW.eq hE_
        refine b_cv (b_runV B hT hX hW hS (As := [.int ((V (20 + 6)) d)]) (rest := []) (fun sz => mt_limitTo hI 6 ((V (20 + 6)) d) (by decide) cE_6 sz) (cwX5_265 B.2.2.2.2.1 ⟨Nat.le_of_ble_eq_true rfl, Nat.le_of_ble_eq_true rfl⟩) (b_recv B hW (by decide) cE_6 rfl) rfl hl.1 (Nat.le_of_ble_eq_true rfl) dX5_findAmounts_199 ⟨Nat.le_of_ble_eq_true rfl, Nat.le_of_ble_eq_true rfl⟩) hS (fun E1 H locs hp_199 hW hS => ?_)
        have hW := hW.eq (E' := cE cI cZ cH cP cT ad V T ag nP nH rN nf pn sp sk py pd so en ((cnt V ag (nI h) d nP).1) ((cnt V ag (nI h) d nP).2.1) ((cnt V ag (nI h) d nP).2.2) ((lim5 ((((cnt V ag (nI h) d nP).1) * ((V (20 + 0)) d)) - imin ((((((cnt V ag (nI h) d nP).2.2) - ((V (20 + 4)) d)) * ((V (20 + 5)) d)) / 100) - imin (((((cnt V ag (nI h) d nP).2.2) - ((V (20 + 4)) d)) * ((V (20 + 5)) d)) / 100) (imin ((V (16 + h)) d) ((V (20 + 3)) d))) (((cnt V ag (nI h) d nP).1) * ((V (20 + 0)) d))) ((((cnt V ag (nI h) d nP).2.1) * ((V (20 + 1)) d)) + ((V (20 + 2)) d)) ((imin ((V (16 + h)) d) ((V (20 + 3)) d)) - imin (((((cnt V ag (nI h) d nP).2.2) - ((V (20 + 4)) d)) * ((V (20 + 5)) d)) / 100) (imin ((V (16 + h)) d) ((V (20 + 3)) d))) (if imin (((((cnt V ag (nI h) d nP).2.2) - ((V (20 + 4)) d)) * ((V (20 + 5)) d)) / 100) (imin ((V (16 + h)) d) ((V (20 + 3)) d)) + imin ((((((cnt V ag (nI h) d nP).2.2) - ((V (20 + 4)) d)) * ((V (20 + 5)) d)) / 100) - imin (((((cnt V ag (nI h) d nP).2.2) - ((V (20 + 4)) d)) * ((V (20 + 5)) d)) / 100) (imin ((V (16 + h)) d) ((V (20 + 3)) d))) (((cnt V ag (nI h) d nP).1) * ((V (20 + 0)) d)) ≤ 0 then 0 else 1) ((V (20 + 6)) d)).1) ((lim5 ((((cnt V ag (nI h) d nP).1) * ((V (20 + 0)) d)) - imin ((((((cnt V ag (nI h) d nP).2.2) - ((V (20 + 4)) d)) * ((V (20 + 5)) d)) / 100) - imin (((((cnt V ag (nI h) d nP).2.2) - ((V (20 + 4)) d)) * ((V (20 + 5)) d)) / 100) (imin ((V (16 + h)) d) ((V (20 + 3)) d))) (((cnt V ag (nI h) d nP).1) * ((V (20 + 0)) d))) ((((cnt V ag (nI h) d nP).2.1) * ((V (20 + 1)) d)) + ((V (20 + 2)) d)) ((imin ((V (16 + h)) d) ((V (20 + 3)) d)) - imin (((((cnt V ag (nI h) d nP).2.2) - ((V (20 + 4)) d)) * ((V (20 + 5)) d)) / 100) (imin ((V (16 + h)) d) ((V (20 + 3)) d))) (if imin (((((cnt V ag (nI h) d nP).2.2) - ((V (20 + 4)) d)) * ((V (20 + 5)) d)) / 100) (imin ((V (16 + h)) d) ((V (20 + 3)) d)) + imin ((((((cnt V ag (nI h) d nP).2.2) - ((V (20 + 4)) d)) * ((V (20 + 5)) d)) / 100) - imin (((((cnt V ag (nI h) d nP).2.2) - ((V (20 + 4)) d)) * ((V (20 + 5)) d)) / 100) (imin ((V (16 + h)) d) ((V (20 + 3)) d))) (((cnt V ag (nI h) d nP).1) * ((V (20 + 0)) d)) ≤ 0 then 0 else 1) ((V (20 + 6)) d)).2.1) ((lim5 ((((cnt V ag (nI h) d nP).1) * ((V (20 + 0)) d)) - imin ((((((cnt V ag (nI h) d nP).2.2) - ((V (20 + 4)) d)) * ((V (20 + 5)) d)) / 100) - imin (((((cnt V ag (nI h) d nP).2.2) - ((V (20 + 4)) d)) * ((V (20 + 5)) d)) / 100) (imin ((V (16 + h)) d) ((V (20 + 3)) d))) (((cnt V ag (nI h) d nP).1) * ((V (20 + 0)) d))) ((((cnt V ag (nI h) d nP).2.1) * ((V (20 + 1)) d)) + ((V (20 + 2)) d)) ((imin ((V (16 + h)) d) ((V (20 + 3)) d)) - imin (((((cnt V ag (nI h) d nP).2.2) - ((V (20 + 4)) d)) * ((V (20 + 5)) d)) / 100) (imin ((V (16 + h)) d) ((V (20 + 3)) d))) (if imin (((((cnt V ag (nI h) d nP).2.2) - ((V (20 + 4)) d)) * ((V (20 + 5)) d)) / 100) (imin ((V (16 + h)) d) ((V (20 + 3)) d)) + imin ((((((cnt V ag (nI h) d nP).2.2) - ((V (20 + 4)) d)) * ((V (20 + 5)) d)) / 100) - imin (((((cnt V ag (nI h) d nP).2.2) - ((V (20 + 4)) d)) * ((V (20 + 5)) d)) / 100) (imin ((V (16 + h)) d) ((V (20 + 3)) d))) (((cnt V ag (nI h) d nP).1) * ((V (20 + 0)) d)) ≤ 0 then 0 else 1) ((V (20 + 6)) d)).2.2.1) ((lim5 ((((cnt V ag (nI h) d nP).1) * ((V (20 + 0)) d)) - imin ((((((cnt V ag (nI h) d nP).2.2) - ((V (20 + 4)) d)) * ((V (20 + 5)) d)) / 100) - imin (((((cnt V ag (nI h) d nP).2.2) - ((V (20 + 4)) d)) * ((V (20 + 5)) d)) / 100) (imin ((V (16 + h)) d) ((V (20 + 3)) d))) (((cnt V ag (nI h) d nP).1) * ((V (20 + 0)) d))) ((((cnt V ag (nI h) d nP).2.1) * ((V (20 + 1)) d)) + ((V (20 + 2)) d)) ((imin ((V (16 + h)) d) ((V (20 + 3)) d)) - imin (((((cnt V ag (nI h) d nP).2.2) - ((V (20 + 4)) d)) * ((V (20 + 5)) d)) / 100) (imin ((V (16 + h)) d) ((V (20 + 3)) d))) (if imin (((((cnt V ag (nI h) d nP).2.2) - ((V (20 + 4)) d)) * ((V (20 + 5)) d)) / 100) (imin ((V (16 + h)) d) ((V (20 + 3)) d)) + imin ((((((cnt V ag (nI h) d nP).2.2) - ((V (20 + 4)) d)) * ((V (20 + 5)) d)) / 100) - imin (((((cnt V ag (nI h) d nP).2.2) - ((V (20 + 4)) d)) * ((V (20 + 5)) d)) / 100) (imin ((V (16 + h)) d) ((V (20 + 3)) d))) (((cnt V ag (nI h) d nP).1) * ((V (20 + 0)) d)) ≤ 0 then 0 else 1) ((V (20 + 6)) d)).2.2.2.1) ((lim5 ((((cnt V ag (nI h) d nP).1) * ((V (20 + 0)) d)) - imin ((((((cnt V ag (nI h) d nP).2.2) - ((V (20 + 4)) d)) * ((V (20 + 5)) d)) / 100) - imin (((((cnt V ag (nI h) d nP).2.2) - ((V (20 + 4)) d)) * ((V (20 + 5)) d)) / 100) (imin ((V (16 + h)) d) ((V (20 + 3)) d))) (((cnt V ag (nI h) d nP).1) * ((V (20 + 0)) d))) ((((cnt V ag (nI h) d nP).2.1) * ((V (20 + 1)) d)) + ((V (20 + 2)) d)) ((imin ((V (16 + h)) d) ((V (20 + 3)) d)) - imin (((((cnt V ag (nI h) d nP).2.2) - ((V (20 + 4)) d)) * ((V (20 + 5)) d)) / 100) (imin ((V (16 + h)) d) ((V (20 + 3)) d))) (if imin (((((cnt V ag (nI h) d nP).2.2) - ((V (20 + 4)) d)) * ((V (20 + 5)) d)) / 100) (imin ((V (16 + h)) d) ((V (20 + 3)) d)) + imin ((((((cnt V ag (nI h) d nP).2.2) - ((V (20 + 4)) d)) * ((V (20 + 5)) d)) / 100) - imin (((((cnt V ag (nI h) d nP).2.2) - ((V (20 + 4)) d)) * ((V (20 + 5)) d)) / 100) (imin ((V (16 + h)) d) ((V (20 + 3)) d))) (((cnt V ag (nI h) d nP).1) * ((V (20 + 0)) d)) ≤ 0 then 0 else 1) ((V (20 + 6)) d)).2.2.2.2)) (by rw [hp_199]; exact lim5_w)
        exact e_v hQ B hr hlk hS hW dX5_findAmounts_202 (Nat.le_of_ble_eq_true rfl) (Nat.le_of_ble_eq_true rfl) (by unfold amt amtC tap5; rw [if_neg c_20, if_neg c_81, if_neg c_159])
  · skip
    exact e_v hQ B hr hlk hS hW dX5_findAmounts_23 (Nat.le_of_ble_eq_true rfl) (Nat.le_of_ble_eq_true rfl) (by unfold amt amtC; rw [if_pos c_20])
