set_option maxHeartbeats 4000000 in
set_option maxRecDepth 100000 in
theorem mt_rclear {l : Launch} {D : va_G} {tys : List (ClassId × FieldType)} {ad : Nat → Nat} {N : Nat} (hI : aI ad N) {E : Nat → va_E} (k : Nat) {a c0 i0 : Int32} (hk : k < N) (he : E k = .inr (3, [.int a, .int c0, .int i0])) (sz : Nat) : Met l yX3_clear (Cond.code yX3_clear cX3_clear 1 none :: wsL_law) (rmk 0 0 0) (va_Pc [.ref (ad k)] (PC D tys ad N E sz)) (Qv D ad N (fun E1 => E1 = va_up E k (.inr (3, [.int 0, .int 0, .int 0]))) (cA ad N sz)) 0 0 (cA ad N sz) := by
  refine cm_of (own := RX3) (Qc := Qv D ad N (fun E1 => E1 = va_up E k (.inr (3, [.int 0, .int 0, .int 0])))) rfl (by decide +kernel) (Nat.le_of_ble_eq_true rfl) ?_ sz
  intro p e s m args below meth c ls Q B hT hX hW hr hlk hnm hl hS hA hQ
  have hx := B.1
  have hb := B.2.1
  have hl : lv_has ls 1 [(0, .ref (ad k))] := hl
  refine lv_aload_n hx hb dX3_clear_0 rfl (lv_at hl 0 rfl) ?_
  refine lv_iconst (v := 0) hx hb dX3_clear_1 (by decide) ?_
  refine pfX3_7 B hT hI hA hW hS hk he (Nat.le_of_ble_eq_true rfl) rfl (by first | rfl | decide) dX3_clear_2 (fun H locs hW hS => ?_)
  have hW := hW.eq (E' := va_up E k (.inr (3, [.int 0, .int c0, .int i0]))) rfl
  refine lv_aload_n hx hb dX3_clear_5 rfl (lv_at hl 0 rfl) ?_
  refine lv_iconst (v := 0) hx hb dX3_clear_6 (by decide) ?_
  refine pfX3_13 B hT hI hA hW hS hk (va_up_self _ _ _) (Nat.le_of_ble_eq_true rfl) rfl (by first | rfl | decide) dX3_clear_7 (fun H locs hW hS => ?_)
  have hW := hW.eq (E' := va_up E k (.inr (3, [.int 0, .int 0, .int i0]))) (bx_uu _ _ _ _)
  refine lv_aload_n hx hb dX3_clear_10 rfl (lv_at hl 0 rfl) ?_
  refine lv_iconst (v := 0) hx hb dX3_clear_11 (by decide) ?_
  refine pfX3_16 B hT hI hA hW hS hk (va_up_self _ _ _) (Nat.le_of_ble_eq_true rfl) rfl (by first | rfl | decide) dX3_clear_12 (fun H locs hW hS => ?_)
  have hW := hW.eq (E' := va_up E k (.inr (3, [.int 0, .int 0, .int 0]))) (bx_uu _ _ _ _)
  exact e_v hQ B hr hlk hS hW dX3_clear_15 (Nat.le_of_ble_eq_true rfl) (Nat.le_of_ble_eq_true rfl) rfl
set_option maxHeartbeats 4000000 in
set_option maxRecDepth 100000 in
theorem mt_radd {l : Launch} {D : va_G} {tys : List (ClassId × FieldType)} {ad : Nat → Nat} {N : Nat} (hI : aI ad N) {E : Nat → va_E} {cI : ClassId} (k kp kh ki kv kt : Nat) {a c0 i0 ag w : Int32} (f : Nat → Int32) (d : Nat) (hti : tys[0]? = some (cI, .int)) (hk : k < N) (hkp : kp < N) (hki : ki < N) (hkv : kv < N) (he : E k = .inr (3, [.int a, .int c0, .int i0])) (hep : E kp = .inr (2, [.int ag, .ref (ad kh), .ref (ad ki)])) (hei : E ki = .inr (4, [.int w, .ref (ad kv), .ref (ad kt)])) (hev : E kv = .inl (cI, 360, .inl f)) (n1 : kp ≠ k) (n2 : ki ≠ k) (n3 : kv ≠ k) (hd : d < 360) (sz : Nat) : Met l yX3_add (Cond.code yX3_add cX3_add 3 none :: wsL_law) (rmk 1 0 0) (va_Pc [.ref (ad k), .ref (ad kp), .int (nI d)] (PC D tys ad N E sz)) (Qv D ad N (fun E1 => E1 = va_up E k (.inr (3, [.int (a + (if nI d < ag then 0 else 1)), .int (c0 + (if nI d < ag then 1 else 0)), .int (i0 + f d)]))) (cA ad N sz)) 0 0 (cA ad N sz) := by
  refine cm_of (own := RX3) (Qc := Qv D ad N (fun E1 => E1 = va_up E k (.inr (3, [.int (a + (if nI d < ag then 0 else 1)), .int (c0 + (if nI d < ag then 1 else 0)), .int (i0 + f d)])))) rfl (by decide +kernel) (Nat.le_of_ble_eq_true rfl) ?_ sz
  intro p e s m args below meth c ls Q B hT hX hW hr hlk hnm hl hS hA hQ
  have hx := B.1
  have hb := B.2.1
  have hl : lv_has ls 3 [(0, .ref (ad k)), (1, .ref (ad kp)), (2, .int (nI d))] := hl
  refine lv_iload_n hx hb dX3_add_0 rfl (lv_at hl 2 rfl) ?_
  refine lv_aload_n hx hb dX3_add_1 rfl (lv_at hl 1 rfl) ?_
  refine gfX3_19 B hT hW hkp hep rfl dX3_add_2 ?_
  refine lv_icmp_lt (tgt := 21) hx hb dX3_add_5 (by decide) (fun c_5 => ?_) (fun c_5 => ?_)
  · skip
    refine lv_aload_n hx hb dX3_add_21 rfl (lv_at hl 0 rfl) ?_
    refine lv_dup hx hb dX3_add_22 rfl ?_
    refine gfX3_13 B hT hW hk he rfl dX3_add_23 ?_
    refine lv_iconst (v := 1) hx hb dX3_add_26 (by decide) ?_
    refine lv_iadd hx hb dX3_add_27 ?_
    refine pfX3_13 B hT hI hA hW hS hk he (Nat.le_of_ble_eq_true rfl) rfl (by first | rfl | decide) dX3_add_28 (fun H locs hW hS => ?_)
    have hW := hW.eq (E' := va_up E k (.inr (3, [.int a, .int (c0 + 1), .int i0]))) rfl
    refine lv_aload_n hx hb dX3_add_31 rfl (lv_at hl 0 rfl) ?_
    refine lv_dup hx hb dX3_add_32 rfl ?_
    refine gfX3_16 B hT hW hk (va_up_self _ _ _) rfl dX3_add_33 ?_
    refine lv_aload_n hx hb dX3_add_36 rfl (lv_at hl 1 rfl) ?_
    refine gfX3_24 B hT hW hkp ((va_up_ne _ _ n1).trans hep) rfl dX3_add_37 ?_
    refine lv_iload_n hx hb dX3_add_40 rfl (lv_at hl 2 rfl) ?_
    refine b_ci (b_runV B hT hX hW hS (As := [.int (nI d)]) (rest := [.int i0, .ref (ad k)]) (fun sz => mt_valueOn hI ki kv kt f (fun _ => 0) d hti hki hkv ((va_up_ne _ _ n2).trans hei) ((va_up_ne _ _ n3).trans hev) (by omega) sz) (cwX3_27 B.2.2.2.2.1 ⟨Nat.le_of_ble_eq_true rfl, Nat.le_of_ble_eq_true rfl⟩) (b_recv B hW hki ((va_up_ne _ _ n2).trans hei) rfl) rfl hl.1 (Nat.le_of_ble_eq_true rfl) dX3_add_41 ⟨Nat.le_of_ble_eq_true rfl, Nat.le_of_ble_eq_true rfl⟩) hS (fun r_41 E1 H locs hp_41 hW hS => ?_)
    obtain ⟨hr_, hE_⟩ := hp_41
    subst hr_
    have hW := hW.eq hE_
    refine lv_iadd hx hb dX3_add_44 ?_
    refine pfX3_16 B hT hI hA hW hS hk (va_up_self _ _ _) (Nat.le_of_ble_eq_true rfl) rfl (by first | rfl | decide) dX3_add_45 (fun H locs hW hS => ?_)
    have hW := hW.eq (E' := va_up E k (.inr (3, [.int a, .int (c0 + 1), .int (i0 + (f d))]))) (bx_uu _ _ _ _)
    exact e_v hQ B hr hlk hS hW dX3_add_48 (Nat.le_of_ble_eq_true rfl) (Nat.le_of_ble_eq_true rfl) (by rw [if_pos c_5, if_pos c_5, Int32.add_zero])
  · skip
    refine lv_aload_n hx hb dX3_add_8 rfl (lv_at hl 0 rfl) ?_
    refine lv_dup hx hb dX3_add_9 rfl ?_
    refine gfX3_7 B hT hW hk he rfl dX3_add_10 ?_
    refine lv_iconst (v := 1) hx hb dX3_add_13 (by decide) ?_
    refine lv_iadd hx hb dX3_add_14 ?_
    refine pfX3_7 B hT hI hA hW hS hk he (Nat.le_of_ble_eq_true rfl) rfl (by first | rfl | decide) dX3_add_15 (fun H locs hW hS => ?_)
    have hW := hW.eq (E' := va_up E k (.inr (3, [.int (a + 1), .int c0, .int i0]))) rfl
    refine lv_goto (tgt := 31) hx hb dX3_add_18 (by decide) ?_
    refine lv_aload_n hx hb dX3_add_31 rfl (lv_at hl 0 rfl) ?_
    refine lv_dup hx hb dX3_add_32 rfl ?_
    refine gfX3_16 B hT hW hk (va_up_self _ _ _) rfl dX3_add_33 ?_
    refine lv_aload_n hx hb dX3_add_36 rfl (lv_at hl 1 rfl) ?_
    refine gfX3_24 B hT hW hkp ((va_up_ne _ _ n1).trans hep) rfl dX3_add_37 ?_
    refine lv_iload_n hx hb dX3_add_40 rfl (lv_at hl 2 rfl) ?_
    refine b_ci (b_runV B hT hX hW hS (As := [.int (nI d)]) (rest := [.int i0, .ref (ad k)]) (fun sz => mt_valueOn hI ki kv kt f (fun _ => 0) d hti hki hkv ((va_up_ne _ _ n2).trans hei) ((va_up_ne _ _ n3).trans hev) (by omega) sz) (cwX3_27 B.2.2.2.2.1 ⟨Nat.le_of_ble_eq_true rfl, Nat.le_of_ble_eq_true rfl⟩) (b_recv B hW hki ((va_up_ne _ _ n2).trans hei) rfl) rfl hl.1 (Nat.le_of_ble_eq_true rfl) dX3_add_41 ⟨Nat.le_of_ble_eq_true rfl, Nat.le_of_ble_eq_true rfl⟩) hS (fun r_41 E1 H locs hp_41 hW hS => ?_)
    obtain ⟨hr_, hE_⟩ := hp_41
    subst hr_
    have hW := hW.eq hE_
    refine lv_iadd hx hb dX3_add_44 ?_
    refine pfX3_16 B hT hI hA hW hS hk (va_up_self _ _ _) (Nat.le_of_ble_eq_true rfl) rfl (by first | rfl | decide) dX3_add_45 (fun H locs hW hS => ?_)
    have hW := hW.eq (E' := va_up E k (.inr (3, [.int (a + 1), .int c0, .int (i0 + (f d))]))) (bx_uu _ _ _ _)
    exact e_v hQ B hr hlk hS hW dX3_add_48 (Nat.le_of_ble_eq_true rfl) (Nat.le_of_ble_eq_true rfl) (by rw [if_neg c_5, if_neg c_5, Int32.add_zero])
set_option maxHeartbeats 4000000 in
set_option maxRecDepth 100000 in
theorem mt_aclear {l : Launch} {D : va_G} {tys : List (ClassId × FieldType)} {ad : Nat → Nat} {N : Nat} (hI : aI ad N) {E : Nat → va_E} (k : Nat) {a c0 h t u : Int32} (hk : k < N) (he : E k = .inr (0, [.int a, .int c0, .int h, .int t, .int u])) (sz : Nat) : Met l yX0_clear (Cond.code yX0_clear cX0_clear 1 none :: wsL_law) (rmk 0 0 0) (va_Pc [.ref (ad k)] (PC D tys ad N E sz)) (Qv D ad N (fun E1 => E1 = va_up E k (.inr (0, [.int 0, .int 0, .int 0, .int 0, .int 0]))) (cA ad N sz)) 0 0 (cA ad N sz) := by
  refine cm_of (own := RX0) (Qc := Qv D ad N (fun E1 => E1 = va_up E k (.inr (0, [.int 0, .int 0, .int 0, .int 0, .int 0])))) rfl (by decide +kernel) (Nat.le_of_ble_eq_true rfl) ?_ sz
  intro p e s m args below meth c ls Q B hT hX hW hr hlk hnm hl hS hA hQ
  have hx := B.1
  have hb := B.2.1
  have hl : lv_has ls 1 [(0, .ref (ad k))] := hl
  refine lv_aload_n hx hb dX0_clear_0 rfl (lv_at hl 0 rfl) ?_
  refine lv_iconst (v := 0) hx hb dX0_clear_1 (by decide) ?_
  refine pfX0_7 B hT hI hA hW hS hk he (Nat.le_of_ble_eq_true rfl) rfl (by first | rfl | decide) dX0_clear_2 (fun H locs hW hS => ?_)
  have hW := hW.eq (E' := va_up E k (.inr (0, [.int 0, .int c0, .int h, .int t, .int u]))) rfl
  refine lv_aload_n hx hb dX0_clear_5 rfl (lv_at hl 0 rfl) ?_
  refine lv_iconst (v := 0) hx hb dX0_clear_6 (by decide) ?_
  refine pfX0_13 B hT hI hA hW hS hk (va_up_self _ _ _) (Nat.le_of_ble_eq_true rfl) rfl (by first | rfl | decide) dX0_clear_7 (fun H locs hW hS => ?_)
  have hW := hW.eq (E' := va_up E k (.inr (0, [.int 0, .int 0, .int h, .int t, .int u]))) (bx_uu _ _ _ _)
  refine lv_aload_n hx hb dX0_clear_10 rfl (lv_at hl 0 rfl) ?_
  refine lv_iconst (v := 0) hx hb dX0_clear_11 (by decide) ?_
  refine pfX0_16 B hT hI hA hW hS hk (va_up_self _ _ _) (Nat.le_of_ble_eq_true rfl) rfl (by first | rfl | decide) dX0_clear_12 (fun H locs hW hS => ?_)
  have hW := hW.eq (E' := va_up E k (.inr (0, [.int 0, .int 0, .int 0, .int t, .int u]))) (bx_uu _ _ _ _)
  refine lv_aload_n hx hb dX0_clear_15 rfl (lv_at hl 0 rfl) ?_
  refine lv_iconst (v := 0) hx hb dX0_clear_16 (by decide) ?_
  refine pfX0_19 B hT hI hA hW hS hk (va_up_self _ _ _) (Nat.le_of_ble_eq_true rfl) (by first | rfl | decide) (by first | rfl | decide) dX0_clear_17 (fun H locs hW hS => ?_)
  have hW := hW.eq (E' := va_up E k (.inr (0, [.int 0, .int 0, .int 0, .int 0, .int u]))) (bx_uu _ _ _ _)
  refine lv_aload_n hx hb dX0_clear_20 rfl (lv_at hl 0 rfl) ?_
  refine lv_iconst (v := 0) hx hb dX0_clear_21 (by decide) ?_
  refine pfX0_23 B hT hI hA hW hS hk (va_up_self _ _ _) (Nat.le_of_ble_eq_true rfl) (by first | rfl | decide) (by first | rfl | decide) dX0_clear_22 (fun H locs hW hS => ?_)
  have hW := hW.eq (E' := va_up E k (.inr (0, [.int 0, .int 0, .int 0, .int 0, .int 0]))) (bx_uu _ _ _ _)
  exact e_v hQ B hr hlk hS hW dX0_clear_25 (Nat.le_of_ble_eq_true rfl) (Nat.le_of_ble_eq_true rfl) rfl
set_option maxHeartbeats 4000000 in
set_option maxRecDepth 100000 in
theorem mt_asum {l : Launch} {D : va_G} {tys : List (ClassId × FieldType)} {ad : Nat → Nat} {N : Nat} (hI : aI ad N) {E : Nat → va_E} (k : Nat) {a c0 h t u : Int32} (hk : k < N) (he : E k = .inr (0, [.int a, .int c0, .int h, .int t, .int u])) (sz : Nat) : Met l yX0_sum (Cond.code yX0_sum cX0_sum 1 (some .int) :: wsL_law) (rmk 0 0 0) (va_Pc [.ref (ad k)] (PC D tys ad N E sz)) (Qi D ad N (fun r E1 => r = a + c0 + h ∧ E1 = E) (cA ad N sz)) 0 0 (cA ad N sz) := by
  refine cm_of (own := RX0) (Qc := Qi D ad N (fun r E1 => r = a + c0 + h ∧ E1 = E)) rfl (by decide +kernel) (Nat.le_of_ble_eq_true rfl) ?_ sz
  intro p e s m args below meth c ls Q B hT hX hW hr hlk hnm hl hS hA hQ
  have hx := B.1
  have hb := B.2.1
  have hl : lv_has ls 1 [(0, .ref (ad k))] := hl
  refine lv_aload_n hx hb dX0_sum_0 rfl (lv_at hl 0 rfl) ?_
  refine gfX0_7 B hT hW hk he rfl dX0_sum_1 ?_
  refine lv_aload_n hx hb dX0_sum_4 rfl (lv_at hl 0 rfl) ?_
  refine gfX0_13 B hT hW hk he rfl dX0_sum_5 ?_
  refine lv_iadd hx hb dX0_sum_8 ?_
  refine lv_aload_n hx hb dX0_sum_9 rfl (lv_at hl 0 rfl) ?_
  refine gfX0_16 B hT hW hk he rfl dX0_sum_10 ?_
  refine lv_iadd hx hb dX0_sum_13 ?_
  exact e_i hQ B hr hlk hS hW dX0_sum_14 (Nat.le_of_ble_eq_true rfl) (Nat.le_of_ble_eq_true rfl) (⟨rfl, rfl⟩)
set_option maxHeartbeats 4000000 in
set_option maxRecDepth 100000 in
theorem mt_taper {l : Launch} {D : va_G} {tys : List (ClassId × FieldType)} {ad : Nat → Nat} {N : Nat} (hI : aI ad N) {E : Nat → va_E} (k : Nat) {a c0 h t u : Int32} (x : Int32) (hk : k < N) (he : E k = .inr (0, [.int a, .int c0, .int h, .int t, .int u])) (sz : Nat) : Met l yX0_taper (Cond.code yX0_taper cX0_taper 4 none :: wsL_law) (rmk 0 0 0) (va_Pc [.ref (ad k), .int x] (PC D tys ad N E sz)) (Qv D ad N (fun E1 => E1 = va_up E k (.inr (0, [.int (a - imin (x - imin x h) a), .int c0, .int (h - imin x h), .int (if imin x h + imin (x - imin x h) a ≤ 0 then 0 else 1), .int u]))) (cA ad N sz)) 0 0 (cA ad N sz) := by
  refine cm_of (own := RX0) (Qc := Qv D ad N (fun E1 => E1 = va_up E k (.inr (0, [.int (a - imin (x - imin x h) a), .int c0, .int (h - imin x h), .int (if imin x h + imin (x - imin x h) a ≤ 0 then 0 else 1), .int u])))) rfl (by decide +kernel) (Nat.le_of_ble_eq_true rfl) ?_ sz
  intro p e s m args below meth c ls Q B hT hX hW hr hlk hnm hl hS hA hQ
  have hx := B.1
  have hb := B.2.1
  have hl : lv_has ls 4 [(0, .ref (ad k)), (1, .int x)] := hl
  refine lv_iload_n hx hb dX0_taper_0 rfl (lv_at hl 1 rfl) ?_
  refine lv_aload_n hx hb dX0_taper_1 rfl (lv_at hl 0 rfl) ?_
  refine gfX0_16 B hT hW hk he rfl dX0_taper_2 ?_
  refine va_mmin hx hb (by rw [B.2.2.1]; exact hl.1.symm) B.2.2.2.1 (B.2.2.2.2.1 _ (r10_in _ (List.mem_of_getElem? (i := 1) rfl))) (B.2.2.2.2.1 _ (r8_in _ (List.mem_of_getElem? (i := 17) rfl))) (B.2.2.2.2.1 _ (r8_in _ (List.mem_of_getElem? (i := 18) rfl))) (B.2.2.2.2.1 _ (r8_in _ (List.mem_of_getElem? (i := 19) rfl))) (Nat.le_of_ble_eq_true rfl) (Nat.le_of_ble_eq_true rfl) (Nat.le_of_ble_eq_true rfl) (Nat.le_of_ble_eq_true rfl) dX0_taper_5 ?_
  refine b_top (y := imin x h) rfl ?_
  refine lv_istore_n (lv' := [(2, .int (imin x h)), (0, .ref (ad k)), (1, .int x)]) hx hb dX0_taper_8 rfl hl (by decide) rfl (fun ls hl => ?_)
  refine lv_iload_n hx hb dX0_taper_9 rfl (lv_at hl 2 rfl) ?_
  refine lv_iload_n hx hb dX0_taper_10 rfl (lv_at hl 0 rfl) ?_
  refine lv_isub hx hb dX0_taper_11 ?_
  refine lv_aload_n hx hb dX0_taper_12 rfl (lv_at hl 1 rfl) ?_
  refine gfX0_7 B hT hW hk he rfl dX0_taper_13 ?_
  refine va_mmin hx hb (by rw [B.2.2.1]; exact hl.1.symm) B.2.2.2.1 (B.2.2.2.2.1 _ (r10_in _ (List.mem_of_getElem? (i := 1) rfl))) (B.2.2.2.2.1 _ (r8_in _ (List.mem_of_getElem? (i := 17) rfl))) (B.2.2.2.2.1 _ (r8_in _ (List.mem_of_getElem? (i := 18) rfl))) (B.2.2.2.2.1 _ (r8_in _ (List.mem_of_getElem? (i := 19) rfl))) (Nat.le_of_ble_eq_true rfl) (Nat.le_of_ble_eq_true rfl) (Nat.le_of_ble_eq_true rfl) (Nat.le_of_ble_eq_true rfl) dX0_taper_16 ?_
  refine b_top (y := imin (x - (imin x h)) a) rfl ?_
  refine lv_istore_n (lv' := [(3, .int (imin (x - (imin x h)) a)), (2, .int (imin x h)), (0, .ref (ad k)), (1, .int x)]) hx hb dX0_taper_19 rfl hl (by decide) rfl (fun ls hl => ?_)
  refine lv_aload_n hx hb dX0_taper_20 rfl (lv_at hl 2 rfl) ?_
  refine lv_dup hx hb dX0_taper_21 rfl ?_
  refine gfX0_16 B hT hW hk he rfl dX0_taper_22 ?_
  refine lv_iload_n hx hb dX0_taper_25 rfl (lv_at hl 1 rfl) ?_
  refine lv_isub hx hb dX0_taper_26 ?_
  refine pfX0_16 B hT hI hA hW hS hk he (Nat.le_of_ble_eq_true rfl) rfl (by first | rfl | decide) dX0_taper_27 (fun H locs hW hS => ?_)
  have hW := hW.eq (E' := va_up E k (.inr (0, [.int a, .int c0, .int (h - (imin x h)), .int t, .int u]))) rfl
  refine lv_aload_n hx hb dX0_taper_30 rfl (lv_at hl 2 rfl) ?_
  refine lv_dup hx hb dX0_taper_31 rfl ?_
  refine gfX0_7 B hT hW hk (va_up_self _ _ _) rfl dX0_taper_32 ?_
  refine lv_iload_n hx hb dX0_taper_35 rfl (lv_at hl 0 rfl) ?_
  refine lv_isub hx hb dX0_taper_36 ?_
  refine pfX0_7 B hT hI hA hW hS hk (va_up_self _ _ _) (Nat.le_of_ble_eq_true rfl) rfl (by first | rfl | decide) dX0_taper_37 (fun H locs hW hS => ?_)
  have hW := hW.eq (E' := va_up E k (.inr (0, [.int (a - (imin (x - (imin x h)) a)), .int c0, .int (h - (imin x h)), .int t, .int u]))) (bx_uu _ _ _ _)
  refine lv_aload_n hx hb dX0_taper_40 rfl (lv_at hl 2 rfl) ?_
  refine lv_iload_n hx hb dX0_taper_41 rfl (lv_at hl 1 rfl) ?_
  refine lv_iload_n hx hb dX0_taper_42 rfl (lv_at hl 0 rfl) ?_
  refine lv_iadd hx hb dX0_taper_43 ?_
  refine lv_if_le (tgt := 51) hx hb dX0_taper_44 (by decide) (fun c_44 => ?_) (fun c_44 => ?_)
  · skip
    refine lv_iconst (v := 0) hx hb dX0_taper_51 (by decide) ?_
    refine pfX0_19 B hT hI hA hW hS hk (va_up_self _ _ _) (Nat.le_of_ble_eq_true rfl) (by first | rfl | decide) (by first | rfl | decide) dX0_taper_52 (fun H locs hW hS => ?_)
    have hW := hW.eq (E' := va_up E k (.inr (0, [.int (a - (imin (x - (imin x h)) a)), .int c0, .int (h - (imin x h)), .int 0, .int u]))) (bx_uu _ _ _ _)
    exact e_v hQ B hr hlk hS hW dX0_taper_55 (Nat.le_of_ble_eq_true rfl) (Nat.le_of_ble_eq_true rfl) (by rw [if_pos c_44])
  · skip
    refine lv_iconst (v := 1) hx hb dX0_taper_47 (by decide) ?_
    refine lv_goto (tgt := 52) hx hb dX0_taper_48 (by decide) ?_
    refine pfX0_19 B hT hI hA hW hS hk (va_up_self _ _ _) (Nat.le_of_ble_eq_true rfl) (by first | rfl | decide) (by first | rfl | decide) dX0_taper_52 (fun H locs hW hS => ?_)
    have hW := hW.eq (E' := va_up E k (.inr (0, [.int (a - (imin (x - (imin x h)) a)), .int c0, .int (h - (imin x h)), .int 1, .int u]))) (bx_uu _ _ _ _)
    exact e_v hQ B hr hlk hS hW dX0_taper_55 (Nat.le_of_ble_eq_true rfl) (Nat.le_of_ble_eq_true rfl) (by rw [if_neg c_44])
set_option maxHeartbeats 4000000 in
set_option maxRecDepth 100000 in
theorem mt_limitTo {l : Launch} {D : va_G} {tys : List (ClassId × FieldType)} {ad : Nat → Nat} {N : Nat} (hI : aI ad N) {E : Nat → va_E} (k : Nat) {a c0 h t u : Int32} (m9 : Int32) (hk : k < N) (he : E k = .inr (0, [.int a, .int c0, .int h, .int t, .int u])) (sz : Nat) : Met l yX0_limitTo (Cond.code yX0_limitTo cX0_limitTo 7 none :: wsL_law) (rmk 1 0 0) (va_Pc [.ref (ad k), .int m9] (PC D tys ad N E sz)) (Qv D ad N (fun E1 => E1 = if a + c0 + h ≤ 0 ∨ a + c0 + h ≤ m9 then E else va_up E k (.inr (0, [.int (lim3 a c0 h m9).1, .int (lim3 a c0 h m9).2.1, .int (lim3 a c0 h m9).2.2, .int t, .int 1]))) (cA ad N sz)) 0 0 (cA ad N sz) := by
  refine cm_of (own := RX0) (Qc := Qv D ad N (fun E1 => E1 = if a + c0 + h ≤ 0 ∨ a + c0 + h ≤ m9 then E else va_up E k (.inr (0, [.int (lim3 a c0 h m9).1, .int (lim3 a c0 h m9).2.1, .int (lim3 a c0 h m9).2.2, .int t, .int 1])))) rfl (by decide +kernel) (Nat.le_of_ble_eq_true rfl) ?_ sz
  intro p e s m args below meth c ls Q B hT hX hW hr hlk hnm hl hS hA hQ
  have hx := B.1
  have hb := B.2.1
  have hl : lv_has ls 7 [(0, .ref (ad k)), (1, .int m9)] := hl
  have L_93 : ∀ (n_ : Nat) (x : Int32) (ra : Int32) (rc : Int32) (rh : Int32) (a1 : Int32) (c1 : Int32) (h1 : Int32), (hcc : ¬ (a + c0 + h ≤ 0 ∨ a + c0 + h ≤ m9)) → (hn : x.toNatClampNeg < n_) → (hsp : spr x.toNatClampNeg a1 c1 h1 ra rc rh = lim3 a c0 h m9) → ∀ (H : Heap) (locs : List Loc) (ls : Array Slot), hH D ad N (va_up E k (.inr (0, [.int a1, .int c1, .int h1, .int t, .int 1]))) H → va_S (cA ad N s.heap.size) s.heap H locs → lv_has ls 7 [(0, .ref (ad k)), (1, .int m9), (2, .int (a + c0 + h)), (3, .int ra), (4, .int rc), (5, .int rh), (6, .int x)] → W p l e (rmk 1 0 0) s m args below meth c H locs 0 0 Q (F0 m 93 ls []) := by
    intro n_
    induction n_ with
    | zero =>
      intro x ra rc rh a1 c1 h1 hcc hn hsp
      exact absurd hn (Nat.not_lt_zero _)
    | succ n_ ih =>
      intro x ra rc rh a1 c1 h1 hcc hn hsp H locs ls hW hS hl
      refine lv_iload hx hb dX0_limitTo_93 (lv_at hl 6 rfl) ?_
      refine lv_if_le (tgt := 167) hx hb dX0_limitTo_95 (by decide) (fun c_95 => ?_) (fun c_95 => ?_)
      · skip
        exact e_v hQ B hr hlk hS hW dX0_limitTo_167 (Nat.le_of_ble_eq_true rfl) (Nat.le_of_ble_eq_true rfl) (by rw [if_neg hcc, ← hsp, cl_np c_95, spr])
      · skip
        refine lv_iload_n hx hb dX0_limitTo_98 rfl (lv_at hl 3 rfl) ?_
        refine lv_iload hx hb dX0_limitTo_99 (lv_at hl 4 rfl) ?_
        refine lv_icmp_lt (tgt := 125) hx hb dX0_limitTo_101 (by decide) (fun c_101 => ?_) (fun c_101 => ?_)
        · skip
          refine lv_iload hx hb dX0_limitTo_125 (lv_at hl 4 rfl) ?_
          refine lv_iload hx hb dX0_limitTo_127 (lv_at hl 5 rfl) ?_
          refine lv_icmp_lt (tgt := 148) hx hb dX0_limitTo_129 (by decide) (fun c_129 => ?_) (fun c_129 => ?_)
          · skip
            refine lv_aload_n hx hb dX0_limitTo_148 rfl (lv_at hl 0 rfl) ?_
            refine lv_dup hx hb dX0_limitTo_149 rfl ?_
            refine gfX0_16 B hT hW hk (va_up_self _ _ _) rfl dX0_limitTo_150 ?_
            refine lv_iconst (v := 1) hx hb dX0_limitTo_153 (by decide) ?_
            refine lv_iadd hx hb dX0_limitTo_154 ?_
            refine pfX0_16 B hT hI hA hW hS hk (va_up_self _ _ _) (Nat.le_of_ble_eq_true rfl) rfl (by first | rfl | decide) dX0_limitTo_155 (fun H locs hW hS => ?_)
            have hW := hW.eq (E' := va_up E k (.inr (0, [.int a1, .int c1, .int (h1 + 1), .int t, .int 1]))) (bx_uu _ _ _ _)
            refine lv_iconst (v := (-1)) hx hb dX0_limitTo_158 (by decide) ?_
            refine lv_istore (lv' := [(5, .int (-1)), (0, .ref (ad k)), (1, .int m9), (2, .int (a + c0 + h)), (3, .int ra), (4, .int rc), (6, .int x)]) hx hb dX0_limitTo_159 hl (by decide) rfl (fun ls hl => ?_)
            refine lv_iinc (v := (x + (-1))) (lv' := [(6, .int (x + (-1))), (5, .int (-1)), (0, .ref (ad k)), (1, .int m9), (2, .int (a + c0 + h)), (3, .int ra), (4, .int rc)]) hx hb dX0_limitTo_161 hl (k := 6) rfl rfl (by decide) rfl (fun ls hl => ?_)
            refine lv_goto (tgt := 93) hx hb dX0_limitTo_164 (by decide) ?_
            exact ih (x + (-1)) ra rc (-1) a1 c1 (h1 + 1) hcc (by have := cl_pos c_95; omega) (by rw [← hsp, cl_pos c_95, spr, if_neg (fun q => Int32.not_le.mpr c_101 q.1), if_neg (Int32.not_le.mpr c_129)]) _ _ _ hW hS (lv_sub hl [2, 3, 4, 5, 6, 1, 0] rfl)
          · skip
            refine lv_aload_n hx hb dX0_limitTo_132 rfl (lv_at hl 0 rfl) ?_
            refine lv_dup hx hb dX0_limitTo_133 rfl ?_
            refine gfX0_13 B hT hW hk (va_up_self _ _ _) rfl dX0_limitTo_134 ?_
            refine lv_iconst (v := 1) hx hb dX0_limitTo_137 (by decide) ?_
            refine lv_iadd hx hb dX0_limitTo_138 ?_
            refine pfX0_13 B hT hI hA hW hS hk (va_up_self _ _ _) (Nat.le_of_ble_eq_true rfl) rfl (by first | rfl | decide) dX0_limitTo_139 (fun H locs hW hS => ?_)
            have hW := hW.eq (E' := va_up E k (.inr (0, [.int a1, .int (c1 + 1), .int h1, .int t, .int 1]))) (bx_uu _ _ _ _)
            refine lv_iconst (v := (-1)) hx hb dX0_limitTo_142 (by decide) ?_
            refine lv_istore (lv' := [(4, .int (-1)), (0, .ref (ad k)), (1, .int m9), (2, .int (a + c0 + h)), (3, .int ra), (5, .int rh), (6, .int x)]) hx hb dX0_limitTo_143 hl (by decide) rfl (fun ls hl => ?_)
            refine lv_goto (tgt := 161) hx hb dX0_limitTo_145 (by decide) ?_
            refine lv_iinc (v := (x + (-1))) (lv' := [(6, .int (x + (-1))), (4, .int (-1)), (0, .ref (ad k)), (1, .int m9), (2, .int (a + c0 + h)), (3, .int ra), (5, .int rh)]) hx hb dX0_limitTo_161 hl (k := 6) rfl rfl (by decide) rfl (fun ls hl => ?_)
            refine lv_goto (tgt := 93) hx hb dX0_limitTo_164 (by decide) ?_
            exact ih (x + (-1)) ra (-1) rh a1 (c1 + 1) h1 hcc (by have := cl_pos c_95; omega) (by rw [← hsp, cl_pos c_95, spr, if_neg (fun q => Int32.not_le.mpr c_101 q.1), if_pos (Int32.not_lt.mp c_129)]) _ _ _ hW hS (lv_sub hl [2, 3, 4, 5, 1, 6, 0] rfl)
        · skip
          refine lv_iload_n hx hb dX0_limitTo_104 rfl (lv_at hl 3 rfl) ?_
          refine lv_iload hx hb dX0_limitTo_105 (lv_at hl 5 rfl) ?_
          refine lv_icmp_lt (tgt := 125) hx hb dX0_limitTo_107 (by decide) (fun c_107 => ?_) (fun c_107 => ?_)
          · skip
            refine lv_iload hx hb dX0_limitTo_125 (lv_at hl 4 rfl) ?_
            refine lv_iload hx hb dX0_limitTo_127 (lv_at hl 5 rfl) ?_
            refine lv_icmp_lt (tgt := 148) hx hb dX0_limitTo_129 (by decide) (fun c_129 => ?_) (fun c_129 => ?_)
            · skip
              refine lv_aload_n hx hb dX0_limitTo_148 rfl (lv_at hl 0 rfl) ?_
              refine lv_dup hx hb dX0_limitTo_149 rfl ?_
              refine gfX0_16 B hT hW hk (va_up_self _ _ _) rfl dX0_limitTo_150 ?_
              refine lv_iconst (v := 1) hx hb dX0_limitTo_153 (by decide) ?_
              refine lv_iadd hx hb dX0_limitTo_154 ?_
              refine pfX0_16 B hT hI hA hW hS hk (va_up_self _ _ _) (Nat.le_of_ble_eq_true rfl) rfl (by first | rfl | decide) dX0_limitTo_155 (fun H locs hW hS => ?_)
              have hW := hW.eq (E' := va_up E k (.inr (0, [.int a1, .int c1, .int (h1 + 1), .int t, .int 1]))) (bx_uu _ _ _ _)
              refine lv_iconst (v := (-1)) hx hb dX0_limitTo_158 (by decide) ?_
              refine lv_istore (lv' := [(5, .int (-1)), (0, .ref (ad k)), (1, .int m9), (2, .int (a + c0 + h)), (3, .int ra), (4, .int rc), (6, .int x)]) hx hb dX0_limitTo_159 hl (by decide) rfl (fun ls hl => ?_)
              refine lv_iinc (v := (x + (-1))) (lv' := [(6, .int (x + (-1))), (5, .int (-1)), (0, .ref (ad k)), (1, .int m9), (2, .int (a + c0 + h)), (3, .int ra), (4, .int rc)]) hx hb dX0_limitTo_161 hl (k := 6) rfl rfl (by decide) rfl (fun ls hl => ?_)
              refine lv_goto (tgt := 93) hx hb dX0_limitTo_164 (by decide) ?_
              exact ih (x + (-1)) ra rc (-1) a1 c1 (h1 + 1) hcc (by have := cl_pos c_95; omega) (by rw [← hsp, cl_pos c_95, spr, if_neg (fun q => Int32.not_le.mpr c_107 q.2), if_neg (Int32.not_le.mpr c_129)]) _ _ _ hW hS (lv_sub hl [2, 3, 4, 5, 6, 1, 0] rfl)
            · skip
              refine lv_aload_n hx hb dX0_limitTo_132 rfl (lv_at hl 0 rfl) ?_
              refine lv_dup hx hb dX0_limitTo_133 rfl ?_
              refine gfX0_13 B hT hW hk (va_up_self _ _ _) rfl dX0_limitTo_134 ?_
              refine lv_iconst (v := 1) hx hb dX0_limitTo_137 (by decide) ?_
              refine lv_iadd hx hb dX0_limitTo_138 ?_
              refine pfX0_13 B hT hI hA hW hS hk (va_up_self _ _ _) (Nat.le_of_ble_eq_true rfl) rfl (by first | rfl | decide) dX0_limitTo_139 (fun H locs hW hS => ?_)
              have hW := hW.eq (E' := va_up E k (.inr (0, [.int a1, .int (c1 + 1), .int h1, .int t, .int 1]))) (bx_uu _ _ _ _)
              refine lv_iconst (v := (-1)) hx hb dX0_limitTo_142 (by decide) ?_
              refine lv_istore (lv' := [(4, .int (-1)), (0, .ref (ad k)), (1, .int m9), (2, .int (a + c0 + h)), (3, .int ra), (5, .int rh), (6, .int x)]) hx hb dX0_limitTo_143 hl (by decide) rfl (fun ls hl => ?_)
              refine lv_goto (tgt := 161) hx hb dX0_limitTo_145 (by decide) ?_
              refine lv_iinc (v := (x + (-1))) (lv' := [(6, .int (x + (-1))), (4, .int (-1)), (0, .ref (ad k)), (1, .int m9), (2, .int (a + c0 + h)), (3, .int ra), (5, .int rh)]) hx hb dX0_limitTo_161 hl (k := 6) rfl rfl (by decide) rfl (fun ls hl => ?_)
              refine lv_goto (tgt := 93) hx hb dX0_limitTo_164 (by decide) ?_
              exact ih (x + (-1)) ra (-1) rh a1 (c1 + 1) h1 hcc (by have := cl_pos c_95; omega) (by rw [← hsp, cl_pos c_95, spr, if_neg (fun q => Int32.not_le.mpr c_107 q.2), if_pos (Int32.not_lt.mp c_129)]) _ _ _ hW hS (lv_sub hl [2, 3, 4, 5, 1, 6, 0] rfl)
          · skip
            refine lv_aload_n hx hb dX0_limitTo_110 rfl (lv_at hl 0 rfl) ?_
            refine lv_dup hx hb dX0_limitTo_111 rfl ?_
            refine gfX0_7 B hT hW hk (va_up_self _ _ _) rfl dX0_limitTo_112 ?_
            refine lv_iconst (v := 1) hx hb dX0_limitTo_115 (by decide) ?_
            refine lv_iadd hx hb dX0_limitTo_116 ?_
            refine pfX0_7 B hT hI hA hW hS hk (va_up_self _ _ _) (Nat.le_of_ble_eq_true rfl) rfl (by first | rfl | decide) dX0_limitTo_117 (fun H locs hW hS => ?_)
            have hW := hW.eq (E' := va_up E k (.inr (0, [.int (a1 + 1), .int c1, .int h1, .int t, .int 1]))) (bx_uu _ _ _ _)
            refine lv_iconst (v := (-1)) hx hb dX0_limitTo_120 (by decide) ?_
            refine lv_istore_n (lv' := [(3, .int (-1)), (0, .ref (ad k)), (1, .int m9), (2, .int (a + c0 + h)), (4, .int rc), (5, .int rh), (6, .int x)]) hx hb dX0_limitTo_121 rfl hl (by decide) rfl (fun ls hl => ?_)
            refine lv_goto (tgt := 161) hx hb dX0_limitTo_122 (by decide) ?_
            refine lv_iinc (v := (x + (-1))) (lv' := [(6, .int (x + (-1))), (3, .int (-1)), (0, .ref (ad k)), (1, .int m9), (2, .int (a + c0 + h)), (4, .int rc), (5, .int rh)]) hx hb dX0_limitTo_161 hl (k := 6) rfl rfl (by decide) rfl (fun ls hl => ?_)
            refine lv_goto (tgt := 93) hx hb dX0_limitTo_164 (by decide) ?_
            exact ih (x + (-1)) (-1) rc rh (a1 + 1) c1 h1 hcc (by have := cl_pos c_95; omega) (by rw [← hsp, cl_pos c_95, spr, if_pos ⟨Int32.not_lt.mp c_101, Int32.not_lt.mp c_107⟩]) _ _ _ hW hS (lv_sub hl [2, 3, 4, 1, 5, 6, 0] rfl)
  refine lv_aload_n hx hb dX0_limitTo_0 rfl (lv_at hl 0 rfl) ?_
  refine b_ci (b_runV B hT hX hW hS (As := []) (rest := []) (fun sz => mt_asum hI k hk he sz) (cwX0_32 B.2.2.2.2.1 ⟨Nat.le_of_ble_eq_true rfl, Nat.le_of_ble_eq_true rfl⟩) (b_recv B hW hk he rfl) rfl hl.1 (Nat.le_of_ble_eq_true rfl) dX0_limitTo_1 ⟨Nat.le_of_ble_eq_true rfl, Nat.le_of_ble_eq_true rfl⟩) hS (fun r_1 E1 H locs hp_1 hW hS => ?_)
  obtain ⟨hr_, hE_⟩ := hp_1
  subst hr_
  have hW := hW.eq hE_
  refine lv_istore_n (lv' := [(2, .int (a + c0 + h)), (0, .ref (ad k)), (1, .int m9)]) hx hb dX0_limitTo_4 rfl hl (by decide) rfl (fun ls hl => ?_)
  refine lv_iload_n hx hb dX0_limitTo_5 rfl (lv_at hl 0 rfl) ?_
  refine lv_if_le (tgt := 14) hx hb dX0_limitTo_6 (by decide) (fun c_6 => ?_) (fun c_6 => ?_)
  · skip
    exact e_v hQ B hr hlk hS hW dX0_limitTo_14 (Nat.le_of_ble_eq_true rfl) (Nat.le_of_ble_eq_true rfl) (by rw [if_pos (Or.inl c_6)])
  · skip
    refine lv_iload_n hx hb dX0_limitTo_9 rfl (lv_at hl 0 rfl) ?_
    refine lv_iload_n hx hb dX0_limitTo_10 rfl (lv_at hl 2 rfl) ?_
    refine lv_icmp_gt (tgt := 15) hx hb dX0_limitTo_11 (by decide) (fun c_11 => ?_) (fun c_11 => ?_)
    · skip
      have hcc : ¬ (a + c0 + h ≤ 0 ∨ a + c0 + h ≤ m9) := fun q => q.elim c_6 (fun q => Int32.not_le.mpr c_11 q)
      refine lv_aload_n hx hb dX0_limitTo_15 rfl (lv_at hl 1 rfl) ?_
      refine lv_iconst (v := 1) hx hb dX0_limitTo_16 (by decide) ?_
      refine pfX0_23 B hT hI hA hW hS hk he (Nat.le_of_ble_eq_true rfl) (by first | rfl | decide) (by first | rfl | decide) dX0_limitTo_17 (fun H locs hW hS => ?_)
      have hW := hW.eq (E' := va_up E k (.inr (0, [.int a, .int c0, .int h, .int t, .int 1]))) rfl
      refine lv_aload_n hx hb dX0_limitTo_20 rfl (lv_at hl 1 rfl) ?_
      refine gfX0_7 B hT hW hk (va_up_self _ _ _) rfl dX0_limitTo_21 ?_
      refine lv_iload_n hx hb dX0_limitTo_24 rfl (lv_at hl 2 rfl) ?_
      refine lv_imul hx hb dX0_limitTo_25 ?_
      refine lv_iload_n hx hb dX0_limitTo_26 rfl (lv_at hl 0 rfl) ?_
      refine lv_irem hx hb dX0_limitTo_27 (fun q => c_6 (by rw [q]; decide)) ?_
      refine lv_istore_n (lv' := [(3, .int ((a * m9) - (a * m9) / (a + c0 + h) * (a + c0 + h))), (2, .int (a + c0 + h)), (0, .ref (ad k)), (1, .int m9)]) hx hb dX0_limitTo_28 rfl hl (by decide) rfl (fun ls hl => ?_)
      refine lv_aload_n hx hb dX0_limitTo_29 rfl (lv_at hl 2 rfl) ?_
      refine gfX0_13 B hT hW hk (va_up_self _ _ _) rfl dX0_limitTo_30 ?_
      refine lv_iload_n hx hb dX0_limitTo_33 rfl (lv_at hl 3 rfl) ?_
      refine lv_imul hx hb dX0_limitTo_34 ?_
      refine lv_iload_n hx hb dX0_limitTo_35 rfl (lv_at hl 1 rfl) ?_
      refine lv_irem hx hb dX0_limitTo_36 (fun q => c_6 (by rw [q]; decide)) ?_
      refine lv_istore (lv' := [(4, .int ((c0 * m9) - (c0 * m9) / (a + c0 + h) * (a + c0 + h))), (3, .int ((a * m9) - (a * m9) / (a + c0 + h) * (a + c0 + h))), (2, .int (a + c0 + h)), (0, .ref (ad k)), (1, .int m9)]) hx hb dX0_limitTo_37 hl (by decide) rfl (fun ls hl => ?_)
      refine lv_aload_n hx hb dX0_limitTo_39 rfl (lv_at hl 3 rfl) ?_
      refine gfX0_16 B hT hW hk (va_up_self _ _ _) rfl dX0_limitTo_40 ?_
      refine lv_iload_n hx hb dX0_limitTo_43 rfl (lv_at hl 4 rfl) ?_
      refine lv_imul hx hb dX0_limitTo_44 ?_
      refine lv_iload_n hx hb dX0_limitTo_45 rfl (lv_at hl 2 rfl) ?_
      refine lv_irem hx hb dX0_limitTo_46 (fun q => c_6 (by rw [q]; decide)) ?_
      refine lv_istore (lv' := [(5, .int ((h * m9) - (h * m9) / (a + c0 + h) * (a + c0 + h))), (4, .int ((c0 * m9) - (c0 * m9) / (a + c0 + h) * (a + c0 + h))), (3, .int ((a * m9) - (a * m9) / (a + c0 + h) * (a + c0 + h))), (2, .int (a + c0 + h)), (0, .ref (ad k)), (1, .int m9)]) hx hb dX0_limitTo_47 hl (by decide) rfl (fun ls hl => ?_)
      refine lv_aload_n hx hb dX0_limitTo_49 rfl (lv_at hl 4 rfl) ?_
      refine lv_aload_n hx hb dX0_limitTo_50 rfl (lv_at hl 4 rfl) ?_
      refine gfX0_7 B hT hW hk (va_up_self _ _ _) rfl dX0_limitTo_51 ?_
      refine lv_iload_n hx hb dX0_limitTo_54 rfl (lv_at hl 5 rfl) ?_
      refine lv_imul hx hb dX0_limitTo_55 ?_
      refine lv_iload_n hx hb dX0_limitTo_56 rfl (lv_at hl 3 rfl) ?_
      refine lv_idiv hx hb dX0_limitTo_57 (fun q => c_6 (by rw [q]; decide)) ?_
      refine pfX0_7 B hT hI hA hW hS hk (va_up_self _ _ _) (Nat.le_of_ble_eq_true rfl) rfl (by first | rfl | decide) dX0_limitTo_58 (fun H locs hW hS => ?_)
      have hW := hW.eq (E' := va_up E k (.inr (0, [.int ((a * m9) / (a + c0 + h)), .int c0, .int h, .int t, .int 1]))) (bx_uu _ _ _ _)
      refine lv_aload_n hx hb dX0_limitTo_61 rfl (lv_at hl 4 rfl) ?_
      refine lv_aload_n hx hb dX0_limitTo_62 rfl (lv_at hl 4 rfl) ?_
      refine gfX0_13 B hT hW hk (va_up_self _ _ _) rfl dX0_limitTo_63 ?_
      refine lv_iload_n hx hb dX0_limitTo_66 rfl (lv_at hl 5 rfl) ?_
      refine lv_imul hx hb dX0_limitTo_67 ?_
      refine lv_iload_n hx hb dX0_limitTo_68 rfl (lv_at hl 3 rfl) ?_
      refine lv_idiv hx hb dX0_limitTo_69 (fun q => c_6 (by rw [q]; decide)) ?_
      refine pfX0_13 B hT hI hA hW hS hk (va_up_self _ _ _) (Nat.le_of_ble_eq_true rfl) rfl (by first | rfl | decide) dX0_limitTo_70 (fun H locs hW hS => ?_)
      have hW := hW.eq (E' := va_up E k (.inr (0, [.int ((a * m9) / (a + c0 + h)), .int ((c0 * m9) / (a + c0 + h)), .int h, .int t, .int 1]))) (bx_uu _ _ _ _)
      refine lv_aload_n hx hb dX0_limitTo_73 rfl (lv_at hl 4 rfl) ?_
      refine lv_aload_n hx hb dX0_limitTo_74 rfl (lv_at hl 4 rfl) ?_
      refine gfX0_16 B hT hW hk (va_up_self _ _ _) rfl dX0_limitTo_75 ?_
      refine lv_iload_n hx hb dX0_limitTo_78 rfl (lv_at hl 5 rfl) ?_
      refine lv_imul hx hb dX0_limitTo_79 ?_
      refine lv_iload_n hx hb dX0_limitTo_80 rfl (lv_at hl 3 rfl) ?_
      refine lv_idiv hx hb dX0_limitTo_81 (fun q => c_6 (by rw [q]; decide)) ?_
      refine pfX0_16 B hT hI hA hW hS hk (va_up_self _ _ _) (Nat.le_of_ble_eq_true rfl) rfl (by first | rfl | decide) dX0_limitTo_82 (fun H locs hW hS => ?_)
      have hW := hW.eq (E' := va_up E k (.inr (0, [.int ((a * m9) / (a + c0 + h)), .int ((c0 * m9) / (a + c0 + h)), .int ((h * m9) / (a + c0 + h)), .int t, .int 1]))) (bx_uu _ _ _ _)
      refine lv_iload_n hx hb dX0_limitTo_85 rfl (lv_at hl 5 rfl) ?_
      refine lv_aload_n hx hb dX0_limitTo_86 rfl (lv_at hl 4 rfl) ?_
      refine b_ci (b_runV B hT hX hW hS (As := []) (rest := [.int m9]) (fun sz => mt_asum hI k hk (va_up_self _ _ _) sz) (cwX0_32 B.2.2.2.2.1 ⟨Nat.le_of_ble_eq_true rfl, Nat.le_of_ble_eq_true rfl⟩) (b_recv B hW hk (va_up_self _ _ _) rfl) rfl hl.1 (Nat.le_of_ble_eq_true rfl) dX0_limitTo_87 ⟨Nat.le_of_ble_eq_true rfl, Nat.le_of_ble_eq_true rfl⟩) hS (fun r_87 E1 H locs hp_87 hW hS => ?_)
      obtain ⟨hr_, hE_⟩ := hp_87
      subst hr_
      have hW := hW.eq hE_
      refine lv_isub hx hb dX0_limitTo_90 ?_
      refine lv_istore (lv' := [(6, .int (m9 - (((a * m9) / (a + c0 + h)) + ((c0 * m9) / (a + c0 + h)) + ((h * m9) / (a + c0 + h))))), (5, .int ((h * m9) - (h * m9) / (a + c0 + h) * (a + c0 + h))), (4, .int ((c0 * m9) - (c0 * m9) / (a + c0 + h) * (a + c0 + h))), (3, .int ((a * m9) - (a * m9) / (a + c0 + h) * (a + c0 + h))), (2, .int (a + c0 + h)), (0, .ref (ad k)), (1, .int m9)]) hx hb dX0_limitTo_91 hl (by decide) rfl (fun ls hl => ?_)
      exact L_93 _ (m9 - (((a * m9) / (a + c0 + h)) + ((c0 * m9) / (a + c0 + h)) + ((h * m9) / (a + c0 + h)))) ((a * m9) - (a * m9) / (a + c0 + h) * (a + c0 + h)) ((c0 * m9) - (c0 * m9) / (a + c0 + h) * (a + c0 + h)) ((h * m9) - (h * m9) / (a + c0 + h) * (a + c0 + h)) ((a * m9) / (a + c0 + h)) ((c0 * m9) / (a + c0 + h)) ((h * m9) / (a + c0 + h)) hcc (Nat.lt_succ_self _) rfl _ _ _ hW hS (lv_sub hl [5, 6, 4, 3, 2, 1, 0] rfl)
    · skip
      exact e_v hQ B hr hlk hS hW dX0_limitTo_14 (Nat.le_of_ble_eq_true rfl) (Nat.le_of_ble_eq_true rfl) (by rw [if_pos (Or.inr (Int32.not_lt.mp c_11))])
