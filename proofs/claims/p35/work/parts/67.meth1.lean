set_option maxHeartbeats 8000000 in
set_option maxRecDepth 100000 in
/-- sum -/
theorem ow_sum {l : Launch} (hlf : l.stackTraces = false) {D : va_G} {tys : List (ClassId × FieldType)} {ad : Nat → Nat} (hI : aI ad 109) {cI cZ cH cP cT : ClassId} {V T : Nat → Nat → Int32} {ag : Nat → Int32} {nP nH rN : Nat} {nf pn : Int32} {sp sk : Int64} {py pd : Nat → Nat → Int32} (hty : TY tys cI cZ cH cP cT) {E : Nat → va_E} (hC : CW cI cZ cH cP cT ad V T ag nP nH rN nf pn sp sk py pd E) (sz : Nat) : Met l yL_sum (Cond.code yL_sum cL_sum 5 (some .long) :: wsL_law) (rmk 8 64 384) (va_Pc [.ref (ad 0), .int (nI nH)] (PN D tys ad 109 E sz)) (Ql D ad 109 (fun r E1 => r = sL nf sp sk (due V ag nP) pd rN nH ∧ CW cI cZ cH cP cT ad V T ag nP nH rN nf pn sp sk py pd E1) (cA ad 109 sz)) 64 384 (cA ad 109 sz) := by
  obtain ⟨hP8, hH4, hR12⟩ := hC.bds
  refine cn_of (own := RL) (Qc := Ql D ad 109 (fun r E1 => r = sL nf sp sk (due V ag nP) pd rN nH ∧ CW cI cZ cH cP cT ad V T ag nP nH rN nf pn sp sk py pd E1)) rfl (by decide +kernel) (Nat.le_of_ble_eq_true rfl) ?_ sz
  intro p e s m args below meth c ls Q B hT hX hN hW hr hlk hl hS hA hQ
  have hx := B.1
  have hb := B.2.1
  have hl : lv_has ls 5 [(0, .ref (ad 0)), (1, .int (nI nH))] := hl
  have L_27 : ∀ (n_ : Nat) (i : Nat), (hi : i ≤ nH) → (hn : nH < n_ + i) → ∀ (E : Nat → va_E) (H : Heap) (locs : List Loc) (ls : Array Slot), CW cI cZ cH cP cT ad V T ag nP nH rN nf pn sp sk py pd E → hH D ad 109 E H → va_S (cA ad 109 s.heap.size) s.heap H locs → lv_has ls 5 [(0, .ref (ad 0)), (1, .int (nI nH)), (2, .long (sL nf sp sk (due V ag nP) pd rN i)), (4, .int (nI i))] → W p l e (rmk 8 64 384) s m args below meth c H locs (16 * i) (96 * i) Q (F0 m 27 ls []) := by
    intro n_
    induction n_ with
    | zero =>
      intro i hi hn
      omega
    | succ n_ ih =>
      intro i hi hn E H locs ls hC hW hS hl
      refine lv_iload hx hb dL_sum_27 (lv_at hl 3 rfl) ?_
      refine lv_iload_n hx hb dL_sum_29 rfl (lv_at hl 1 rfl) ?_
      refine lv_icmp_ge (tgt := 72) hx hb dL_sum_30 (by decide) (fun c_30 => ?_) (fun c_30 => ?_)
      · skip
        refine lv_lload_n hx hb dL_sum_72 rfl (lv_at hl 2 rfl) ?_
        exact e_l hQ B hr hlk hS hW dL_sum_73 (by omega) (by omega) (⟨by rw [show i = nH from Nat.le_antisymm hi ((nI_leI (by omega) (by omega)).mp c_30)], hC⟩)
      · skip
        have q30 : i < nH := Nat.lt_of_not_le (fun q => c_30 ((nI_leI (by omega) (by omega)).mpr q))
        refine lv_ldc2 (v := 31) hx hb B.2.2.2.1 (B.2.2.2.2.1 _ (r7_in _ (List.mem_of_getElem? (i := 3) rfl))) dL_sum_33 ?_
        refine lv_lload_n hx hb dL_sum_36 rfl (lv_at hl 2 rfl) ?_
        refine lv_lmul hx hb dL_sum_37 ?_
        refine lv_aload_n hx hb dL_sum_38 rfl (lv_at hl 0 rfl) ?_
        refine lv_iload hx hb dL_sum_39 (lv_at hl 3 rfl) ?_
        refine y_ci (b_runSW B hT hX hN hW hS (As := [.ref (ad 0), .int (nI i)]) (rest := [.long (31 * (sL nf sp sk (due V ag nP) pd rN i))]) (fun sz => lv_balance hlf hI hty i q30 hC sz) (cwL_193 B.2.2.2.2.1 ⟨Nat.le_of_ble_eq_true rfl, Nat.le_of_ble_eq_true rfl⟩) rfl hl.1 (Nat.le_of_ble_eq_true rfl) dL_sum_41 ⟨by show _ ≤ 64; omega, by show _ ≤ 384; omega⟩) hI hW hS (fun k h => h) (fun _ _ => rfl) (fun E1 => E1) (fun _ _ _ => rfl) (fun E1 j hj hno => absurd rfl (hno j hj)) (fun r_41 E H locs hp hW hS => ?_)
        obtain ⟨hr_, hC⟩ := hp
        subst hr_
        refine lv_i2l hx hb dL_sum_44 rfl ?_
        refine lv_ladd hx hb dL_sum_45 ?_
        refine lv_ldc2 (v := 5) hx hb B.2.2.2.1 (B.2.2.2.2.1 _ (r7_in _ (List.mem_of_getElem? (i := 5) rfl))) dL_sum_46 ?_
        refine lv_aload_n hx hb dL_sum_49 rfl (lv_at hl 0 rfl) ?_
        refine lv_iload hx hb dL_sum_50 (lv_at hl 3 rfl) ?_
        refine lv_aload_n hx hb dL_sum_52 rfl (lv_at hl 0 rfl) ?_
        refine y_ci (b_runV B hT hX hW hS (As := []) (rest := [.int (nI i), .ref (ad 0), .long 5, .long ((31 * (sL nf sp sk (due V ag nP) pd rN i)) + ((bal (due V ag nP i) (pd i) rN).toInt64))]) (fun sz => mw_paidMonths hI hty hC sz) (cwL_162 B.2.2.2.2.1 ⟨Nat.le_of_ble_eq_true rfl, Nat.le_of_ble_eq_true rfl⟩) (cw_recv B hW hC) rfl hl.1 (Nat.le_of_ble_eq_true rfl) dL_sum_53 ⟨by show _ ≤ 64; omega, by show _ ≤ 384; omega⟩) hI hW hS (fun k h => h) (fun _ _ => rfl) (fun E1 => E1) (fun _ _ _ => rfl) (fun E1 j hj hno => absurd rfl (hno j hj)) (fun r_53 E H locs hp hW hS => ?_)
        obtain ⟨hr_, hC⟩ := hp
        rw [hr_]
        refine lv_bipush (v := 12) hx hb dL_sum_56 (by decide) ?_
        refine lv_irem hx hb dL_sum_58 (by decide) ?_
        refine b_top (y := nI (rN % 12)) (rem12 hR12) ?_
        refine y_ci (b_runSW B hT hX hN hW hS (As := [.ref (ad 0), .int (nI i), .int (nI (rN % 12))]) (rest := [.long 5, .long ((31 * (sL nf sp sk (due V ag nP) pd rN i)) + ((bal (due V ag nP i) (pd i) rN).toInt64))]) (fun sz => lv_entitlement hlf hI hty i (rN % 12) q30 (by omega) hC sz) (cwL_197 B.2.2.2.2.1 ⟨Nat.le_of_ble_eq_true rfl, Nat.le_of_ble_eq_true rfl⟩) rfl hl.1 (Nat.le_of_ble_eq_true rfl) dL_sum_59 ⟨by show _ ≤ 64; omega, by show _ ≤ 384; omega⟩) hI hW hS (fun k h => h) (fun _ _ => rfl) (fun E1 => E1) (fun _ _ _ => rfl) (fun E1 j hj hno => absurd rfl (hno j hj)) (fun r_59 E H locs hp hW hS => ?_)
        obtain ⟨hr_, hC⟩ := hp
        subst hr_
        refine lv_i2l hx hb dL_sum_62 rfl ?_
        refine lv_lmul hx hb dL_sum_63 ?_
        refine lv_ladd hx hb dL_sum_64 ?_
        refine b_ltop (y := sL nf sp sk (due V ag nP) pd rN (i + 1)) (rfl) ?_
        refine lv_lstore_n (lv' := [(2, .long (sL nf sp sk (due V ag nP) pd rN (i + 1))), (0, .ref (ad 0)), (1, .int (nI nH)), (4, .int (nI i))]) hx hb dL_sum_65 rfl hl (by decide) rfl (fun ls hl => ?_)
        refine lv_iinc (v := (nI (i + 1))) (lv' := [(4, .int (nI (i + 1))), (2, .long (sL nf sp sk (due V ag nP) pd rN (i + 1))), (0, .ref (ad 0)), (1, .int (nI nH))]) hx hb dL_sum_66 hl (k := 3) rfl (nI_1 i) (by decide) rfl (fun ls hl => ?_)
        refine lv_goto (tgt := 27) hx hb dL_sum_69 (by decide) ?_
        refine W.widen (k := 16 * (i + 1)) (n := 96 * (i + 1)) (by omega) (by omega) ?_
        exact ih (i + 1) (by omega) (by omega) _ _ _ _ hC hW hS (lv_sub hl [2, 3, 1, 0] rfl)
  refine lv_aload_n hx hb dL_sum_0 rfl (lv_at hl 0 rfl) ?_
  refine y_ci (b_runV B hT hX hW hS (As := []) (rest := []) (fun sz => mw_facts hI hty hC sz) (cwL_140 B.2.2.2.2.1 ⟨Nat.le_of_ble_eq_true rfl, Nat.le_of_ble_eq_true rfl⟩) (cw_recv B hW hC) rfl hl.1 (Nat.le_of_ble_eq_true rfl) dL_sum_1 ⟨by show _ ≤ 64; omega, by show _ ≤ 384; omega⟩) hI hW hS (fun k h => h) (fun _ _ => rfl) (fun E1 => E1) (fun _ _ _ => rfl) (fun E1 j hj hno => absurd rfl (hno j hj)) (fun r_1 E H locs hp hW hS => ?_)
  obtain ⟨hr_, hC⟩ := hp
  rw [hr_]
  refine lv_i2l hx hb dL_sum_4 rfl ?_
  refine lv_ldc2 (v := 31) hx hb B.2.2.2.1 (B.2.2.2.2.1 _ (r7_in _ (List.mem_of_getElem? (i := 3) rfl))) dL_sum_5 ?_
  refine lv_aload_n hx hb dL_sum_8 rfl (lv_at hl 0 rfl) ?_
  refine y_cl (b_runV B hT hX hW hS (As := []) (rest := [.long 31, .long nf.toInt64]) (fun sz => mw_totalPaid hI hty hC sz) (cwL_188 B.2.2.2.2.1 ⟨Nat.le_of_ble_eq_true rfl, Nat.le_of_ble_eq_true rfl⟩) (cw_recv B hW hC) rfl hl.1 (Nat.le_of_ble_eq_true rfl) dL_sum_9 ⟨by show _ ≤ 64; omega, by show _ ≤ 384; omega⟩) hI hW hS (fun k h => h) (fun _ _ => rfl) (fun E1 => E1) (fun _ _ _ => rfl) (fun E1 j hj hno => absurd rfl (hno j hj)) (fun r_9 E H locs hp hW hS => ?_)
  obtain ⟨hr_, hC⟩ := hp
  rw [hr_]
  refine lv_lmul hx hb dL_sum_12 ?_
  refine lv_ladd hx hb dL_sum_13 ?_
  refine lv_ldc2 (v := 7) hx hb B.2.2.2.1 (B.2.2.2.2.1 _ (r7_in _ (List.mem_of_getElem? (i := 4) rfl))) dL_sum_14 ?_
  refine lv_aload_n hx hb dL_sum_17 rfl (lv_at hl 0 rfl) ?_
  refine y_cl (b_runV B hT hX hW hS (As := []) (rest := [.long 7, .long (nf.toInt64 + (31 * sp))]) (fun sz => mw_keptBack hI hty hC sz) (cwL_165 B.2.2.2.2.1 ⟨Nat.le_of_ble_eq_true rfl, Nat.le_of_ble_eq_true rfl⟩) (cw_recv B hW hC) rfl hl.1 (Nat.le_of_ble_eq_true rfl) dL_sum_18 ⟨by show _ ≤ 64; omega, by show _ ≤ 384; omega⟩) hI hW hS (fun k h => h) (fun _ _ => rfl) (fun E1 => E1) (fun _ _ _ => rfl) (fun E1 j hj hno => absurd rfl (hno j hj)) (fun r_18 E H locs hp hW hS => ?_)
  obtain ⟨hr_, hC⟩ := hp
  rw [hr_]
  refine lv_lmul hx hb dL_sum_21 ?_
  refine lv_ladd hx hb dL_sum_22 ?_
  refine b_ltop (y := sL nf sp sk (due V ag nP) pd rN 0) (rfl) ?_
  refine lv_lstore_n (lv' := [(2, .long (sL nf sp sk (due V ag nP) pd rN 0)), (0, .ref (ad 0)), (1, .int (nI nH))]) hx hb dL_sum_23 rfl hl (by decide) rfl (fun ls hl => ?_)
  refine lv_iconst (v := 0) hx hb dL_sum_24 (by decide) ?_
  refine lv_istore (lv' := [(4, .int 0), (2, .long (sL nf sp sk (due V ag nP) pd rN 0)), (0, .ref (ad 0)), (1, .int (nI nH))]) hx hb dL_sum_25 hl (by decide) rfl (fun ls hl => ?_)
  refine W.widen (k := 16 * 0) (n := 96 * 0) (by omega) (by omega) ?_
  exact L_27 (nH + 1) 0 (Nat.zero_le _) (by omega) _ _ _ _ hC hW hS (lv_sub hl [2, 3, 1, 0] rfl)
set_option maxHeartbeats 8000000 in
set_option maxRecDepth 100000 in
/-- pays -/
theorem ow_pays {l : Launch} (hlf : l.stackTraces = false) {D : va_G} {tys : List (ClassId × FieldType)} {ad : Nat → Nat} (hI : aI ad 109) {cI cZ cH cP cT : ClassId} {V T : Nat → Nat → Int32} {ag : Nat → Int32} {nP nH rN : Nat} {nf pn : Int32} {sp sk : Int64} {py pd : Nat → Nat → Int32} (hty : TY tys cI cZ cH cP cT) {E : Nat → va_E} (hC : CW cI cZ cH cP cT ad V T ag nP nH rN nf pn sp sk py pd E) (sz : Nat) : Met l yL_pays (Cond.code yL_pays cL_pays 4 (some .int) :: wsL_law) (rmk 8 32 192) (va_Pc [.ref (ad 0), .int (nI nH)] (PN D tys ad 109 E sz)) (Qi D ad 109 (fun r E1 => r = pBb (nodebt (due V ag nP) pd rN) nH ∧ CW cI cZ cH cP cT ad V T ag nP nH rN nf pn sp sk py pd E1) (cA ad 109 sz)) 32 192 (cA ad 109 sz) := by
  obtain ⟨hP8, hH4, hR12⟩ := hC.bds
  refine cn_of (own := RL) (Qc := Qi D ad 109 (fun r E1 => r = pBb (nodebt (due V ag nP) pd rN) nH ∧ CW cI cZ cH cP cT ad V T ag nP nH rN nf pn sp sk py pd E1)) rfl (by decide +kernel) (Nat.le_of_ble_eq_true rfl) ?_ sz
  intro p e s m args below meth c ls Q B hT hX hN hW hr hlk hl hS hA hQ
  have hx := B.1
  have hb := B.2.1
  have hl : lv_has ls 4 [(0, .ref (ad 0)), (1, .int (nI nH))] := hl
  have L_4 : ∀ (n_ : Nat) (i : Nat), (hi : i ≤ nH) → (hn : nH < n_ + i) → ∀ (E : Nat → va_E) (H : Heap) (locs : List Loc) (ls : Array Slot), CW cI cZ cH cP cT ad V T ag nP nH rN nf pn sp sk py pd E → hH D ad 109 E H → va_S (cA ad 109 s.heap.size) s.heap H locs → lv_has ls 4 [(0, .ref (ad 0)), (1, .int (nI nH)), (2, .int (pBb (nodebt (due V ag nP) pd rN) i)), (3, .int (nI i))] → W p l e (rmk 8 32 192) s m args below meth c H locs (8 * i) (48 * i) Q (F0 m 4 ls []) := by
    intro n_
    induction n_ with
    | zero =>
      intro i hi hn
      omega
    | succ n_ ih =>
      intro i hi hn E H locs ls hC hW hS hl
      refine lv_iload_n hx hb dL_pays_4 rfl (lv_at hl 3 rfl) ?_
      refine lv_iload_n hx hb dL_pays_5 rfl (lv_at hl 1 rfl) ?_
      refine lv_icmp_ge (tgt := 33) hx hb dL_pays_6 (by decide) (fun c_6 => ?_) (fun c_6 => ?_)
      · skip
        refine lv_iload_n hx hb dL_pays_33 rfl (lv_at hl 2 rfl) ?_
        exact e_i hQ B hr hlk hS hW dL_pays_34 (by omega) (by omega) (⟨by rw [show i = nH from Nat.le_antisymm hi ((nI_leI (by omega) (by omega)).mp c_6)], hC⟩)
      · skip
        have q6 : i < nH := Nat.lt_of_not_le (fun q => c_6 ((nI_leI (by omega) (by omega)).mpr q))
        refine lv_iload_n hx hb dL_pays_9 rfl (lv_at hl 2 rfl) ?_
        refine lv_aload_n hx hb dL_pays_10 rfl (lv_at hl 0 rfl) ?_
        refine lv_iload_n hx hb dL_pays_11 rfl (lv_at hl 3 rfl) ?_
        refine y_ci (b_runSW B hT hX hN hW hS (As := [.ref (ad 0), .int (nI i)]) (rest := [.int (pBb (nodebt (due V ag nP) pd rN) i)]) (fun sz => lv_balance hlf hI hty i q6 hC sz) (cwL_193 B.2.2.2.2.1 ⟨Nat.le_of_ble_eq_true rfl, Nat.le_of_ble_eq_true rfl⟩) rfl hl.1 (Nat.le_of_ble_eq_true rfl) dL_pays_12 ⟨by show _ ≤ 32; omega, by show _ ≤ 192; omega⟩) hI hW hS (fun k h => h) (fun _ _ => rfl) (fun E1 => E1) (fun _ _ _ => rfl) (fun E1 j hj hno => absurd rfl (hno j hj)) (fun r_12 E H locs hp hW hS => ?_)
        obtain ⟨hr_, hC⟩ := hp
        subst hr_
        refine lv_if_lt (tgt := 24) hx hb dL_pays_15 (by decide) (fun c_15 => ?_) (fun c_15 => ?_)
        · skip
          refine lv_iconst (v := 0) hx hb dL_pays_24 (by decide) ?_
          refine lv_iadd hx hb dL_pays_25 ?_
          refine b_top (y := pBb (nodebt (due V ag nP) pd rN) (i + 1)) (by rw [pBb, if_neg (nd_f c_15)]) ?_
          refine lv_istore_n (lv' := [(2, .int (pBb (nodebt (due V ag nP) pd rN) (i + 1))), (0, .ref (ad 0)), (1, .int (nI nH)), (3, .int (nI i))]) hx hb dL_pays_26 rfl hl (by decide) rfl (fun ls hl => ?_)
          refine lv_iinc (v := (nI (i + 1))) (lv' := [(3, .int (nI (i + 1))), (2, .int (pBb (nodebt (due V ag nP) pd rN) (i + 1))), (0, .ref (ad 0)), (1, .int (nI nH))]) hx hb dL_pays_27 hl (k := 3) rfl (nI_1 i) (by decide) rfl (fun ls hl => ?_)
          refine lv_goto (tgt := 4) hx hb dL_pays_30 (by decide) ?_
          refine W.widen (k := 8 * (i + 1)) (n := 48 * (i + 1)) (by omega) (by omega) ?_
          exact ih (i + 1) (by omega) (by omega) _ _ _ _ hC hW hS (lv_sub hl [2, 3, 1, 0] rfl)
        · skip
          refine lv_iconst (v := 1) hx hb dL_pays_18 (by decide) ?_
          refine lv_iload_n hx hb dL_pays_19 rfl (lv_at hl 3 rfl) ?_
          refine lv_ishl hx hb dL_pays_20 ?_
          refine lv_goto (tgt := 25) hx hb dL_pays_21 (by decide) ?_
          refine lv_iadd hx hb dL_pays_25 ?_
          refine b_top (y := pBb (nodebt (due V ag nP) pd rN) (i + 1)) (by rw [pBb, if_pos (nd_t c_15)]) ?_
          refine lv_istore_n (lv' := [(2, .int (pBb (nodebt (due V ag nP) pd rN) (i + 1))), (0, .ref (ad 0)), (1, .int (nI nH)), (3, .int (nI i))]) hx hb dL_pays_26 rfl hl (by decide) rfl (fun ls hl => ?_)
          refine lv_iinc (v := (nI (i + 1))) (lv' := [(3, .int (nI (i + 1))), (2, .int (pBb (nodebt (due V ag nP) pd rN) (i + 1))), (0, .ref (ad 0)), (1, .int (nI nH))]) hx hb dL_pays_27 hl (k := 3) rfl (nI_1 i) (by decide) rfl (fun ls hl => ?_)
          refine lv_goto (tgt := 4) hx hb dL_pays_30 (by decide) ?_
          refine W.widen (k := 8 * (i + 1)) (n := 48 * (i + 1)) (by omega) (by omega) ?_
          exact ih (i + 1) (by omega) (by omega) _ _ _ _ hC hW hS (lv_sub hl [2, 3, 1, 0] rfl)
  refine lv_iconst (v := 0) hx hb dL_pays_0 (by decide) ?_
  refine lv_istore_n (lv' := [(2, .int 0), (0, .ref (ad 0)), (1, .int (nI nH))]) hx hb dL_pays_1 rfl hl (by decide) rfl (fun ls hl => ?_)
  refine lv_iconst (v := 0) hx hb dL_pays_2 (by decide) ?_
  refine lv_istore_n (lv' := [(3, .int 0), (2, .int 0), (0, .ref (ad 0)), (1, .int (nI nH))]) hx hb dL_pays_3 rfl hl (by decide) rfl (fun ls hl => ?_)
  refine W.widen (k := 8 * 0) (n := 48 * 0) (by omega) (by omega) ?_
  exact L_4 (nH + 1) 0 (Nat.zero_le _) (by omega) _ _ _ _ hC hW hS (lv_sub hl [2, 3, 1, 0] rfl)
set_option maxHeartbeats 8000000 in
set_option maxRecDepth 100000 in
/-- areHanded -/
theorem ow_areHanded {l : Launch} (hlf : l.stackTraces = false) {D : va_G} {tys : List (ClassId × FieldType)} {ad : Nat → Nat} (hI : aI ad 109) {cI cZ cH cP cT : ClassId} {V T : Nat → Nat → Int32} {ag : Nat → Int32} {nP nH mo : Nat} {nf pn : Int32} {sp sk : Int64} {py pd : Nat → Nat → Int32} (hty : TY tys cI cZ cH cP cT) (told free : Int32) (kept : Int64) {E : Nat → va_E} (hC : CW cI cZ cH cP cT ad V T ag nP nH (mo + 1) nf pn sp sk py pd E) (hpos : ∀ h, h < nH → 0 ≤ (py h mo).toInt) (hpd : ∀ h, h < nH → pd h mo = due V ag nP h mo) (hst : ∀ h, h < nH → fbit free h → stl (due V ag nP h) (pd h) (mo + 1) = 1 ∧ bal (due V ag nP h) (pd h) (mo + 1) = 0) (htold : hSm py mo nH = told) (hk0 : 0 ≤ kept.toInt) (hkm : kept.toInt ≤ (mS (due V ag nP) free mo nH).toInt) (sz : Nat) : Met l yL_areHanded (Cond.code yL_areHanded cL_areHanded 13 (some .boolean) :: wsL_law) (rmk 8 192 1152) (va_Pc [.ref (ad 0), .int (nI nH), .int (nI mo), .int told, .long kept, .int free] (PN D tys ad 109 E sz)) (Qi D ad 109 (fun r E1 => r = 1 ∧ CW cI cZ cH cP cT ad V T ag nP nH (mo + 1) nf pn sp sk py pd E1) (cA ad 109 sz)) 192 1152 (cA ad 109 sz) := by
  obtain ⟨hP8, hH4, hR12⟩ := hC.bds
  refine cn_of (own := RL) (Qc := Qi D ad 109 (fun r E1 => r = 1 ∧ CW cI cZ cH cP cT ad V T ag nP nH (mo + 1) nf pn sp sk py pd E1)) rfl (by decide +kernel) (Nat.le_of_ble_eq_true rfl) ?_ sz
  intro p e s m args below meth c ls Q B hT hX hN hW hr hlk hl hS hA hQ
  have hx := B.1
  have hb := B.2.1
  have hl : lv_has ls 13 [(0, .ref (ad 0)), (1, .int (nI nH)), (2, .int (nI mo)), (3, .int told), (4, .long kept), (6, .int free)] := hl
  have L_26 : ∀ (n_ : Nat) (i : Nat), (hi : i ≤ nH) → (hn : nH < n_ + i) → ∀ (E : Nat → va_E) (H : Heap) (locs : List Loc) (ls : Array Slot), CW cI cZ cH cP cT ad V T ag nP nH (mo + 1) nf pn sp sk py pd E → hH D ad 109 E H → va_S (cA ad 109 s.heap.size) s.heap H locs → lv_has ls 13 [(0, .ref (ad 0)), (1, .int (nI nH)), (2, .int (nI mo)), (3, .int told), (4, .long kept), (6, .int free), (7, .int (hSm py mo i)), (8, .int (mS (due V ag nP) free mo i)), (9, .int 1), (10, .int (nI i))] → W p l e (rmk 8 192 1152) s m args below meth c H locs (48 * i) (288 * i) Q (F0 m 26 ls []) := by
    intro n_
    induction n_ with
    | zero =>
      intro i hi hn
      omega
    | succ n_ ih =>
      intro i hi hn E H locs ls hC hW hS hl
      refine lv_iload hx hb dL_areHanded_26 (lv_at hl 9 rfl) ?_
      refine lv_iload_n hx hb dL_areHanded_28 rfl (lv_at hl 1 rfl) ?_
      refine lv_icmp_ge (tgt := 151) hx hb dL_areHanded_29 (by decide) (fun c_29 => ?_) (fun c_29 => ?_)
      · skip
        have ei : i = nH := Nat.le_antisymm hi ((nI_leI (by omega) (by omega)).mp c_29)
        refine lv_iload hx hb dL_areHanded_151 (lv_at hl 8 rfl) ?_
        refine lv_if_eq (tgt := 182) hx hb dL_areHanded_153 (by decide) (fun c_153 => ?_) (fun c_153 => ?_)
        · exact absurd c_153 (by decide)
        · skip
          refine lv_iload hx hb dL_areHanded_156 (lv_at hl 6 rfl) ?_
          refine lv_iload_n hx hb dL_areHanded_158 rfl (lv_at hl 3 rfl) ?_
          refine lv_icmp_ne (tgt := 182) hx hb dL_areHanded_159 (by decide) (fun c_159 => ?_) (fun c_159 => ?_)
          · exact absurd (by rw [ei]; exact htold) c_159
          · skip
            refine lv_lload hx hb dL_areHanded_162 (lv_at hl 4 rfl) ?_
            refine lv_lconst (v := 0) hx hb dL_areHanded_164 (by decide) ?_
            refine b_lcmp hx hb dL_areHanded_165 ?_
            refine lv_if_lt (tgt := 182) hx hb dL_areHanded_166 (by decide) (fun c_166 => ?_) (fun c_166 => ?_)
            · exact absurd c_166 (lcm_nlt (by show (0 : Int) ≤ _; exact hk0))
            · skip
              refine lv_lload hx hb dL_areHanded_169 (lv_at hl 4 rfl) ?_
              refine lv_iload hx hb dL_areHanded_171 (lv_at hl 7 rfl) ?_
              refine lv_i2l hx hb dL_areHanded_173 rfl ?_
              refine b_lcmp hx hb dL_areHanded_174 ?_
              refine lv_if_gt (tgt := 182) hx hb dL_areHanded_175 (by decide) (fun c_175 => ?_) (fun c_175 => ?_)
              · exact absurd c_175 (lcm_ngt (by rw [ei, l_of]; exact hkm))
              · skip
                refine lv_iconst (v := 1) hx hb dL_areHanded_178 (by decide) ?_
                refine lv_goto (tgt := 183) hx hb dL_areHanded_179 (by decide) ?_
                exact e_n hQ B hr hlk hS (by first | rfl | decide) hW dL_areHanded_183 (by omega) (by omega) (⟨rfl, hC⟩)
      · skip
        have q29 : i < nH := Nat.lt_of_not_le (fun q => c_29 ((nI_leI (by omega) (by omega)).mpr q))
        refine lv_aload_n hx hb dL_areHanded_32 rfl (lv_at hl 0 rfl) ?_
        refine lv_iload hx hb dL_areHanded_33 (lv_at hl 9 rfl) ?_
        refine lv_iload_n hx hb dL_areHanded_35 rfl (lv_at hl 2 rfl) ?_
        refine y_ci (b_runSW B hT hX hN hW hS (As := [.ref (ad 0), .int (nI i), .int (nI mo)]) (rest := []) (fun sz => lv_paymentT hlf hI hty i mo q29 (by omega) (by omega) hC sz) (cwL_199 B.2.2.2.2.1 ⟨Nat.le_of_ble_eq_true rfl, Nat.le_of_ble_eq_true rfl⟩) rfl hl.1 (Nat.le_of_ble_eq_true rfl) dL_areHanded_36 ⟨by show _ ≤ 192; omega, by show _ ≤ 1152; omega⟩) hI hW hS (fun k h => h) (fun _ _ => rfl) (fun E1 => E1) (fun _ _ _ => rfl) (fun E1 j hj hno => absurd rfl (hno j hj)) (fun r_36 E H locs hp hW hS => ?_)
        obtain ⟨hr_, hC⟩ := hp
        subst hr_
        refine lv_istore (lv' := [(11, .int (py i mo)), (0, .ref (ad 0)), (1, .int (nI nH)), (2, .int (nI mo)), (3, .int told), (4, .long kept), (6, .int free), (7, .int (hSm py mo i)), (8, .int (mS (due V ag nP) free mo i)), (9, .int 1), (10, .int (nI i))]) hx hb dL_areHanded_39 hl (by decide) rfl (fun ls hl => ?_)
        refine lv_iload hx hb dL_areHanded_41 (lv_at hl 6 rfl) ?_
        refine lv_iload hx hb dL_areHanded_43 (lv_at hl 10 rfl) ?_
        refine lv_ishr hx hb dL_areHanded_45 ?_
        refine lv_iconst (v := 1) hx hb dL_areHanded_46 (by decide) ?_
        refine lv_iand hx hb dL_areHanded_47 ?_
        refine lv_iconst (v := 1) hx hb dL_areHanded_48 (by decide) ?_
        refine lv_icmp_ne (tgt := 56) hx hb dL_areHanded_49 (by decide) (fun c_49 => ?_) (fun c_49 => ?_)
        · skip
          refine lv_iconst (v := 0) hx hb dL_areHanded_56 (by decide) ?_
          refine lv_istore (lv' := [(12, .int 0), (11, .int (py i mo)), (0, .ref (ad 0)), (1, .int (nI nH)), (2, .int (nI mo)), (3, .int told), (4, .long kept), (6, .int free), (7, .int (hSm py mo i)), (8, .int (mS (due V ag nP) free mo i)), (9, .int 1), (10, .int (nI i))]) hx hb dL_areHanded_57 hl (by decide) rfl (fun ls hl => ?_)
          refine lv_iload hx hb dL_areHanded_59 (lv_at hl 8 rfl) ?_
          refine lv_iload hx hb dL_areHanded_61 (lv_at hl 1 rfl) ?_
          refine lv_iadd hx hb dL_areHanded_63 ?_
          refine b_top (y := hSm py mo (i + 1)) (rfl) ?_
          refine lv_istore (lv' := [(7, .int (hSm py mo (i + 1))), (12, .int 0), (11, .int (py i mo)), (0, .ref (ad 0)), (1, .int (nI nH)), (2, .int (nI mo)), (3, .int told), (4, .long kept), (6, .int free), (8, .int (mS (due V ag nP) free mo i)), (9, .int 1), (10, .int (nI i))]) hx hb dL_areHanded_64 hl (by decide) rfl (fun ls hl => ?_)
          refine lv_iload hx hb dL_areHanded_66 (lv_at hl 9 rfl) ?_
          refine lv_iload hx hb dL_areHanded_68 (lv_at hl 1 rfl) ?_
          refine lv_if_eq (tgt := 77) hx hb dL_areHanded_70 (by decide) (fun c_70 => ?_) (fun c_70 => ?_)
          · skip
            refine lv_aload_n hx hb dL_areHanded_77 rfl (lv_at hl 3 rfl) ?_
            refine lv_iload hx hb dL_areHanded_78 (lv_at hl 11 rfl) ?_
            refine lv_iload_n hx hb dL_areHanded_80 rfl (lv_at hl 5 rfl) ?_
            refine y_ci (b_runSW B hT hX hN hW hS (As := [.ref (ad 0), .int (nI i), .int (nI mo)]) (rest := [.int (mS (due V ag nP) free mo i)]) (fun sz => lv_entitlement hlf hI hty i mo q29 (by omega) hC sz) (cwL_197 B.2.2.2.2.1 ⟨Nat.le_of_ble_eq_true rfl, Nat.le_of_ble_eq_true rfl⟩) rfl hl.1 (Nat.le_of_ble_eq_true rfl) dL_areHanded_81 ⟨by show _ ≤ 192; omega, by show _ ≤ 1152; omega⟩) hI hW hS (fun k h => h) (fun _ _ => rfl) (fun E1 => E1) (fun _ _ _ => rfl) (fun E1 j hj hno => absurd rfl (hno j hj)) (fun r_81 E H locs hp hW hS => ?_)
            obtain ⟨hr_, hC⟩ := hp
            subst hr_
            refine lv_iconst (v := 5) hx hb dL_areHanded_84 (by decide) ?_
            refine lv_idiv hx hb dL_areHanded_85 (by decide) ?_
            refine lv_iadd hx hb dL_areHanded_86 ?_
            refine b_top (y := mS (due V ag nP) free mo (i + 1)) (by rw [mS, cif_f (show ¬ fbit free i from c_49)]) ?_
            refine lv_istore (lv' := [(8, .int (mS (due V ag nP) free mo (i + 1))), (7, .int (hSm py mo (i + 1))), (12, .int 0), (11, .int (py i mo)), (0, .ref (ad 0)), (1, .int (nI nH)), (2, .int (nI mo)), (3, .int told), (4, .long kept), (6, .int free), (9, .int 1), (10, .int (nI i))]) hx hb dL_areHanded_87 hl (by decide) rfl (fun ls hl => ?_)
            refine lv_iload hx hb dL_areHanded_89 (lv_at hl 10 rfl) ?_
            refine lv_iload hx hb dL_areHanded_91 (lv_at hl 3 rfl) ?_
            refine lv_if_lt (tgt := 141) hx hb dL_areHanded_93 (by decide) (fun c_93 => ?_) (fun c_93 => ?_)
            · exact absurd c_93 (nneg (hpos i q29))
            · skip
              refine lv_aload_n hx hb dL_areHanded_96 rfl (lv_at hl 4 rfl) ?_
              refine lv_iload hx hb dL_areHanded_97 (lv_at hl 11 rfl) ?_
              refine lv_iload_n hx hb dL_areHanded_99 rfl (lv_at hl 6 rfl) ?_
              refine y_ci (b_runSW B hT hX hN hW hS (As := [.ref (ad 0), .int (nI i), .int (nI mo)]) (rest := [.int 1]) (fun sz => lv_paidFor hlf hI hty i mo q29 (by omega) hC sz) (cwL_201 B.2.2.2.2.1 ⟨Nat.le_of_ble_eq_true rfl, Nat.le_of_ble_eq_true rfl⟩) rfl hl.1 (Nat.le_of_ble_eq_true rfl) dL_areHanded_100 ⟨by show _ ≤ 192; omega, by show _ ≤ 1152; omega⟩) hI hW hS (fun k h => h) (fun _ _ => rfl) (fun E1 => E1) (fun _ _ _ => rfl) (fun E1 j hj hno => absurd rfl (hno j hj)) (fun r_100 E H locs hp hW hS => ?_)
              obtain ⟨hr_, hC⟩ := hp
              subst hr_
              refine lv_aload_n hx hb dL_areHanded_103 rfl (lv_at hl 4 rfl) ?_
              refine lv_iload hx hb dL_areHanded_104 (lv_at hl 11 rfl) ?_
              refine lv_iload_n hx hb dL_areHanded_106 rfl (lv_at hl 6 rfl) ?_
              refine y_ci (b_runSW B hT hX hN hW hS (As := [.ref (ad 0), .int (nI i), .int (nI mo)]) (rest := [.int (pd i mo), .int 1]) (fun sz => lv_entitlement hlf hI hty i mo q29 (by omega) hC sz) (cwL_197 B.2.2.2.2.1 ⟨Nat.le_of_ble_eq_true rfl, Nat.le_of_ble_eq_true rfl⟩) rfl hl.1 (Nat.le_of_ble_eq_true rfl) dL_areHanded_107 ⟨by show _ ≤ 192; omega, by show _ ≤ 1152; omega⟩) hI hW hS (fun k h => h) (fun _ _ => rfl) (fun E1 => E1) (fun _ _ _ => rfl) (fun E1 j hj hno => absurd rfl (hno j hj)) (fun r_107 E H locs hp hW hS => ?_)
              obtain ⟨hr_, hC⟩ := hp
              subst hr_
              refine lv_icmp_ne (tgt := 141) hx hb dL_areHanded_110 (by decide) (fun c_110 => ?_) (fun c_110 => ?_)
              · exact absurd (hpd i q29) c_110
              · skip
                refine lv_iload hx hb dL_areHanded_113 (lv_at hl 2 rfl) ?_
                refine lv_if_eq (tgt := 137) hx hb dL_areHanded_115 (by decide) (fun c_115 => ?_) (fun c_115 => ?_)
                · skip
                  refine lv_iconst (v := 1) hx hb dL_areHanded_137 (by decide) ?_
                  refine lv_goto (tgt := 142) hx hb dL_areHanded_138 (by decide) ?_
                  refine lv_iand hx hb dL_areHanded_142 ?_
                  refine b_top (y := 1) (by decide) ?_
                  refine lv_istore (lv' := [(9, .int 1), (8, .int (mS (due V ag nP) free mo (i + 1))), (7, .int (hSm py mo (i + 1))), (12, .int 0), (11, .int (py i mo)), (0, .ref (ad 0)), (1, .int (nI nH)), (2, .int (nI mo)), (3, .int told), (4, .long kept), (6, .int free), (10, .int (nI i))]) hx hb dL_areHanded_143 hl (by decide) rfl (fun ls hl => ?_)
                  refine lv_iinc (v := (nI (i + 1))) (lv' := [(10, .int (nI (i + 1))), (9, .int 1), (8, .int (mS (due V ag nP) free mo (i + 1))), (7, .int (hSm py mo (i + 1))), (12, .int 0), (11, .int (py i mo)), (0, .ref (ad 0)), (1, .int (nI nH)), (2, .int (nI mo)), (3, .int told), (4, .long kept), (6, .int free)]) hx hb dL_areHanded_145 hl (k := 11) rfl (nI_1 i) (by decide) rfl (fun ls hl => ?_)
                  refine lv_goto (tgt := 26) hx hb dL_areHanded_148 (by decide) ?_
                  refine W.widen (k := 48 * (i + 1)) (n := 288 * (i + 1)) (by omega) (by omega) ?_
                  exact ih (i + 1) (by omega) (by omega) _ _ _ _ hC hW hS (lv_sub hl [6, 7, 8, 9, 10, 11, 3, 2, 1, 0] rfl)
                · exact absurd rfl c_115
          · exact absurd rfl c_70
        · skip
          refine lv_iconst (v := 1) hx hb dL_areHanded_52 (by decide) ?_
          refine lv_goto (tgt := 57) hx hb dL_areHanded_53 (by decide) ?_
          refine lv_istore (lv' := [(12, .int 1), (11, .int (py i mo)), (0, .ref (ad 0)), (1, .int (nI nH)), (2, .int (nI mo)), (3, .int told), (4, .long kept), (6, .int free), (7, .int (hSm py mo i)), (8, .int (mS (due V ag nP) free mo i)), (9, .int 1), (10, .int (nI i))]) hx hb dL_areHanded_57 hl (by decide) rfl (fun ls hl => ?_)
          refine lv_iload hx hb dL_areHanded_59 (lv_at hl 8 rfl) ?_
          refine lv_iload hx hb dL_areHanded_61 (lv_at hl 1 rfl) ?_
          refine lv_iadd hx hb dL_areHanded_63 ?_
          refine b_top (y := hSm py mo (i + 1)) (rfl) ?_
          refine lv_istore (lv' := [(7, .int (hSm py mo (i + 1))), (12, .int 1), (11, .int (py i mo)), (0, .ref (ad 0)), (1, .int (nI nH)), (2, .int (nI mo)), (3, .int told), (4, .long kept), (6, .int free), (8, .int (mS (due V ag nP) free mo i)), (9, .int 1), (10, .int (nI i))]) hx hb dL_areHanded_64 hl (by decide) rfl (fun ls hl => ?_)
          refine lv_iload hx hb dL_areHanded_66 (lv_at hl 9 rfl) ?_
          refine lv_iload hx hb dL_areHanded_68 (lv_at hl 1 rfl) ?_
          refine lv_if_eq (tgt := 77) hx hb dL_areHanded_70 (by decide) (fun c_70 => ?_) (fun c_70 => ?_)
          · exact absurd c_70 (by decide)
          · skip
            refine lv_iconst (v := 0) hx hb dL_areHanded_73 (by decide) ?_
            refine lv_goto (tgt := 86) hx hb dL_areHanded_74 (by decide) ?_
            refine lv_iadd hx hb dL_areHanded_86 ?_
            refine b_top (y := mS (due V ag nP) free mo (i + 1)) (by rw [mS, cif_t (show fbit free i from c_49)]) ?_
            refine lv_istore (lv' := [(8, .int (mS (due V ag nP) free mo (i + 1))), (7, .int (hSm py mo (i + 1))), (12, .int 1), (11, .int (py i mo)), (0, .ref (ad 0)), (1, .int (nI nH)), (2, .int (nI mo)), (3, .int told), (4, .long kept), (6, .int free), (9, .int 1), (10, .int (nI i))]) hx hb dL_areHanded_87 hl (by decide) rfl (fun ls hl => ?_)
            refine lv_iload hx hb dL_areHanded_89 (lv_at hl 10 rfl) ?_
            refine lv_iload hx hb dL_areHanded_91 (lv_at hl 3 rfl) ?_
            refine lv_if_lt (tgt := 141) hx hb dL_areHanded_93 (by decide) (fun c_93 => ?_) (fun c_93 => ?_)
            · exact absurd c_93 (nneg (hpos i q29))
            · skip
              refine lv_aload_n hx hb dL_areHanded_96 rfl (lv_at hl 4 rfl) ?_
              refine lv_iload hx hb dL_areHanded_97 (lv_at hl 11 rfl) ?_
              refine lv_iload_n hx hb dL_areHanded_99 rfl (lv_at hl 6 rfl) ?_
              refine y_ci (b_runSW B hT hX hN hW hS (As := [.ref (ad 0), .int (nI i), .int (nI mo)]) (rest := [.int 1]) (fun sz => lv_paidFor hlf hI hty i mo q29 (by omega) hC sz) (cwL_201 B.2.2.2.2.1 ⟨Nat.le_of_ble_eq_true rfl, Nat.le_of_ble_eq_true rfl⟩) rfl hl.1 (Nat.le_of_ble_eq_true rfl) dL_areHanded_100 ⟨by show _ ≤ 192; omega, by show _ ≤ 1152; omega⟩) hI hW hS (fun k h => h) (fun _ _ => rfl) (fun E1 => E1) (fun _ _ _ => rfl) (fun E1 j hj hno => absurd rfl (hno j hj)) (fun r_100 E H locs hp hW hS => ?_)
              obtain ⟨hr_, hC⟩ := hp
              subst hr_
              refine lv_aload_n hx hb dL_areHanded_103 rfl (lv_at hl 4 rfl) ?_
              refine lv_iload hx hb dL_areHanded_104 (lv_at hl 11 rfl) ?_
              refine lv_iload_n hx hb dL_areHanded_106 rfl (lv_at hl 6 rfl) ?_
              refine y_ci (b_runSW B hT hX hN hW hS (As := [.ref (ad 0), .int (nI i), .int (nI mo)]) (rest := [.int (pd i mo), .int 1]) (fun sz => lv_entitlement hlf hI hty i mo q29 (by omega) hC sz) (cwL_197 B.2.2.2.2.1 ⟨Nat.le_of_ble_eq_true rfl, Nat.le_of_ble_eq_true rfl⟩) rfl hl.1 (Nat.le_of_ble_eq_true rfl) dL_areHanded_107 ⟨by show _ ≤ 192; omega, by show _ ≤ 1152; omega⟩) hI hW hS (fun k h => h) (fun _ _ => rfl) (fun E1 => E1) (fun _ _ _ => rfl) (fun E1 j hj hno => absurd rfl (hno j hj)) (fun r_107 E H locs hp hW hS => ?_)
              obtain ⟨hr_, hC⟩ := hp
              subst hr_
              refine lv_icmp_ne (tgt := 141) hx hb dL_areHanded_110 (by decide) (fun c_110 => ?_) (fun c_110 => ?_)
              · exact absurd (hpd i q29) c_110
              · skip
                refine lv_iload hx hb dL_areHanded_113 (lv_at hl 2 rfl) ?_
                refine lv_if_eq (tgt := 137) hx hb dL_areHanded_115 (by decide) (fun c_115 => ?_) (fun c_115 => ?_)
                · exact absurd c_115 (by decide)
                · skip
                  refine lv_aload_n hx hb dL_areHanded_118 rfl (lv_at hl 4 rfl) ?_
                  refine lv_iload hx hb dL_areHanded_119 (lv_at hl 11 rfl) ?_
                  refine y_ci (b_runSW B hT hX hN hW hS (As := [.ref (ad 0), .int (nI i)]) (rest := [.int 1]) (fun sz => lv_isSettled hlf hI hty i q29 hC sz) (cwL_203 B.2.2.2.2.1 ⟨Nat.le_of_ble_eq_true rfl, Nat.le_of_ble_eq_true rfl⟩) rfl hl.1 (Nat.le_of_ble_eq_true rfl) dL_areHanded_121 ⟨by show _ ≤ 192; omega, by show _ ≤ 1152; omega⟩) hI hW hS (fun k h => h) (fun _ _ => rfl) (fun E1 => E1) (fun _ _ _ => rfl) (fun E1 j hj hno => absurd rfl (hno j hj)) (fun r_121 E H locs hp hW hS => ?_)
                  obtain ⟨hr_, hC⟩ := hp
                  subst hr_
                  refine lv_iconst (v := 1) hx hb dL_areHanded_124 (by decide) ?_
                  refine lv_icmp_ne (tgt := 141) hx hb dL_areHanded_125 (by decide) (fun c_125 => ?_) (fun c_125 => ?_)
                  · exact absurd (hst i q29 c_49).1 c_125
                  · skip
                    refine lv_aload_n hx hb dL_areHanded_128 rfl (lv_at hl 4 rfl) ?_
                    refine lv_iload hx hb dL_areHanded_129 (lv_at hl 11 rfl) ?_
                    refine y_ci (b_runSW B hT hX hN hW hS (As := [.ref (ad 0), .int (nI i)]) (rest := [.int 1]) (fun sz => lv_balance hlf hI hty i q29 hC sz) (cwL_193 B.2.2.2.2.1 ⟨Nat.le_of_ble_eq_true rfl, Nat.le_of_ble_eq_true rfl⟩) rfl hl.1 (Nat.le_of_ble_eq_true rfl) dL_areHanded_131 ⟨by show _ ≤ 192; omega, by show _ ≤ 1152; omega⟩) hI hW hS (fun k h => h) (fun _ _ => rfl) (fun E1 => E1) (fun _ _ _ => rfl) (fun E1 j hj hno => absurd rfl (hno j hj)) (fun r_131 E H locs hp hW hS => ?_)
                    obtain ⟨hr_, hC⟩ := hp
                    subst hr_
                    refine lv_if_ne (tgt := 141) hx hb dL_areHanded_134 (by decide) (fun c_134 => ?_) (fun c_134 => ?_)
                    · exact absurd (hst i q29 c_49).2 c_134
                    · skip
                      refine lv_iconst (v := 1) hx hb dL_areHanded_137 (by decide) ?_
                      refine lv_goto (tgt := 142) hx hb dL_areHanded_138 (by decide) ?_
                      refine lv_iand hx hb dL_areHanded_142 ?_
                      refine b_top (y := 1) (by decide) ?_
                      refine lv_istore (lv' := [(9, .int 1), (8, .int (mS (due V ag nP) free mo (i + 1))), (7, .int (hSm py mo (i + 1))), (12, .int 1), (11, .int (py i mo)), (0, .ref (ad 0)), (1, .int (nI nH)), (2, .int (nI mo)), (3, .int told), (4, .long kept), (6, .int free), (10, .int (nI i))]) hx hb dL_areHanded_143 hl (by decide) rfl (fun ls hl => ?_)
                      refine lv_iinc (v := (nI (i + 1))) (lv' := [(10, .int (nI (i + 1))), (9, .int 1), (8, .int (mS (due V ag nP) free mo (i + 1))), (7, .int (hSm py mo (i + 1))), (12, .int 1), (11, .int (py i mo)), (0, .ref (ad 0)), (1, .int (nI nH)), (2, .int (nI mo)), (3, .int told), (4, .long kept), (6, .int free)]) hx hb dL_areHanded_145 hl (k := 11) rfl (nI_1 i) (by decide) rfl (fun ls hl => ?_)
                      refine lv_goto (tgt := 26) hx hb dL_areHanded_148 (by decide) ?_
                      refine W.widen (k := 48 * (i + 1)) (n := 288 * (i + 1)) (by omega) (by omega) ?_
                      exact ih (i + 1) (by omega) (by omega) _ _ _ _ hC hW hS (lv_sub hl [6, 7, 8, 9, 10, 11, 3, 2, 1, 0] rfl)
  refine lv_iconst (v := 0) hx hb dL_areHanded_0 (by decide) ?_
  refine lv_istore (lv' := [(7, .int 0), (0, .ref (ad 0)), (1, .int (nI nH)), (2, .int (nI mo)), (3, .int told), (4, .long kept), (6, .int free)]) hx hb dL_areHanded_1 hl (by decide) rfl (fun ls hl => ?_)
  refine lv_iconst (v := 0) hx hb dL_areHanded_3 (by decide) ?_
  refine lv_istore (lv' := [(8, .int 0), (7, .int 0), (0, .ref (ad 0)), (1, .int (nI nH)), (2, .int (nI mo)), (3, .int told), (4, .long kept), (6, .int free)]) hx hb dL_areHanded_4 hl (by decide) rfl (fun ls hl => ?_)
  refine lv_aload_n hx hb dL_areHanded_6 rfl (lv_at hl 2 rfl) ?_
  refine y_ci (b_runV B hT hX hW hS (As := []) (rest := []) (fun sz => mw_paidMonths hI hty hC sz) (cwL_162 B.2.2.2.2.1 ⟨Nat.le_of_ble_eq_true rfl, Nat.le_of_ble_eq_true rfl⟩) (cw_recv B hW hC) rfl hl.1 (Nat.le_of_ble_eq_true rfl) dL_areHanded_7 ⟨by show _ ≤ 192; omega, by show _ ≤ 1152; omega⟩) hI hW hS (fun k h => h) (fun _ _ => rfl) (fun E1 => E1) (fun _ _ _ => rfl) (fun E1 j hj hno => absurd rfl (hno j hj)) (fun r_7 E H locs hp hW hS => ?_)
  obtain ⟨hr_, hC⟩ := hp
  rw [hr_]
  refine lv_iload_n hx hb dL_areHanded_10 rfl (lv_at hl 4 rfl) ?_
  refine lv_iconst (v := 1) hx hb dL_areHanded_11 (by decide) ?_
  refine lv_iadd hx hb dL_areHanded_12 ?_
  refine b_top (y := nI (mo + 1)) (nI_1 mo) ?_
  refine lv_icmp_ne (tgt := 20) hx hb dL_areHanded_13 (by decide) (fun c_13 => ?_) (fun c_13 => ?_)
  · exact absurd rfl c_13
  · skip
    refine lv_iconst (v := 1) hx hb dL_areHanded_16 (by decide) ?_
    refine lv_goto (tgt := 21) hx hb dL_areHanded_17 (by decide) ?_
    refine lv_istore (lv' := [(9, .int 1), (8, .int 0), (7, .int 0), (0, .ref (ad 0)), (1, .int (nI nH)), (2, .int (nI mo)), (3, .int told), (4, .long kept), (6, .int free)]) hx hb dL_areHanded_21 hl (by decide) rfl (fun ls hl => ?_)
    refine lv_iconst (v := 0) hx hb dL_areHanded_23 (by decide) ?_
    refine lv_istore (lv' := [(10, .int 0), (9, .int 1), (8, .int 0), (7, .int 0), (0, .ref (ad 0)), (1, .int (nI nH)), (2, .int (nI mo)), (3, .int told), (4, .long kept), (6, .int free)]) hx hb dL_areHanded_24 hl (by decide) rfl (fun ls hl => ?_)
    refine W.widen (k := 48 * 0) (n := 288 * 0) (by omega) (by omega) ?_
    exact L_26 (nH + 1) 0 (Nat.zero_le _) (by omega) _ _ _ _ hC hW hS (lv_sub hl [4, 5, 6, 7, 8, 9, 3, 2, 1, 0] rfl)
