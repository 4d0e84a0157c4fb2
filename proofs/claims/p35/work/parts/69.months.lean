set_option maxHeartbeats 8000000 in
set_option maxRecDepth 100000 in
/-- areMonths -/
theorem ow_areMonths {l : Launch} (hlf : l.stackTraces = false) {D : va_G} {tys : List (ClassId × FieldType)} {ad : Nat → Nat} (hI : aI ad 109) {cI cZ cH cP cT : ClassId} {V T : Nat → Nat → Int32} {ag : Nat → Int32} {nP nH rN : Nat} {nf pn : Int32} {sp sk : Int64} {py pd : Nat → Nat → Int32} (hty : TY tys cI cZ cH cP cT) {E : Nat → va_E} (hC : CW cI cZ cH cP cT ad V T ag nP nH rN nf pn sp sk py pd E) (hJ : J35 nH rN pn sp py pd) (sz : Nat) : Met l yL_areMonths (Cond.code yL_areMonths cL_areMonths 17 (some .boolean) :: wsL_law) (rmk 8 36944 221664) (va_Pc [.ref (ad 0), .int (nI nH)] (PN D tys ad 109 E sz)) (Qi D ad 109 (fun r E1 => r = 1 ∧ CW cI cZ cH cP cT ad V T ag nP nH rN nf pn sp sk py pd E1) (cA ad 109 sz)) 36944 221664 (cA ad 109 sz) := by
  obtain ⟨hP8, hH4, hR12⟩ := hC.bds
  refine cn_of (own := RL) (Qc := Qi D ad 109 (fun r E1 => r = 1 ∧ CW cI cZ cH cP cT ad V T ag nP nH rN nf pn sp sk py pd E1)) rfl (by decide +kernel) (Nat.le_of_ble_eq_true rfl) ?_ sz
  intro p e s m args below meth c ls Q B hT hX hN hW hr hlk hl hS hA hQ
  have hx := B.1
  have hb := B.2.1
  have hl : lv_has ls 17 [(0, .ref (ad 0)), (1, .int (nI nH))] := hl
  have L_56 : ∀ (n_ : Nat) (i mn k : Nat), (hi : i < nH) → (hm : mn < 12) → (hk : k ≤ 30) → (hn : 30 < n_ + k) → (hK : ∀ (E : Nat → va_E) (H : Heap) (locs : List Loc) (ls : Array Slot), CW cI cZ cH cP cT ad V T ag nP nH rN nf pn sp sk py pd E → hH D ad 109 E H → va_S (cA ad 109 s.heap.size) s.heap H locs → lv_has ls 17 [(0, .ref (ad 0)), (1, .int (nI nH)), (2, .long (aL py rN i)), (4, .int (nI (rN * i + mr rN mn))), (5, .int 1), (6, .int (nI i)), (7, .long (hL (pd i) mn)), (9, .long (hL (py i) (mr rN mn))), (11, .int (bal (due V ag nP i) (pd i) (mr rN mn))), (12, .int (nI mn)), (13, .int (due V ag nP i mn)), (14, .int (due V ag nP i mn))] → W p l e (rmk 8 36944 221664) s m args below meth c H locs (9232 * i + 768 * mn + 728) (55392 * i + 4608 * mn + 4368) Q (F0 m 106 ls [])) → ∀ (E : Nat → va_E) (H : Heap) (locs : List Loc) (ls : Array Slot), CW cI cZ cH cP cT ad V T ag nP nH rN nf pn sp sk py pd E → hH D ad 109 E H → va_S (cA ad 109 s.heap.size) s.heap H locs → lv_has ls 17 [(0, .ref (ad 0)), (1, .int (nI nH)), (2, .long (aL py rN i)), (4, .int (nI (rN * i + mr rN mn))), (5, .int 1), (6, .int (nI i)), (7, .long (hL (pd i) mn)), (9, .long (hL (py i) (mr rN mn))), (11, .int (bal (due V ag nP i) (pd i) (mr rN mn))), (12, .int (nI mn)), (13, .int (due V ag nP i mn)), (14, .int (sumD (tot V ag nP i) k (30 * mn))), (15, .int (nI (30 * mn + k)))] → W p l e (rmk 8 36944 221664) s m args below meth c H locs (9232 * i + 768 * mn + 8 + 24 * k) (55392 * i + 4608 * mn + 48 + 144 * k) Q (F0 m 56 ls []) := by
    intro n_
    induction n_ with
    | zero =>
      intro i mn k hi hm hk hn hK
      omega
    | succ n_ ih =>
      intro i mn k hi hm hk hn hK E H locs ls hC hW hS hl
      refine lv_iload hx hb dL_areMonths_56 (lv_at hl 12 rfl) ?_
      refine lv_bipush (v := 30) hx hb dL_areMonths_58 (by decide) ?_
      refine lv_iload hx hb dL_areMonths_60 (lv_at hl 9 rfl) ?_
      refine lv_imul hx hb dL_areMonths_62 ?_
      refine b_top (y := nI (30 * mn)) (m30 hm) ?_
      refine lv_bipush (v := 30) hx hb dL_areMonths_63 (by decide) ?_
      refine lv_iadd hx hb dL_areMonths_65 ?_
      refine b_top (y := nI (30 * mn + 30)) (nI_add _ 30) ?_
      refine lv_icmp_ge (tgt := 106) hx hb dL_areMonths_66 (by decide) (fun c_66 => ?_) (fun c_66 => ?_)
      · skip
        have ek : k = 30 := by have := (nI_leI (by omega) (by omega)).mp c_66; omega
        have hl : lv_has ls 17 [(0, .ref (ad 0)), (1, .int (nI nH)), (2, .long (aL py rN i)), (4, .int (nI (rN * i + mr rN mn))), (5, .int 1), (6, .int (nI i)), (7, .long (hL (pd i) mn)), (9, .long (hL (py i) (mr rN mn))), (11, .int (bal (due V ag nP i) (pd i) (mr rN mn))), (12, .int (nI mn)), (13, .int (due V ag nP i mn)), (14, .int (due V ag nP i mn))] := by rw [ek] at hl; exact lv_sub hl [0, 1, 2, 3, 4, 5, 6, 7, 8, 9, 10, 11] rfl
        refine W.widen (k := 9232 * i + 768 * mn + 728) (n := 55392 * i + 4608 * mn + 4368) (by omega) (by omega) ?_
        exact hK _ _ _ _ hC hW hS (lv_sub hl [0, 1, 2, 3, 4, 5, 6, 7, 8, 9, 10, 11] rfl)
      · skip
        have q66 : k < 30 := by have := Nat.lt_of_not_le (fun q => c_66 ((nI_leI (by omega) (by omega)).mpr q)); omega
        refine lv_iload hx hb dL_areMonths_69 (lv_at hl 11 rfl) ?_
        refine lv_aload_n hx hb dL_areMonths_71 rfl (lv_at hl 0 rfl) ?_
        refine lv_iload hx hb dL_areMonths_72 (lv_at hl 5 rfl) ?_
        refine lv_iload hx hb dL_areMonths_74 (lv_at hl 12 rfl) ?_
        refine y_ci (b_runSW B hT hX hN hW hS (As := [.ref (ad 0), .int (nI i), .int (nI (30 * mn + k))]) (rest := [.int (sumD (tot V ag nP i) k (30 * mn))]) (fun sz => lv_adultAmount hlf hI hty i (30 * mn + k) hi (by omega) hC sz) (cwL_205 B.2.2.2.2.1 ⟨Nat.le_of_ble_eq_true rfl, Nat.le_of_ble_eq_true rfl⟩) rfl hl.1 (Nat.le_of_ble_eq_true rfl) dL_areMonths_76 ⟨by show _ ≤ 36944; omega, by show _ ≤ 221664; omega⟩) hI hW hS (fun k h => h) (fun _ _ => rfl) (fun E1 => E1) (fun _ _ _ => rfl) (fun E1 j hj hno => absurd rfl (hno j hj)) (fun r_76 E H locs hp hW hS => ?_)
        obtain ⟨hr_, hC⟩ := hp
        subst hr_
        refine lv_aload_n hx hb dL_areMonths_79 rfl (lv_at hl 0 rfl) ?_
        refine lv_iload hx hb dL_areMonths_80 (lv_at hl 5 rfl) ?_
        refine lv_iload hx hb dL_areMonths_82 (lv_at hl 12 rfl) ?_
        refine y_ci (b_runSW B hT hX hN hW hS (As := [.ref (ad 0), .int (nI i), .int (nI (30 * mn + k))]) (rest := [.int ((amt V ag nP i (30 * mn + k)).1), .int (sumD (tot V ag nP i) k (30 * mn))]) (fun sz => lv_childAmount hlf hI hty i (30 * mn + k) hi (by omega) hC sz) (cwL_207 B.2.2.2.2.1 ⟨Nat.le_of_ble_eq_true rfl, Nat.le_of_ble_eq_true rfl⟩) rfl hl.1 (Nat.le_of_ble_eq_true rfl) dL_areMonths_84 ⟨by show _ ≤ 36944; omega, by show _ ≤ 221664; omega⟩) hI hW hS (fun k h => h) (fun _ _ => rfl) (fun E1 => E1) (fun _ _ _ => rfl) (fun E1 j hj hno => absurd rfl (hno j hj)) (fun r_84 E H locs hp hW hS => ?_)
        obtain ⟨hr_, hC⟩ := hp
        subst hr_
        refine lv_iadd hx hb dL_areMonths_87 ?_
        refine lv_aload_n hx hb dL_areMonths_88 rfl (lv_at hl 0 rfl) ?_
        refine lv_iload hx hb dL_areMonths_89 (lv_at hl 5 rfl) ?_
        refine lv_iload hx hb dL_areMonths_91 (lv_at hl 12 rfl) ?_
        refine y_ci (b_runSW B hT hX hN hW hS (As := [.ref (ad 0), .int (nI i), .int (nI (30 * mn + k))]) (rest := [.int (((amt V ag nP i (30 * mn + k)).1) + ((amt V ag nP i (30 * mn + k)).2.1)), .int (sumD (tot V ag nP i) k (30 * mn))]) (fun sz => lv_housingAmount hlf hI hty i (30 * mn + k) hi (by omega) hC sz) (cwL_209 B.2.2.2.2.1 ⟨Nat.le_of_ble_eq_true rfl, Nat.le_of_ble_eq_true rfl⟩) rfl hl.1 (Nat.le_of_ble_eq_true rfl) dL_areMonths_93 ⟨by show _ ≤ 36944; omega, by show _ ≤ 221664; omega⟩) hI hW hS (fun k h => h) (fun _ _ => rfl) (fun E1 => E1) (fun _ _ _ => rfl) (fun E1 j hj hno => absurd rfl (hno j hj)) (fun r_93 E H locs hp hW hS => ?_)
        obtain ⟨hr_, hC⟩ := hp
        subst hr_
        refine lv_iadd hx hb dL_areMonths_96 ?_
        refine b_top (y := tot V ag nP i (30 * mn + k)) (rfl) ?_
        refine lv_iadd hx hb dL_areMonths_97 ?_
        refine b_top (y := sumD (tot V ag nP i) (k + 1) (30 * mn)) (rfl) ?_
        refine lv_istore (lv' := [(14, .int (sumD (tot V ag nP i) (k + 1) (30 * mn))), (0, .ref (ad 0)), (1, .int (nI nH)), (2, .long (aL py rN i)), (4, .int (nI (rN * i + mr rN mn))), (5, .int 1), (6, .int (nI i)), (7, .long (hL (pd i) mn)), (9, .long (hL (py i) (mr rN mn))), (11, .int (bal (due V ag nP i) (pd i) (mr rN mn))), (12, .int (nI mn)), (13, .int (due V ag nP i mn)), (15, .int (nI (30 * mn + k)))]) hx hb dL_areMonths_98 hl (by decide) rfl (fun ls hl => ?_)
        refine lv_iinc (v := (nI (30 * mn + (k + 1)))) (lv' := [(15, .int (nI (30 * mn + (k + 1)))), (14, .int (sumD (tot V ag nP i) (k + 1) (30 * mn))), (0, .ref (ad 0)), (1, .int (nI nH)), (2, .long (aL py rN i)), (4, .int (nI (rN * i + mr rN mn))), (5, .int 1), (6, .int (nI i)), (7, .long (hL (pd i) mn)), (9, .long (hL (py i) (mr rN mn))), (11, .int (bal (due V ag nP i) (pd i) (mr rN mn))), (12, .int (nI mn)), (13, .int (due V ag nP i mn))]) hx hb dL_areMonths_100 hl (k := 12) rfl (nI_1 (30 * mn + k)) (by decide) rfl (fun ls hl => ?_)
        refine lv_goto (tgt := 56) hx hb dL_areMonths_103 (by decide) ?_
        refine W.widen (k := 9232 * i + 768 * mn + 8 + 24 * (k + 1)) (n := 55392 * i + 4608 * mn + 48 + 144 * (k + 1)) (by omega) (by omega) ?_
        exact ih i mn (k + 1) hi hm (by omega) (by omega) hK _ _ _ _ hC hW hS (lv_sub hl [2, 3, 4, 5, 6, 7, 8, 9, 10, 11, 12, 1, 0] rfl)
  have L_29 : ∀ (n_ : Nat) (i mn : Nat), (hi : i < nH) → (hm : mn ≤ 12) → (hn : 12 < n_ + mn) → (hK : ∀ (E : Nat → va_E) (H : Heap) (locs : List Loc) (ls : Array Slot), CW cI cZ cH cP cT ad V T ag nP nH rN nf pn sp sk py pd E → hH D ad 109 E H → va_S (cA ad 109 s.heap.size) s.heap H locs → lv_has ls 17 [(0, .ref (ad 0)), (1, .int (nI nH)), (2, .long (aL py rN i)), (4, .int (nI (rN * i + rN))), (5, .int 1), (6, .int (nI i)), (7, .long (hL (pd i) 12)), (9, .long (hL (py i) rN)), (11, .int (bal (due V ag nP i) (pd i) rN))] → W p l e (rmk 8 36944 221664) s m args below meth c H locs (9232 * i + 9216) (55392 * i + 55296) Q (F0 m 270 ls [])) → ∀ (E : Nat → va_E) (H : Heap) (locs : List Loc) (ls : Array Slot), CW cI cZ cH cP cT ad V T ag nP nH rN nf pn sp sk py pd E → hH D ad 109 E H → va_S (cA ad 109 s.heap.size) s.heap H locs → lv_has ls 17 [(0, .ref (ad 0)), (1, .int (nI nH)), (2, .long (aL py rN i)), (4, .int (nI (rN * i + mr rN mn))), (5, .int 1), (6, .int (nI i)), (7, .long (hL (pd i) mn)), (9, .long (hL (py i) (mr rN mn))), (11, .int (bal (due V ag nP i) (pd i) (mr rN mn))), (12, .int (nI mn))] → W p l e (rmk 8 36944 221664) s m args below meth c H locs (9232 * i + 768 * mn) (55392 * i + 4608 * mn) Q (F0 m 29 ls []) := by
    intro n_
    induction n_ with
    | zero =>
      intro i mn hi hm hn hK
      omega
    | succ n_ ih =>
      intro i mn hi hm hn hK E H locs ls hC hW hS hl
      refine lv_iload hx hb dL_areMonths_29 (lv_at hl 9 rfl) ?_
      refine lv_bipush (v := (nI 12)) hx hb dL_areMonths_31 (by decide) ?_
      refine lv_icmp_ge (tgt := 270) hx hb dL_areMonths_33 (by decide) (fun c_33 => ?_) (fun c_33 => ?_)
      · skip
        have em : mn = 12 := by have := (nI_leI (by omega) (by omega)).mp c_33; omega
        have hl : lv_has ls 17 [(0, .ref (ad 0)), (1, .int (nI nH)), (2, .long (aL py rN i)), (4, .int (nI (rN * i + rN))), (5, .int 1), (6, .int (nI i)), (7, .long (hL (pd i) 12)), (9, .long (hL (py i) rN)), (11, .int (bal (due V ag nP i) (pd i) rN))] := by rw [em, mr_12 hR12] at hl; exact lv_sub hl [0, 1, 2, 3, 4, 5, 6, 7, 8] rfl
        refine W.widen (k := 9232 * i + 9216) (n := 55392 * i + 55296) (by omega) (by omega) ?_
        exact hK _ _ _ _ hC hW hS (lv_sub hl [0, 1, 2, 3, 4, 5, 6, 7, 8] rfl)
      · skip
        have q33 : mn < 12 := Nat.lt_of_not_le (fun q => c_33 ((nI_leI (by omega) (by omega)).mpr q))
        refine lv_aload_n hx hb dL_areMonths_36 rfl (lv_at hl 0 rfl) ?_
        refine lv_iload hx hb dL_areMonths_37 (lv_at hl 5 rfl) ?_
        refine lv_iload hx hb dL_areMonths_39 (lv_at hl 9 rfl) ?_
        refine y_ci (b_runSW B hT hX hN hW hS (As := [.ref (ad 0), .int (nI i), .int (nI mn)]) (rest := []) (fun sz => lv_entitlement hlf hI hty i mn hi (by omega) hC sz) (cwL_197 B.2.2.2.2.1 ⟨Nat.le_of_ble_eq_true rfl, Nat.le_of_ble_eq_true rfl⟩) rfl hl.1 (Nat.le_of_ble_eq_true rfl) dL_areMonths_41 ⟨by show _ ≤ 36944; omega, by show _ ≤ 221664; omega⟩) hI hW hS (fun k h => h) (fun _ _ => rfl) (fun E1 => E1) (fun _ _ _ => rfl) (fun E1 j hj hno => absurd rfl (hno j hj)) (fun r_41 E H locs hp hW hS => ?_)
        obtain ⟨hr_, hC⟩ := hp
        subst hr_
        refine lv_istore (lv' := [(13, .int (due V ag nP i mn)), (0, .ref (ad 0)), (1, .int (nI nH)), (2, .long (aL py rN i)), (4, .int (nI (rN * i + mr rN mn))), (5, .int 1), (6, .int (nI i)), (7, .long (hL (pd i) mn)), (9, .long (hL (py i) (mr rN mn))), (11, .int (bal (due V ag nP i) (pd i) (mr rN mn))), (12, .int (nI mn))]) hx hb dL_areMonths_44 hl (by decide) rfl (fun ls hl => ?_)
        refine lv_iconst (v := 0) hx hb dL_areMonths_46 (by decide) ?_
        refine lv_istore (lv' := [(14, .int 0), (13, .int (due V ag nP i mn)), (0, .ref (ad 0)), (1, .int (nI nH)), (2, .long (aL py rN i)), (4, .int (nI (rN * i + mr rN mn))), (5, .int 1), (6, .int (nI i)), (7, .long (hL (pd i) mn)), (9, .long (hL (py i) (mr rN mn))), (11, .int (bal (due V ag nP i) (pd i) (mr rN mn))), (12, .int (nI mn))]) hx hb dL_areMonths_47 hl (by decide) rfl (fun ls hl => ?_)
        refine lv_bipush (v := 30) hx hb dL_areMonths_49 (by decide) ?_
        refine lv_iload hx hb dL_areMonths_51 (lv_at hl 11 rfl) ?_
        refine lv_imul hx hb dL_areMonths_53 ?_
        refine b_top (y := nI (30 * mn)) (m30 q33) ?_
        refine lv_istore (lv' := [(15, .int (nI (30 * mn))), (14, .int 0), (13, .int (due V ag nP i mn)), (0, .ref (ad 0)), (1, .int (nI nH)), (2, .long (aL py rN i)), (4, .int (nI (rN * i + mr rN mn))), (5, .int 1), (6, .int (nI i)), (7, .long (hL (pd i) mn)), (9, .long (hL (py i) (mr rN mn))), (11, .int (bal (due V ag nP i) (pd i) (mr rN mn))), (12, .int (nI mn))]) hx hb dL_areMonths_54 hl (by decide) rfl (fun ls hl => ?_)
        refine W.widen (k := 9232 * i + 768 * mn + 8 + 24 * 0) (n := 55392 * i + 4608 * mn + 48 + 144 * 0) (by omega) (by omega) ?_
        refine L_56 31 i mn 0 hi q33 (by omega) (by omega) (fun E H locs ls hC hW hS hl => ?_) _ _ _ _ hC hW hS (lv_sub hl [3, 4, 5, 6, 7, 8, 9, 10, 11, 12, 2, 1, 0] rfl)
        by_cases hr : mn < rN
        · skip
          refine lv_aload_n hx hb dL_areMonths_106 rfl (lv_at hl 0 rfl) ?_
          refine lv_iload hx hb dL_areMonths_107 (lv_at hl 5 rfl) ?_
          refine lv_iload hx hb dL_areMonths_109 (lv_at hl 9 rfl) ?_
          refine y_ci (b_runSW B hT hX hN hW hS (As := [.ref (ad 0), .int (nI i), .int (nI mn)]) (rest := []) (fun sz => lv_paymentT hlf hI hty i mn hi (by omega) hr hC sz) (cwL_199 B.2.2.2.2.1 ⟨Nat.le_of_ble_eq_true rfl, Nat.le_of_ble_eq_true rfl⟩) rfl hl.1 (Nat.le_of_ble_eq_true rfl) dL_areMonths_111 ⟨by show _ ≤ 36944; omega, by show _ ≤ 221664; omega⟩) hI hW hS (fun k h => h) (fun _ _ => rfl) (fun E1 => E1) (fun _ _ _ => rfl) (fun E1 j hj hno => absurd rfl (hno j hj)) (fun r_111 E H locs hp hW hS => ?_)
          obtain ⟨hr_, hC⟩ := hp
          subst hr_
          refine lv_istore (lv' := [(15, .int (py i mn)), (0, .ref (ad 0)), (1, .int (nI nH)), (2, .long (aL py rN i)), (4, .int (nI (rN * i + mr rN mn))), (5, .int 1), (6, .int (nI i)), (7, .long (hL (pd i) mn)), (9, .long (hL (py i) (mr rN mn))), (11, .int (bal (due V ag nP i) (pd i) (mr rN mn))), (12, .int (nI mn)), (13, .int (due V ag nP i mn)), (14, .int (due V ag nP i mn))]) hx hb dL_areMonths_114 hl (by decide) rfl (fun ls hl => ?_)
          refine lv_iload hx hb dL_areMonths_116 (lv_at hl 10 rfl) ?_
          refine lv_aload_n hx hb dL_areMonths_118 rfl (lv_at hl 1 rfl) ?_
          refine y_ci (b_runV B hT hX hW hS (As := []) (rest := [.int (nI mn)]) (fun sz => mw_paidMonths hI hty hC sz) (cwL_162 B.2.2.2.2.1 ⟨Nat.le_of_ble_eq_true rfl, Nat.le_of_ble_eq_true rfl⟩) (cw_recv B hW hC) rfl hl.1 (Nat.le_of_ble_eq_true rfl) dL_areMonths_119 ⟨by show _ ≤ 36944; omega, by show _ ≤ 221664; omega⟩) hI hW hS (fun k h => h) (fun _ _ => rfl) (fun E1 => E1) (fun _ _ _ => rfl) (fun E1 j hj hno => absurd rfl (hno j hj)) (fun r_119 E H locs hp hW hS => ?_)
          obtain ⟨hr_, hC⟩ := hp
          rw [hr_]
          refine lv_icmp_ge (tgt := 129) hx hb dL_areMonths_122 (by decide) (fun c_122 => ?_) (fun c_122 => ?_)
          · exact absurd c_122 (fun q => absurd ((nI_leI (by omega) (by omega)).mp q) (by omega))
          · skip
            refine lv_iconst (v := 1) hx hb dL_areMonths_125 (by decide) ?_
            refine lv_goto (tgt := 130) hx hb dL_areMonths_126 (by decide) ?_
            refine lv_istore (lv' := [(16, .int 1), (15, .int (py i mn)), (0, .ref (ad 0)), (1, .int (nI nH)), (2, .long (aL py rN i)), (4, .int (nI (rN * i + mr rN mn))), (5, .int 1), (6, .int (nI i)), (7, .long (hL (pd i) mn)), (9, .long (hL (py i) (mr rN mn))), (11, .int (bal (due V ag nP i) (pd i) (mr rN mn))), (12, .int (nI mn)), (13, .int (due V ag nP i mn)), (14, .int (due V ag nP i mn))]) hx hb dL_areMonths_130 hl (by decide) rfl (fun ls hl => ?_)
            refine lv_iload hx hb dL_areMonths_132 (lv_at hl 6 rfl) ?_
            refine lv_iload hx hb dL_areMonths_134 (lv_at hl 12 rfl) ?_
            refine lv_iload hx hb dL_areMonths_136 (lv_at hl 13 rfl) ?_
            refine lv_icmp_ne (tgt := 189) hx hb dL_areMonths_138 (by decide) (fun c_138 => ?_) (fun c_138 => ?_)
            · exact absurd rfl c_138
            · skip
              refine lv_aload_n hx hb dL_areMonths_141 rfl (lv_at hl 2 rfl) ?_
              refine lv_iload hx hb dL_areMonths_142 (lv_at hl 7 rfl) ?_
              refine lv_iload hx hb dL_areMonths_144 (lv_at hl 11 rfl) ?_
              refine y_ci (b_runSW B hT hX hN hW hS (As := [.ref (ad 0), .int (nI i), .int (nI mn)]) (rest := [.int 1]) (fun sz => lv_entitlementByDays hlf hI hty i mn hi (by omega) hC sz) (cwL_219 B.2.2.2.2.1 ⟨Nat.le_of_ble_eq_true rfl, Nat.le_of_ble_eq_true rfl⟩) rfl hl.1 (Nat.le_of_ble_eq_true rfl) dL_areMonths_146 ⟨by show _ ≤ 36944; omega, by show _ ≤ 221664; omega⟩) hI hW hS (fun k h => h) (fun _ _ => rfl) (fun E1 => E1) (fun _ _ _ => rfl) (fun E1 j hj hno => absurd rfl (hno j hj)) (fun r_146 E H locs hp hW hS => ?_)
              obtain ⟨hr_, hC⟩ := hp
              subst hr_
              refine lv_iload hx hb dL_areMonths_149 (lv_at hl 13 rfl) ?_
              refine lv_icmp_ne (tgt := 189) hx hb dL_areMonths_151 (by decide) (fun c_151 => ?_) (fun c_151 => ?_)
              · exact absurd rfl c_151
              · skip
                refine lv_iload hx hb dL_areMonths_154 (lv_at hl 0 rfl) ?_
                refine lv_if_eq (tgt := 167) hx hb dL_areMonths_156 (by decide) (fun c_156 => ?_) (fun c_156 => ?_)
                · exact absurd c_156 (by decide)
                · skip
                  refine lv_iload hx hb dL_areMonths_159 (lv_at hl 1 rfl) ?_
                  refine lv_if_lt (tgt := 189) hx hb dL_areMonths_161 (by decide) (fun c_161 => ?_) (fun c_161 => ?_)
                  · exact absurd c_161 (nneg ((hJ.1 i hi).2.2 mn hr))
                  · skip
                    refine lv_goto (tgt := 185) hx hb dL_areMonths_164 (by decide) ?_
                    refine lv_iconst (v := 1) hx hb dL_areMonths_185 (by decide) ?_
                    refine lv_goto (tgt := 190) hx hb dL_areMonths_186 (by decide) ?_
                    refine lv_iand hx hb dL_areMonths_190 ?_
                    refine b_top (y := 1) (by decide) ?_
                    refine lv_istore (lv' := [(5, .int 1), (16, .int 1), (15, .int (py i mn)), (0, .ref (ad 0)), (1, .int (nI nH)), (2, .long (aL py rN i)), (4, .int (nI (rN * i + mr rN mn))), (6, .int (nI i)), (7, .long (hL (pd i) mn)), (9, .long (hL (py i) (mr rN mn))), (11, .int (bal (due V ag nP i) (pd i) (mr rN mn))), (12, .int (nI mn)), (13, .int (due V ag nP i mn)), (14, .int (due V ag nP i mn))]) hx hb dL_areMonths_191 hl (by decide) rfl (fun ls hl => ?_)
                    refine lv_lload hx hb dL_areMonths_193 (lv_at hl 8 rfl) ?_
                    refine lv_aload_n hx hb dL_areMonths_195 rfl (lv_at hl 3 rfl) ?_
                    refine lv_iload hx hb dL_areMonths_196 (lv_at hl 7 rfl) ?_
                    refine lv_iload hx hb dL_areMonths_198 (lv_at hl 11 rfl) ?_
                    refine y_ci (b_runSW B hT hX hN hW hS (As := [.ref (ad 0), .int (nI i), .int (nI mn)]) (rest := [.long (hL (pd i) mn)]) (fun sz => lv_paidFor hlf hI hty i mn hi (by omega) hC sz) (cwL_201 B.2.2.2.2.1 ⟨Nat.le_of_ble_eq_true rfl, Nat.le_of_ble_eq_true rfl⟩) rfl hl.1 (Nat.le_of_ble_eq_true rfl) dL_areMonths_200 ⟨by show _ ≤ 36944; omega, by show _ ≤ 221664; omega⟩) hI hW hS (fun k h => h) (fun _ _ => rfl) (fun E1 => E1) (fun _ _ _ => rfl) (fun E1 j hj hno => absurd rfl (hno j hj)) (fun r_200 E H locs hp hW hS => ?_)
                    obtain ⟨hr_, hC⟩ := hp
                    subst hr_
                    refine lv_i2l hx hb dL_areMonths_203 rfl ?_
                    refine lv_ladd hx hb dL_areMonths_204 ?_
                    refine b_ltop (y := hL (pd i) (mn + 1)) (rfl) ?_
                    refine lv_lstore (lv' := [(7, .long (hL (pd i) (mn + 1))), (5, .int 1), (16, .int 1), (15, .int (py i mn)), (0, .ref (ad 0)), (1, .int (nI nH)), (2, .long (aL py rN i)), (4, .int (nI (rN * i + mr rN mn))), (6, .int (nI i)), (9, .long (hL (py i) (mr rN mn))), (11, .int (bal (due V ag nP i) (pd i) (mr rN mn))), (12, .int (nI mn)), (13, .int (due V ag nP i mn)), (14, .int (due V ag nP i mn))]) hx hb dL_areMonths_205 hl (by decide) rfl (fun ls hl => ?_)
                    refine lv_lload hx hb dL_areMonths_207 (lv_at hl 9 rfl) ?_
                    refine lv_iload hx hb dL_areMonths_209 (lv_at hl 2 rfl) ?_
                    refine lv_if_eq (tgt := 220) hx hb dL_areMonths_211 (by decide) (fun c_211 => ?_) (fun c_211 => ?_)
                    · exact absurd c_211 (by decide)
                    · skip
                      refine lv_iload hx hb dL_areMonths_214 (lv_at hl 3 rfl) ?_
                      refine lv_i2l hx hb dL_areMonths_216 rfl ?_
                      refine lv_goto (tgt := 221) hx hb dL_areMonths_217 (by decide) ?_
                      refine lv_ladd hx hb dL_areMonths_221 ?_
                      refine b_ltop (y := hL (py i) (mr rN (mn + 1))) (by rw [mr_T hr, mr_lt (Nat.le_of_lt hr)]; rfl) ?_
                      refine lv_lstore (lv' := [(9, .long (hL (py i) (mr rN (mn + 1)))), (7, .long (hL (pd i) (mn + 1))), (5, .int 1), (16, .int 1), (15, .int (py i mn)), (0, .ref (ad 0)), (1, .int (nI nH)), (2, .long (aL py rN i)), (4, .int (nI (rN * i + mr rN mn))), (6, .int (nI i)), (11, .int (bal (due V ag nP i) (pd i) (mr rN mn))), (12, .int (nI mn)), (13, .int (due V ag nP i mn)), (14, .int (due V ag nP i mn))]) hx hb dL_areMonths_222 hl (by decide) rfl (fun ls hl => ?_)
                      refine lv_iload hx hb dL_areMonths_224 (lv_at hl 10 rfl) ?_
                      refine lv_iload hx hb dL_areMonths_226 (lv_at hl 3 rfl) ?_
                      refine lv_if_eq (tgt := 245) hx hb dL_areMonths_228 (by decide) (fun c_228 => ?_) (fun c_228 => ?_)
                      · exact absurd c_228 (by decide)
                      · skip
                        refine lv_iload hx hb dL_areMonths_231 (lv_at hl 12 rfl) ?_
                        refine lv_aload_n hx hb dL_areMonths_233 rfl (lv_at hl 5 rfl) ?_
                        refine lv_iload hx hb dL_areMonths_234 (lv_at hl 9 rfl) ?_
                        refine lv_iload hx hb dL_areMonths_236 (lv_at hl 11 rfl) ?_
                        refine y_ci (b_runSW B hT hX hN hW hS (As := [.ref (ad 0), .int (nI i), .int (nI mn)]) (rest := [.int (due V ag nP i mn), .int (bal (due V ag nP i) (pd i) (mr rN mn))]) (fun sz => lv_paidFor hlf hI hty i mn hi (by omega) hC sz) (cwL_201 B.2.2.2.2.1 ⟨Nat.le_of_ble_eq_true rfl, Nat.le_of_ble_eq_true rfl⟩) rfl hl.1 (Nat.le_of_ble_eq_true rfl) dL_areMonths_238 ⟨by show _ ≤ 36944; omega, by show _ ≤ 221664; omega⟩) hI hW hS (fun k h => h) (fun _ _ => rfl) (fun E1 => E1) (fun _ _ _ => rfl) (fun E1 j hj hno => absurd rfl (hno j hj)) (fun r_238 E H locs hp hW hS => ?_)
                        obtain ⟨hr_, hC⟩ := hp
                        subst hr_
                        refine lv_isub hx hb dL_areMonths_241 ?_
                        refine lv_goto (tgt := 246) hx hb dL_areMonths_242 (by decide) ?_
                        refine lv_iadd hx hb dL_areMonths_246 ?_
                        refine b_top (y := bal (due V ag nP i) (pd i) (mr rN (mn + 1))) (by rw [mr_T hr, mr_lt (Nat.le_of_lt hr)]; rfl) ?_
                        refine lv_istore (lv' := [(11, .int (bal (due V ag nP i) (pd i) (mr rN (mn + 1)))), (9, .long (hL (py i) (mr rN (mn + 1)))), (7, .long (hL (pd i) (mn + 1))), (5, .int 1), (16, .int 1), (15, .int (py i mn)), (0, .ref (ad 0)), (1, .int (nI nH)), (2, .long (aL py rN i)), (4, .int (nI (rN * i + mr rN mn))), (6, .int (nI i)), (12, .int (nI mn)), (13, .int (due V ag nP i mn)), (14, .int (due V ag nP i mn))]) hx hb dL_areMonths_247 hl (by decide) rfl (fun ls hl => ?_)
                        refine lv_iload hx hb dL_areMonths_249 (lv_at hl 9 rfl) ?_
                        refine lv_iload hx hb dL_areMonths_251 (lv_at hl 4 rfl) ?_
                        refine lv_if_eq (tgt := 260) hx hb dL_areMonths_253 (by decide) (fun c_253 => ?_) (fun c_253 => ?_)
                        · exact absurd c_253 (by decide)
                        · skip
                          refine lv_iconst (v := 1) hx hb dL_areMonths_256 (by decide) ?_
                          refine lv_goto (tgt := 261) hx hb dL_areMonths_257 (by decide) ?_
                          refine lv_iadd hx hb dL_areMonths_261 ?_
                          refine b_top (y := nI (rN * i + mr rN (mn + 1))) (by rw [mr_T hr]; exact nI_1 _) ?_
                          refine lv_istore (lv' := [(4, .int (nI (rN * i + mr rN (mn + 1)))), (11, .int (bal (due V ag nP i) (pd i) (mr rN (mn + 1)))), (9, .long (hL (py i) (mr rN (mn + 1)))), (7, .long (hL (pd i) (mn + 1))), (5, .int 1), (16, .int 1), (15, .int (py i mn)), (0, .ref (ad 0)), (1, .int (nI nH)), (2, .long (aL py rN i)), (6, .int (nI i)), (12, .int (nI mn)), (13, .int (due V ag nP i mn)), (14, .int (due V ag nP i mn))]) hx hb dL_areMonths_262 hl (by decide) rfl (fun ls hl => ?_)
                          refine lv_iinc (v := (nI (mn + 1))) (lv' := [(12, .int (nI (mn + 1))), (4, .int (nI (rN * i + mr rN (mn + 1)))), (11, .int (bal (due V ag nP i) (pd i) (mr rN (mn + 1)))), (9, .long (hL (py i) (mr rN (mn + 1)))), (7, .long (hL (pd i) (mn + 1))), (5, .int 1), (16, .int 1), (15, .int (py i mn)), (0, .ref (ad 0)), (1, .int (nI nH)), (2, .long (aL py rN i)), (6, .int (nI i)), (13, .int (due V ag nP i mn)), (14, .int (due V ag nP i mn))]) hx hb dL_areMonths_264 hl (k := 11) rfl (nI_1 mn) (by decide) rfl (fun ls hl => ?_)
                          refine lv_goto (tgt := 29) hx hb dL_areMonths_267 (by decide) ?_
                          refine W.widen (k := 9232 * i + 768 * (mn + 1)) (n := 55392 * i + 4608 * (mn + 1)) (by omega) (by omega) ?_
                          exact ih i (mn + 1) hi (by omega) (by omega) hK _ _ _ _ hC hW hS (lv_sub hl [8, 9, 10, 1, 5, 11, 4, 3, 2, 0] rfl)
        · skip
          refine lv_aload_n hx hb dL_areMonths_106 rfl (lv_at hl 0 rfl) ?_
          refine lv_iload hx hb dL_areMonths_107 (lv_at hl 5 rfl) ?_
          refine lv_iload hx hb dL_areMonths_109 (lv_at hl 9 rfl) ?_
          refine y_ci (b_runSW B hT hX hN hW hS (As := [.ref (ad 0), .int (nI i), .int (nI mn)]) (rest := []) (fun sz => lv_paymentF hlf hI hty i mn hi (by omega) hr hC sz) (cwL_199 B.2.2.2.2.1 ⟨Nat.le_of_ble_eq_true rfl, Nat.le_of_ble_eq_true rfl⟩) rfl hl.1 (Nat.le_of_ble_eq_true rfl) dL_areMonths_111 ⟨by show _ ≤ 36944; omega, by show _ ≤ 221664; omega⟩) hI hW hS (fun k h => h) (fun _ _ => rfl) (fun E1 => E1) (fun _ _ _ => rfl) (fun E1 j hj hno => absurd rfl (hno j hj)) (fun r_111 E H locs hp hW hS => ?_)
          obtain ⟨hr_, hC⟩ := hp
          subst hr_
          refine lv_istore (lv' := [(15, .int (-75)), (0, .ref (ad 0)), (1, .int (nI nH)), (2, .long (aL py rN i)), (4, .int (nI (rN * i + mr rN mn))), (5, .int 1), (6, .int (nI i)), (7, .long (hL (pd i) mn)), (9, .long (hL (py i) (mr rN mn))), (11, .int (bal (due V ag nP i) (pd i) (mr rN mn))), (12, .int (nI mn)), (13, .int (due V ag nP i mn)), (14, .int (due V ag nP i mn))]) hx hb dL_areMonths_114 hl (by decide) rfl (fun ls hl => ?_)
          refine lv_iload hx hb dL_areMonths_116 (lv_at hl 10 rfl) ?_
          refine lv_aload_n hx hb dL_areMonths_118 rfl (lv_at hl 1 rfl) ?_
          refine y_ci (b_runV B hT hX hW hS (As := []) (rest := [.int (nI mn)]) (fun sz => mw_paidMonths hI hty hC sz) (cwL_162 B.2.2.2.2.1 ⟨Nat.le_of_ble_eq_true rfl, Nat.le_of_ble_eq_true rfl⟩) (cw_recv B hW hC) rfl hl.1 (Nat.le_of_ble_eq_true rfl) dL_areMonths_119 ⟨by show _ ≤ 36944; omega, by show _ ≤ 221664; omega⟩) hI hW hS (fun k h => h) (fun _ _ => rfl) (fun E1 => E1) (fun _ _ _ => rfl) (fun E1 j hj hno => absurd rfl (hno j hj)) (fun r_119 E H locs hp hW hS => ?_)
          obtain ⟨hr_, hC⟩ := hp
          rw [hr_]
          refine lv_icmp_ge (tgt := 129) hx hb dL_areMonths_122 (by decide) (fun c_122 => ?_) (fun c_122 => ?_)
          · skip
            refine lv_iconst (v := 0) hx hb dL_areMonths_129 (by decide) ?_
            refine lv_istore (lv' := [(16, .int 0), (15, .int (-75)), (0, .ref (ad 0)), (1, .int (nI nH)), (2, .long (aL py rN i)), (4, .int (nI (rN * i + mr rN mn))), (5, .int 1), (6, .int (nI i)), (7, .long (hL (pd i) mn)), (9, .long (hL (py i) (mr rN mn))), (11, .int (bal (due V ag nP i) (pd i) (mr rN mn))), (12, .int (nI mn)), (13, .int (due V ag nP i mn)), (14, .int (due V ag nP i mn))]) hx hb dL_areMonths_130 hl (by decide) rfl (fun ls hl => ?_)
            refine lv_iload hx hb dL_areMonths_132 (lv_at hl 6 rfl) ?_
            refine lv_iload hx hb dL_areMonths_134 (lv_at hl 12 rfl) ?_
            refine lv_iload hx hb dL_areMonths_136 (lv_at hl 13 rfl) ?_
            refine lv_icmp_ne (tgt := 189) hx hb dL_areMonths_138 (by decide) (fun c_138 => ?_) (fun c_138 => ?_)
            · exact absurd rfl c_138
            · skip
              refine lv_aload_n hx hb dL_areMonths_141 rfl (lv_at hl 2 rfl) ?_
              refine lv_iload hx hb dL_areMonths_142 (lv_at hl 7 rfl) ?_
              refine lv_iload hx hb dL_areMonths_144 (lv_at hl 11 rfl) ?_
              refine y_ci (b_runSW B hT hX hN hW hS (As := [.ref (ad 0), .int (nI i), .int (nI mn)]) (rest := [.int 1]) (fun sz => lv_entitlementByDays hlf hI hty i mn hi (by omega) hC sz) (cwL_219 B.2.2.2.2.1 ⟨Nat.le_of_ble_eq_true rfl, Nat.le_of_ble_eq_true rfl⟩) rfl hl.1 (Nat.le_of_ble_eq_true rfl) dL_areMonths_146 ⟨by show _ ≤ 36944; omega, by show _ ≤ 221664; omega⟩) hI hW hS (fun k h => h) (fun _ _ => rfl) (fun E1 => E1) (fun _ _ _ => rfl) (fun E1 j hj hno => absurd rfl (hno j hj)) (fun r_146 E H locs hp hW hS => ?_)
              obtain ⟨hr_, hC⟩ := hp
              subst hr_
              refine lv_iload hx hb dL_areMonths_149 (lv_at hl 13 rfl) ?_
              refine lv_icmp_ne (tgt := 189) hx hb dL_areMonths_151 (by decide) (fun c_151 => ?_) (fun c_151 => ?_)
              · exact absurd rfl c_151
              · skip
                refine lv_iload hx hb dL_areMonths_154 (lv_at hl 0 rfl) ?_
                refine lv_if_eq (tgt := 167) hx hb dL_areMonths_156 (by decide) (fun c_156 => ?_) (fun c_156 => ?_)
                · skip
                  refine lv_iload hx hb dL_areMonths_167 (lv_at hl 1 rfl) ?_
                  refine lv_bipush (v := (-75)) hx hb dL_areMonths_169 (by decide) ?_
                  refine lv_icmp_ne (tgt := 189) hx hb dL_areMonths_171 (by decide) (fun c_171 => ?_) (fun c_171 => ?_)
                  · exact absurd rfl c_171
                  · skip
                    refine lv_aload_n hx hb dL_areMonths_174 rfl (lv_at hl 2 rfl) ?_
                    refine lv_iload hx hb dL_areMonths_175 (lv_at hl 7 rfl) ?_
                    refine lv_iload hx hb dL_areMonths_177 (lv_at hl 11 rfl) ?_
                    refine y_ci (b_runSW B hT hX hN hW hS (As := [.ref (ad 0), .int (nI i), .int (nI mn)]) (rest := [.int 1]) (fun sz => lv_paidFor hlf hI hty i mn hi (by omega) hC sz) (cwL_201 B.2.2.2.2.1 ⟨Nat.le_of_ble_eq_true rfl, Nat.le_of_ble_eq_true rfl⟩) rfl hl.1 (Nat.le_of_ble_eq_true rfl) dL_areMonths_179 ⟨by show _ ≤ 36944; omega, by show _ ≤ 221664; omega⟩) hI hW hS (fun k h => h) (fun _ _ => rfl) (fun E1 => E1) (fun _ _ _ => rfl) (fun E1 j hj hno => absurd rfl (hno j hj)) (fun r_179 E H locs hp hW hS => ?_)
                    obtain ⟨hr_, hC⟩ := hp
                    subst hr_
                    refine lv_if_ne (tgt := 189) hx hb dL_areMonths_182 (by decide) (fun c_182 => ?_) (fun c_182 => ?_)
                    · exact absurd ((hJ.1 i hi).2.1 mn (by omega) q33) c_182
                    · skip
                      refine lv_iconst (v := 1) hx hb dL_areMonths_185 (by decide) ?_
                      refine lv_goto (tgt := 190) hx hb dL_areMonths_186 (by decide) ?_
                      refine lv_iand hx hb dL_areMonths_190 ?_
                      refine b_top (y := 1) (by decide) ?_
                      refine lv_istore (lv' := [(5, .int 1), (16, .int 0), (15, .int (-75)), (0, .ref (ad 0)), (1, .int (nI nH)), (2, .long (aL py rN i)), (4, .int (nI (rN * i + mr rN mn))), (6, .int (nI i)), (7, .long (hL (pd i) mn)), (9, .long (hL (py i) (mr rN mn))), (11, .int (bal (due V ag nP i) (pd i) (mr rN mn))), (12, .int (nI mn)), (13, .int (due V ag nP i mn)), (14, .int (due V ag nP i mn))]) hx hb dL_areMonths_191 hl (by decide) rfl (fun ls hl => ?_)
                      refine lv_lload hx hb dL_areMonths_193 (lv_at hl 8 rfl) ?_
                      refine lv_aload_n hx hb dL_areMonths_195 rfl (lv_at hl 3 rfl) ?_
                      refine lv_iload hx hb dL_areMonths_196 (lv_at hl 7 rfl) ?_
                      refine lv_iload hx hb dL_areMonths_198 (lv_at hl 11 rfl) ?_
                      refine y_ci (b_runSW B hT hX hN hW hS (As := [.ref (ad 0), .int (nI i), .int (nI mn)]) (rest := [.long (hL (pd i) mn)]) (fun sz => lv_paidFor hlf hI hty i mn hi (by omega) hC sz) (cwL_201 B.2.2.2.2.1 ⟨Nat.le_of_ble_eq_true rfl, Nat.le_of_ble_eq_true rfl⟩) rfl hl.1 (Nat.le_of_ble_eq_true rfl) dL_areMonths_200 ⟨by show _ ≤ 36944; omega, by show _ ≤ 221664; omega⟩) hI hW hS (fun k h => h) (fun _ _ => rfl) (fun E1 => E1) (fun _ _ _ => rfl) (fun E1 j hj hno => absurd rfl (hno j hj)) (fun r_200 E H locs hp hW hS => ?_)
                      obtain ⟨hr_, hC⟩ := hp
                      subst hr_
                      refine lv_i2l hx hb dL_areMonths_203 rfl ?_
                      refine lv_ladd hx hb dL_areMonths_204 ?_
                      refine b_ltop (y := hL (pd i) (mn + 1)) (rfl) ?_
                      refine lv_lstore (lv' := [(7, .long (hL (pd i) (mn + 1))), (5, .int 1), (16, .int 0), (15, .int (-75)), (0, .ref (ad 0)), (1, .int (nI nH)), (2, .long (aL py rN i)), (4, .int (nI (rN * i + mr rN mn))), (6, .int (nI i)), (9, .long (hL (py i) (mr rN mn))), (11, .int (bal (due V ag nP i) (pd i) (mr rN mn))), (12, .int (nI mn)), (13, .int (due V ag nP i mn)), (14, .int (due V ag nP i mn))]) hx hb dL_areMonths_205 hl (by decide) rfl (fun ls hl => ?_)
                      refine lv_lload hx hb dL_areMonths_207 (lv_at hl 9 rfl) ?_
                      refine lv_iload hx hb dL_areMonths_209 (lv_at hl 2 rfl) ?_
                      refine lv_if_eq (tgt := 220) hx hb dL_areMonths_211 (by decide) (fun c_211 => ?_) (fun c_211 => ?_)
                      · skip
                        refine lv_lconst (v := 0) hx hb dL_areMonths_220 (by decide) ?_
                        refine lv_ladd hx hb dL_areMonths_221 ?_
                        refine b_ltop (y := hL (py i) (mr rN (mn + 1))) (by rw [mr_F hr]; exact Int64.add_zero _) ?_
                        refine lv_lstore (lv' := [(9, .long (hL (py i) (mr rN (mn + 1)))), (7, .long (hL (pd i) (mn + 1))), (5, .int 1), (16, .int 0), (15, .int (-75)), (0, .ref (ad 0)), (1, .int (nI nH)), (2, .long (aL py rN i)), (4, .int (nI (rN * i + mr rN mn))), (6, .int (nI i)), (11, .int (bal (due V ag nP i) (pd i) (mr rN mn))), (12, .int (nI mn)), (13, .int (due V ag nP i mn)), (14, .int (due V ag nP i mn))]) hx hb dL_areMonths_222 hl (by decide) rfl (fun ls hl => ?_)
                        refine lv_iload hx hb dL_areMonths_224 (lv_at hl 10 rfl) ?_
                        refine lv_iload hx hb dL_areMonths_226 (lv_at hl 3 rfl) ?_
                        refine lv_if_eq (tgt := 245) hx hb dL_areMonths_228 (by decide) (fun c_228 => ?_) (fun c_228 => ?_)
                        · skip
                          refine lv_iconst (v := 0) hx hb dL_areMonths_245 (by decide) ?_
                          refine lv_iadd hx hb dL_areMonths_246 ?_
                          refine b_top (y := bal (due V ag nP i) (pd i) (mr rN (mn + 1))) (by rw [mr_F hr]; exact Int32.add_zero _) ?_
                          refine lv_istore (lv' := [(11, .int (bal (due V ag nP i) (pd i) (mr rN (mn + 1)))), (9, .long (hL (py i) (mr rN (mn + 1)))), (7, .long (hL (pd i) (mn + 1))), (5, .int 1), (16, .int 0), (15, .int (-75)), (0, .ref (ad 0)), (1, .int (nI nH)), (2, .long (aL py rN i)), (4, .int (nI (rN * i + mr rN mn))), (6, .int (nI i)), (12, .int (nI mn)), (13, .int (due V ag nP i mn)), (14, .int (due V ag nP i mn))]) hx hb dL_areMonths_247 hl (by decide) rfl (fun ls hl => ?_)
                          refine lv_iload hx hb dL_areMonths_249 (lv_at hl 9 rfl) ?_
                          refine lv_iload hx hb dL_areMonths_251 (lv_at hl 4 rfl) ?_
                          refine lv_if_eq (tgt := 260) hx hb dL_areMonths_253 (by decide) (fun c_253 => ?_) (fun c_253 => ?_)
                          · skip
                            refine lv_iconst (v := 0) hx hb dL_areMonths_260 (by decide) ?_
                            refine lv_iadd hx hb dL_areMonths_261 ?_
                            refine b_top (y := nI (rN * i + mr rN (mn + 1))) (by rw [mr_F hr]; exact Int32.add_zero _) ?_
                            refine lv_istore (lv' := [(4, .int (nI (rN * i + mr rN (mn + 1)))), (11, .int (bal (due V ag nP i) (pd i) (mr rN (mn + 1)))), (9, .long (hL (py i) (mr rN (mn + 1)))), (7, .long (hL (pd i) (mn + 1))), (5, .int 1), (16, .int 0), (15, .int (-75)), (0, .ref (ad 0)), (1, .int (nI nH)), (2, .long (aL py rN i)), (6, .int (nI i)), (12, .int (nI mn)), (13, .int (due V ag nP i mn)), (14, .int (due V ag nP i mn))]) hx hb dL_areMonths_262 hl (by decide) rfl (fun ls hl => ?_)
                            refine lv_iinc (v := (nI (mn + 1))) (lv' := [(12, .int (nI (mn + 1))), (4, .int (nI (rN * i + mr rN (mn + 1)))), (11, .int (bal (due V ag nP i) (pd i) (mr rN (mn + 1)))), (9, .long (hL (py i) (mr rN (mn + 1)))), (7, .long (hL (pd i) (mn + 1))), (5, .int 1), (16, .int 0), (15, .int (-75)), (0, .ref (ad 0)), (1, .int (nI nH)), (2, .long (aL py rN i)), (6, .int (nI i)), (13, .int (due V ag nP i mn)), (14, .int (due V ag nP i mn))]) hx hb dL_areMonths_264 hl (k := 11) rfl (nI_1 mn) (by decide) rfl (fun ls hl => ?_)
                            refine lv_goto (tgt := 29) hx hb dL_areMonths_267 (by decide) ?_
                            refine W.widen (k := 9232 * i + 768 * (mn + 1)) (n := 55392 * i + 4608 * (mn + 1)) (by omega) (by omega) ?_
                            exact ih i (mn + 1) hi (by omega) (by omega) hK _ _ _ _ hC hW hS (lv_sub hl [8, 9, 10, 1, 5, 11, 4, 3, 2, 0] rfl)
                          · exact absurd rfl c_253
                        · exact absurd rfl c_228
                      · exact absurd rfl c_211
                · exact absurd rfl c_156
          · exact absurd ((nI_leI (by omega) (by omega)).mpr (by omega)) c_122
  have L_11 : ∀ (n_ : Nat) (i : Nat), (hi : i ≤ nH) → (hn : nH < n_ + i) → ∀ (E : Nat → va_E) (H : Heap) (locs : List Loc) (ls : Array Slot), CW cI cZ cH cP cT ad V T ag nP nH rN nf pn sp sk py pd E → hH D ad 109 E H → va_S (cA ad 109 s.heap.size) s.heap H locs → lv_has ls 17 [(0, .ref (ad 0)), (1, .int (nI nH)), (2, .long (aL py rN i)), (4, .int (nI (rN * i))), (5, .int 1), (6, .int (nI i))] → W p l e (rmk 8 36944 221664) s m args below meth c H locs (9232 * i) (55392 * i) Q (F0 m 11 ls []) := by
    intro n_
    induction n_ with
    | zero =>
      intro i hi hn
      omega
    | succ n_ ih =>
      intro i hi hn E H locs ls hC hW hS hl
      refine lv_iload hx hb dL_areMonths_11 (lv_at hl 5 rfl) ?_
      refine lv_iload_n hx hb dL_areMonths_13 rfl (lv_at hl 1 rfl) ?_
      refine lv_icmp_ge (tgt := 324) hx hb dL_areMonths_14 (by decide) (fun c_14 => ?_) (fun c_14 => ?_)
      · skip
        have ei : i = nH := Nat.le_antisymm hi ((nI_leI (by omega) (by omega)).mp c_14)
        have hl : lv_has ls 17 [(0, .ref (ad 0)), (1, .int (nI nH)), (2, .long sp), (4, .int pn), (5, .int 1)] := by rw [ei, hJ.sp hH4 hR12, Nat.mul_comm, ← hJ.2.2] at hl; exact lv_sub hl [0, 1, 2, 3, 4] rfl
        refine lv_aload_n hx hb dL_areMonths_324 rfl (lv_at hl 0 rfl) ?_
        refine y_cf (b_runSW B hT hX hN hW hS (As := [.ref (ad 0)]) (rest := []) (fun sz => lv_keptShare hlf hI hty   hC sz) (cwL_221 B.2.2.2.2.1 ⟨Nat.le_of_ble_eq_true rfl, Nat.le_of_ble_eq_true rfl⟩) rfl hl.1 (Nat.le_of_ble_eq_true rfl) dL_areMonths_325 ⟨by show _ ≤ 36944; omega, by show _ ≤ 221664; omega⟩) hI hW hS (fun k h => h) (fun _ _ => rfl) (fun E1 => E1) (fun _ _ _ => rfl) (fun E1 j hj hno => absurd rfl (hno j hj)) (fun r_325 E H locs hp hW hS => ?_)
        obtain ⟨hr_, hC⟩ := hp
        subst hr_
        by_cases hz : sk + sp = 0
        · skip
          refine b_ftop (y := 3264479232) (if_pos hz) ?_
          refine lv_aload_n hx hb dL_areMonths_328 rfl (lv_at hl 0 rfl) ?_
          refine y_cl (b_runV B hT hX hW hS (As := []) (rest := [.float 3264479232]) (fun sz => mw_keptBack hI hty hC sz) (cwL_165 B.2.2.2.2.1 ⟨Nat.le_of_ble_eq_true rfl, Nat.le_of_ble_eq_true rfl⟩) (cw_recv B hW hC) rfl hl.1 (Nat.le_of_ble_eq_true rfl) dL_areMonths_329 ⟨by show _ ≤ 36944; omega, by show _ ≤ 221664; omega⟩) hI hW hS (fun k h => h) (fun _ _ => rfl) (fun E1 => E1) (fun _ _ _ => rfl) (fun E1 j hj hno => absurd rfl (hno j hj)) (fun r_329 E H locs hp hW hS => ?_)
          obtain ⟨hr_, hC⟩ := hp
          rw [hr_]
          refine lv_lload_n hx hb dL_areMonths_332 rfl (lv_at hl 2 rfl) ?_
          refine lv_ladd hx hb dL_areMonths_333 ?_
          refine lv_lconst (v := 0) hx hb dL_areMonths_334 (by decide) ?_
          refine b_lcmp hx hb dL_areMonths_335 ?_
          refine lv_if_ne (tgt := 344) hx hb dL_areMonths_336 (by decide) (fun c_336 => ?_) (fun c_336 => ?_)
          · exact absurd (lcm_0.mpr hz) c_336
          · skip
            refine lv_ldcf (v := 3264479232) hx hb B.2.2.2.1 (B.2.2.2.2.1 _ (r18_in _ (List.mem_of_getElem? (i := 18) rfl))) dL_areMonths_339 ?_
            refine lv_goto (tgt := 357) hx hb dL_areMonths_341 (by decide) ?_
            refine lv_fcmp hx hb dL_areMonths_357 ?_
            refine lv_if_ne (tgt := 365) hx hb dL_areMonths_358 (by decide) (fun c_358 => ?_) (fun c_358 => ?_)
            · exact absurd (f_self f74 _) c_358
            · skip
              refine lv_iconst (v := 1) hx hb dL_areMonths_361 (by decide) ?_
              refine lv_goto (tgt := 366) hx hb dL_areMonths_362 (by decide) ?_
              refine lv_istore (lv' := [(6, .int 1), (0, .ref (ad 0)), (1, .int (nI nH)), (2, .long sp), (4, .int pn), (5, .int 1)]) hx hb dL_areMonths_366 hl (by decide) rfl (fun ls hl => ?_)
              refine lv_iload hx hb dL_areMonths_368 (lv_at hl 5 rfl) ?_
              refine lv_if_eq (tgt := 416) hx hb dL_areMonths_370 (by decide) (fun c_370 => ?_) (fun c_370 => ?_)
              · exact absurd c_370 (by decide)
              · skip
                refine lv_aload_n hx hb dL_areMonths_373 rfl (lv_at hl 1 rfl) ?_
                refine y_cl (b_runV B hT hX hW hS (As := []) (rest := []) (fun sz => mw_totalPaid hI hty hC sz) (cwL_188 B.2.2.2.2.1 ⟨Nat.le_of_ble_eq_true rfl, Nat.le_of_ble_eq_true rfl⟩) (cw_recv B hW hC) rfl hl.1 (Nat.le_of_ble_eq_true rfl) dL_areMonths_374 ⟨by show _ ≤ 36944; omega, by show _ ≤ 221664; omega⟩) hI hW hS (fun k h => h) (fun _ _ => rfl) (fun E1 => E1) (fun _ _ _ => rfl) (fun E1 j hj hno => absurd rfl (hno j hj)) (fun r_374 E H locs hp hW hS => ?_)
                obtain ⟨hr_, hC⟩ := hp
                rw [hr_]
                refine lv_lload_n hx hb dL_areMonths_377 rfl (lv_at hl 3 rfl) ?_
                refine b_lcmp hx hb dL_areMonths_378 ?_
                refine lv_if_ne (tgt := 416) hx hb dL_areMonths_379 (by decide) (fun c_379 => ?_) (fun c_379 => ?_)
                · exact absurd (lcm_0.mpr rfl) c_379
                · skip
                  refine lv_iload hx hb dL_areMonths_382 (lv_at hl 0 rfl) ?_
                  refine lv_if_eq (tgt := 416) hx hb dL_areMonths_384 (by decide) (fun c_384 => ?_) (fun c_384 => ?_)
                  · exact absurd c_384 (by decide)
                  · skip
                    refine lv_aload_n hx hb dL_areMonths_387 rfl (lv_at hl 1 rfl) ?_
                    refine y_cd (b_runSW B hT hX hN hW hS (As := [.ref (ad 0)]) (rest := []) (fun sz => lv_meanPayment hlf hI hty   hC sz) (cwL_224 B.2.2.2.2.1 ⟨Nat.le_of_ble_eq_true rfl, Nat.le_of_ble_eq_true rfl⟩) rfl hl.1 (Nat.le_of_ble_eq_true rfl) dL_areMonths_388 ⟨by show _ ≤ 36944; omega, by show _ ≤ 221664; omega⟩) hI hW hS (fun k h => h) (fun _ _ => rfl) (fun E1 => E1) (fun _ _ _ => rfl) (fun E1 j hj hno => absurd rfl (hno j hj)) (fun r_388 E H locs hp hW hS => ?_)
                    obtain ⟨hr_, hC⟩ := hp
                    subst hr_
                    by_cases hp0 : pn = 0
                    · skip
                      refine b_dtop (y := 13858279740860792832) (if_pos hp0) ?_
                      refine lv_iload hx hb dL_areMonths_391 (lv_at hl 4 rfl) ?_
                      refine lv_if_ne (tgt := 402) hx hb dL_areMonths_393 (by decide) (fun c_393 => ?_) (fun c_393 => ?_)
                      · exact absurd hp0 c_393
                      · skip
                        refine lv_ldc2d (v := 13858279740860792832) hx hb B.2.2.2.1 (B.2.2.2.2.1 _ (r18_in _ (List.mem_of_getElem? (i := 19) rfl))) dL_areMonths_396 ?_
                        refine lv_goto (tgt := 408) hx hb dL_areMonths_399 (by decide) ?_
                        refine lv_dcmp hx hb dL_areMonths_408 ?_
                        refine lv_if_ne (tgt := 416) hx hb dL_areMonths_409 (by decide) (fun c_409 => ?_) (fun c_409 => ?_)
                        · exact absurd (d_self d74 _) c_409
                        · skip
                          refine lv_iconst (v := 1) hx hb dL_areMonths_412 (by decide) ?_
                          refine lv_goto (tgt := 417) hx hb dL_areMonths_413 (by decide) ?_
                          exact e_n hQ B hr hlk hS (by first | rfl | decide) hW dL_areMonths_417 (by omega) (by omega) (⟨rfl, hC⟩)
                    · skip
                      refine b_dtop (y := FP.ddiv (FP.l2d sp) (FP.i2d pn)) (if_neg hp0) ?_
                      refine lv_iload hx hb dL_areMonths_391 (lv_at hl 4 rfl) ?_
                      refine lv_if_ne (tgt := 402) hx hb dL_areMonths_393 (by decide) (fun c_393 => ?_) (fun c_393 => ?_)
                      · skip
                        refine lv_lload_n hx hb dL_areMonths_402 rfl (lv_at hl 3 rfl) ?_
                        refine lv_l2d hx hb dL_areMonths_403 ?_
                        refine lv_iload hx hb dL_areMonths_404 (lv_at hl 4 rfl) ?_
                        refine lv_i2d hx hb dL_areMonths_406 ?_
                        refine lv_ddiv hx hb dL_areMonths_407 (n_mean hp0) ?_
                        refine lv_dcmp hx hb dL_areMonths_408 ?_
                        refine lv_if_ne (tgt := 416) hx hb dL_areMonths_409 (by decide) (fun c_409 => ?_) (fun c_409 => ?_)
                        · exact absurd (d_self (n_mean hp0) _) c_409
                        · skip
                          refine lv_iconst (v := 1) hx hb dL_areMonths_412 (by decide) ?_
                          refine lv_goto (tgt := 417) hx hb dL_areMonths_413 (by decide) ?_
                          exact e_n hQ B hr hlk hS (by first | rfl | decide) hW dL_areMonths_417 (by omega) (by omega) (⟨rfl, hC⟩)
                      · exact absurd c_393 hp0
        · skip
          refine b_ftop (y := FP.fdiv (FP.l2f sk) (FP.l2f (sk + sp))) (if_neg hz) ?_
          refine lv_aload_n hx hb dL_areMonths_328 rfl (lv_at hl 0 rfl) ?_
          refine y_cl (b_runV B hT hX hW hS (As := []) (rest := [.float (FP.fdiv (FP.l2f sk) (FP.l2f (sk + sp)))]) (fun sz => mw_keptBack hI hty hC sz) (cwL_165 B.2.2.2.2.1 ⟨Nat.le_of_ble_eq_true rfl, Nat.le_of_ble_eq_true rfl⟩) (cw_recv B hW hC) rfl hl.1 (Nat.le_of_ble_eq_true rfl) dL_areMonths_329 ⟨by show _ ≤ 36944; omega, by show _ ≤ 221664; omega⟩) hI hW hS (fun k h => h) (fun _ _ => rfl) (fun E1 => E1) (fun _ _ _ => rfl) (fun E1 j hj hno => absurd rfl (hno j hj)) (fun r_329 E H locs hp hW hS => ?_)
          obtain ⟨hr_, hC⟩ := hp
          rw [hr_]
          refine lv_lload_n hx hb dL_areMonths_332 rfl (lv_at hl 2 rfl) ?_
          refine lv_ladd hx hb dL_areMonths_333 ?_
          refine lv_lconst (v := 0) hx hb dL_areMonths_334 (by decide) ?_
          refine b_lcmp hx hb dL_areMonths_335 ?_
          refine lv_if_ne (tgt := 344) hx hb dL_areMonths_336 (by decide) (fun c_336 => ?_) (fun c_336 => ?_)
          · skip
            refine lv_aload_n hx hb dL_areMonths_344 rfl (lv_at hl 0 rfl) ?_
            refine y_cl (b_runV B hT hX hW hS (As := []) (rest := [.float (FP.fdiv (FP.l2f sk) (FP.l2f (sk + sp)))]) (fun sz => mw_keptBack hI hty hC sz) (cwL_165 B.2.2.2.2.1 ⟨Nat.le_of_ble_eq_true rfl, Nat.le_of_ble_eq_true rfl⟩) (cw_recv B hW hC) rfl hl.1 (Nat.le_of_ble_eq_true rfl) dL_areMonths_345 ⟨by show _ ≤ 36944; omega, by show _ ≤ 221664; omega⟩) hI hW hS (fun k h => h) (fun _ _ => rfl) (fun E1 => E1) (fun _ _ _ => rfl) (fun E1 j hj hno => absurd rfl (hno j hj)) (fun r_345 E H locs hp hW hS => ?_)
            obtain ⟨hr_, hC⟩ := hp
            rw [hr_]
            refine lv_l2f hx hb dL_areMonths_348 ?_
            refine lv_aload_n hx hb dL_areMonths_349 rfl (lv_at hl 0 rfl) ?_
            refine y_cl (b_runV B hT hX hW hS (As := []) (rest := [.float (FP.l2f sk), .float (FP.fdiv (FP.l2f sk) (FP.l2f (sk + sp)))]) (fun sz => mw_keptBack hI hty hC sz) (cwL_165 B.2.2.2.2.1 ⟨Nat.le_of_ble_eq_true rfl, Nat.le_of_ble_eq_true rfl⟩) (cw_recv B hW hC) rfl hl.1 (Nat.le_of_ble_eq_true rfl) dL_areMonths_350 ⟨by show _ ≤ 36944; omega, by show _ ≤ 221664; omega⟩) hI hW hS (fun k h => h) (fun _ _ => rfl) (fun E1 => E1) (fun _ _ _ => rfl) (fun E1 j hj hno => absurd rfl (hno j hj)) (fun r_350 E H locs hp hW hS => ?_)
            obtain ⟨hr_, hC⟩ := hp
            rw [hr_]
            refine lv_lload_n hx hb dL_areMonths_353 rfl (lv_at hl 2 rfl) ?_
            refine lv_ladd hx hb dL_areMonths_354 ?_
            refine lv_l2f hx hb dL_areMonths_355 ?_
            refine lv_fdiv hx hb dL_areMonths_356 (n_share hz) ?_
            refine lv_fcmp hx hb dL_areMonths_357 ?_
            refine lv_if_ne (tgt := 365) hx hb dL_areMonths_358 (by decide) (fun c_358 => ?_) (fun c_358 => ?_)
            · exact absurd (f_self (n_share hz) _) c_358
            · skip
              refine lv_iconst (v := 1) hx hb dL_areMonths_361 (by decide) ?_
              refine lv_goto (tgt := 366) hx hb dL_areMonths_362 (by decide) ?_
              refine lv_istore (lv' := [(6, .int 1), (0, .ref (ad 0)), (1, .int (nI nH)), (2, .long sp), (4, .int pn), (5, .int 1)]) hx hb dL_areMonths_366 hl (by decide) rfl (fun ls hl => ?_)
              refine lv_iload hx hb dL_areMonths_368 (lv_at hl 5 rfl) ?_
              refine lv_if_eq (tgt := 416) hx hb dL_areMonths_370 (by decide) (fun c_370 => ?_) (fun c_370 => ?_)
              · exact absurd c_370 (by decide)
              · skip
                refine lv_aload_n hx hb dL_areMonths_373 rfl (lv_at hl 1 rfl) ?_
                refine y_cl (b_runV B hT hX hW hS (As := []) (rest := []) (fun sz => mw_totalPaid hI hty hC sz) (cwL_188 B.2.2.2.2.1 ⟨Nat.le_of_ble_eq_true rfl, Nat.le_of_ble_eq_true rfl⟩) (cw_recv B hW hC) rfl hl.1 (Nat.le_of_ble_eq_true rfl) dL_areMonths_374 ⟨by show _ ≤ 36944; omega, by show _ ≤ 221664; omega⟩) hI hW hS (fun k h => h) (fun _ _ => rfl) (fun E1 => E1) (fun _ _ _ => rfl) (fun E1 j hj hno => absurd rfl (hno j hj)) (fun r_374 E H locs hp hW hS => ?_)
                obtain ⟨hr_, hC⟩ := hp
                rw [hr_]
                refine lv_lload_n hx hb dL_areMonths_377 rfl (lv_at hl 3 rfl) ?_
                refine b_lcmp hx hb dL_areMonths_378 ?_
                refine lv_if_ne (tgt := 416) hx hb dL_areMonths_379 (by decide) (fun c_379 => ?_) (fun c_379 => ?_)
                · exact absurd (lcm_0.mpr rfl) c_379
                · skip
                  refine lv_iload hx hb dL_areMonths_382 (lv_at hl 0 rfl) ?_
                  refine lv_if_eq (tgt := 416) hx hb dL_areMonths_384 (by decide) (fun c_384 => ?_) (fun c_384 => ?_)
                  · exact absurd c_384 (by decide)
                  · skip
                    refine lv_aload_n hx hb dL_areMonths_387 rfl (lv_at hl 1 rfl) ?_
                    refine y_cd (b_runSW B hT hX hN hW hS (As := [.ref (ad 0)]) (rest := []) (fun sz => lv_meanPayment hlf hI hty   hC sz) (cwL_224 B.2.2.2.2.1 ⟨Nat.le_of_ble_eq_true rfl, Nat.le_of_ble_eq_true rfl⟩) rfl hl.1 (Nat.le_of_ble_eq_true rfl) dL_areMonths_388 ⟨by show _ ≤ 36944; omega, by show _ ≤ 221664; omega⟩) hI hW hS (fun k h => h) (fun _ _ => rfl) (fun E1 => E1) (fun _ _ _ => rfl) (fun E1 j hj hno => absurd rfl (hno j hj)) (fun r_388 E H locs hp hW hS => ?_)
                    obtain ⟨hr_, hC⟩ := hp
                    subst hr_
                    by_cases hp0 : pn = 0
                    · skip
                      refine b_dtop (y := 13858279740860792832) (if_pos hp0) ?_
                      refine lv_iload hx hb dL_areMonths_391 (lv_at hl 4 rfl) ?_
                      refine lv_if_ne (tgt := 402) hx hb dL_areMonths_393 (by decide) (fun c_393 => ?_) (fun c_393 => ?_)
                      · exact absurd hp0 c_393
                      · skip
                        refine lv_ldc2d (v := 13858279740860792832) hx hb B.2.2.2.1 (B.2.2.2.2.1 _ (r18_in _ (List.mem_of_getElem? (i := 19) rfl))) dL_areMonths_396 ?_
                        refine lv_goto (tgt := 408) hx hb dL_areMonths_399 (by decide) ?_
                        refine lv_dcmp hx hb dL_areMonths_408 ?_
                        refine lv_if_ne (tgt := 416) hx hb dL_areMonths_409 (by decide) (fun c_409 => ?_) (fun c_409 => ?_)
                        · exact absurd (d_self d74 _) c_409
                        · skip
                          refine lv_iconst (v := 1) hx hb dL_areMonths_412 (by decide) ?_
                          refine lv_goto (tgt := 417) hx hb dL_areMonths_413 (by decide) ?_
                          exact e_n hQ B hr hlk hS (by first | rfl | decide) hW dL_areMonths_417 (by omega) (by omega) (⟨rfl, hC⟩)
                    · skip
                      refine b_dtop (y := FP.ddiv (FP.l2d sp) (FP.i2d pn)) (if_neg hp0) ?_
                      refine lv_iload hx hb dL_areMonths_391 (lv_at hl 4 rfl) ?_
                      refine lv_if_ne (tgt := 402) hx hb dL_areMonths_393 (by decide) (fun c_393 => ?_) (fun c_393 => ?_)
                      · skip
                        refine lv_lload_n hx hb dL_areMonths_402 rfl (lv_at hl 3 rfl) ?_
                        refine lv_l2d hx hb dL_areMonths_403 ?_
                        refine lv_iload hx hb dL_areMonths_404 (lv_at hl 4 rfl) ?_
                        refine lv_i2d hx hb dL_areMonths_406 ?_
                        refine lv_ddiv hx hb dL_areMonths_407 (n_mean hp0) ?_
                        refine lv_dcmp hx hb dL_areMonths_408 ?_
                        refine lv_if_ne (tgt := 416) hx hb dL_areMonths_409 (by decide) (fun c_409 => ?_) (fun c_409 => ?_)
                        · exact absurd (d_self (n_mean hp0) _) c_409
                        · skip
                          refine lv_iconst (v := 1) hx hb dL_areMonths_412 (by decide) ?_
                          refine lv_goto (tgt := 417) hx hb dL_areMonths_413 (by decide) ?_
                          exact e_n hQ B hr hlk hS (by first | rfl | decide) hW dL_areMonths_417 (by omega) (by omega) (⟨rfl, hC⟩)
                      · exact absurd c_393 hp0
          · exact absurd (lcm_0.mp c_336) hz
      · skip
        have q14 : i < nH := Nat.lt_of_not_le (fun q => c_14 ((nI_leI (by omega) (by omega)).mpr q))
        refine lv_lconst (v := 0) hx hb dL_areMonths_17 (by decide) ?_
        refine lv_lstore (lv' := [(7, .long 0), (0, .ref (ad 0)), (1, .int (nI nH)), (2, .long (aL py rN i)), (4, .int (nI (rN * i))), (5, .int 1), (6, .int (nI i))]) hx hb dL_areMonths_18 hl (by decide) rfl (fun ls hl => ?_)
        refine lv_lconst (v := 0) hx hb dL_areMonths_20 (by decide) ?_
        refine lv_lstore (lv' := [(9, .long 0), (7, .long 0), (0, .ref (ad 0)), (1, .int (nI nH)), (2, .long (aL py rN i)), (4, .int (nI (rN * i))), (5, .int 1), (6, .int (nI i))]) hx hb dL_areMonths_21 hl (by decide) rfl (fun ls hl => ?_)
        refine lv_iconst (v := 0) hx hb dL_areMonths_23 (by decide) ?_
        refine lv_istore (lv' := [(11, .int 0), (9, .long 0), (7, .long 0), (0, .ref (ad 0)), (1, .int (nI nH)), (2, .long (aL py rN i)), (4, .int (nI (rN * i))), (5, .int 1), (6, .int (nI i))]) hx hb dL_areMonths_24 hl (by decide) rfl (fun ls hl => ?_)
        refine lv_iconst (v := 0) hx hb dL_areMonths_26 (by decide) ?_
        refine lv_istore (lv' := [(12, .int 0), (11, .int 0), (9, .long 0), (7, .long 0), (0, .ref (ad 0)), (1, .int (nI nH)), (2, .long (aL py rN i)), (4, .int (nI (rN * i))), (5, .int 1), (6, .int (nI i))]) hx hb dL_areMonths_27 hl (by decide) rfl (fun ls hl => ?_)
        refine W.widen (k := 9232 * i + 768 * 0) (n := 55392 * i + 4608 * 0) (by omega) (by omega) ?_
        refine L_29 13 i 0 q14 (by omega) (by omega) (fun E H locs ls hC hW hS hl => ?_) _ _ _ _ hC hW hS (lv_sub hl [4, 5, 6, 7, 8, 9, 3, 2, 1, 0] rfl)
        refine lv_lload_n hx hb dL_areMonths_270 rfl (lv_at hl 2 rfl) ?_
        refine lv_lload hx hb dL_areMonths_271 (lv_at hl 7 rfl) ?_
        refine lv_ladd hx hb dL_areMonths_273 ?_
        refine b_ltop (y := aL py rN (i + 1)) (rfl) ?_
        refine lv_lstore_n (lv' := [(2, .long (aL py rN (i + 1))), (0, .ref (ad 0)), (1, .int (nI nH)), (4, .int (nI (rN * i + rN))), (5, .int 1), (6, .int (nI i)), (7, .long (hL (pd i) 12)), (9, .long (hL (py i) rN)), (11, .int (bal (due V ag nP i) (pd i) rN))]) hx hb dL_areMonths_274 rfl hl (by decide) rfl (fun ls hl => ?_)
        refine lv_iload hx hb dL_areMonths_275 (lv_at hl 4 rfl) ?_
        refine lv_lload hx hb dL_areMonths_277 (lv_at hl 6 rfl) ?_
        refine lv_lload hx hb dL_areMonths_279 (lv_at hl 7 rfl) ?_
        refine b_lcmp hx hb dL_areMonths_281 ?_
        refine lv_if_ne (tgt := 314) hx hb dL_areMonths_282 (by decide) (fun c_282 => ?_) (fun c_282 => ?_)
        · exact absurd (lcm_0.mpr (hL_eq (by omega) hR12 (hJ.1 i q14).1)) c_282
        · skip
          refine lv_aload_n hx hb dL_areMonths_285 rfl (lv_at hl 1 rfl) ?_
          refine lv_iload hx hb dL_areMonths_286 (lv_at hl 5 rfl) ?_
          refine y_ci (b_runSW B hT hX hN hW hS (As := [.ref (ad 0), .int (nI i)]) (rest := [.int 1]) (fun sz => lv_balance hlf hI hty i q14 hC sz) (cwL_193 B.2.2.2.2.1 ⟨Nat.le_of_ble_eq_true rfl, Nat.le_of_ble_eq_true rfl⟩) rfl hl.1 (Nat.le_of_ble_eq_true rfl) dL_areMonths_288 ⟨by show _ ≤ 36944; omega, by show _ ≤ 221664; omega⟩) hI hW hS (fun k h => h) (fun _ _ => rfl) (fun E1 => E1) (fun _ _ _ => rfl) (fun E1 j hj hno => absurd rfl (hno j hj)) (fun r_288 E H locs hp hW hS => ?_)
          obtain ⟨hr_, hC⟩ := hp
          subst hr_
          refine lv_iload hx hb dL_areMonths_291 (lv_at hl 8 rfl) ?_
          refine lv_icmp_ne (tgt := 314) hx hb dL_areMonths_293 (by decide) (fun c_293 => ?_) (fun c_293 => ?_)
          · exact absurd rfl c_293
          · skip
            refine lv_aload_n hx hb dL_areMonths_296 rfl (lv_at hl 1 rfl) ?_
            refine lv_iload hx hb dL_areMonths_297 (lv_at hl 5 rfl) ?_
            refine y_ci (b_runSW B hT hX hN hW hS (As := [.ref (ad 0), .int (nI i)]) (rest := [.int 1]) (fun sz => lv_isSettled hlf hI hty i q14 hC sz) (cwL_203 B.2.2.2.2.1 ⟨Nat.le_of_ble_eq_true rfl, Nat.le_of_ble_eq_true rfl⟩) rfl hl.1 (Nat.le_of_ble_eq_true rfl) dL_areMonths_299 ⟨by show _ ≤ 36944; omega, by show _ ≤ 221664; omega⟩) hI hW hS (fun k h => h) (fun _ _ => rfl) (fun E1 => E1) (fun _ _ _ => rfl) (fun E1 j hj hno => absurd rfl (hno j hj)) (fun r_299 E H locs hp hW hS => ?_)
            obtain ⟨hr_, hC⟩ := hp
            subst hr_
            refine lv_if_eq (tgt := 310) hx hb dL_areMonths_302 (by decide) (fun c_302 => ?_) (fun c_302 => ?_)
            · skip
              refine lv_iconst (v := 1) hx hb dL_areMonths_310 (by decide) ?_
              refine lv_goto (tgt := 315) hx hb dL_areMonths_311 (by decide) ?_
              refine lv_iand hx hb dL_areMonths_315 ?_
              refine b_top (y := 1) (by decide) ?_
              refine lv_istore (lv' := [(5, .int 1), (2, .long (aL py rN (i + 1))), (0, .ref (ad 0)), (1, .int (nI nH)), (4, .int (nI (rN * i + rN))), (6, .int (nI i)), (7, .long (hL (pd i) 12)), (9, .long (hL (py i) rN)), (11, .int (bal (due V ag nP i) (pd i) rN))]) hx hb dL_areMonths_316 hl (by decide) rfl (fun ls hl => ?_)
              refine lv_iinc (v := (nI (i + 1))) (lv' := [(6, .int (nI (i + 1))), (5, .int 1), (2, .long (aL py rN (i + 1))), (0, .ref (ad 0)), (1, .int (nI nH)), (4, .int (nI (rN * i + rN))), (7, .long (hL (pd i) 12)), (9, .long (hL (py i) rN)), (11, .int (bal (due V ag nP i) (pd i) rN))]) hx hb dL_areMonths_318 hl (k := 5) rfl (nI_1 i) (by decide) rfl (fun ls hl => ?_)
              refine lv_goto (tgt := 11) hx hb dL_areMonths_321 (by decide) ?_
              refine W.widen (k := 9232 * (i + 1)) (n := 55392 * (i + 1)) (by omega) (by omega) ?_
              exact ih (i + 1) (by omega) (by omega) _ _ _ _ hC hW hS (lv_sub hl [3, 4, 2, 5, 1, 0] rfl)
            · skip
              refine lv_iload hx hb dL_areMonths_305 (lv_at hl 8 rfl) ?_
              refine lv_if_ne (tgt := 314) hx hb dL_areMonths_307 (by decide) (fun c_307 => ?_) (fun c_307 => ?_)
              · exact absurd (stl_bal rN c_302) c_307
              · skip
                refine lv_iconst (v := 1) hx hb dL_areMonths_310 (by decide) ?_
                refine lv_goto (tgt := 315) hx hb dL_areMonths_311 (by decide) ?_
                refine lv_iand hx hb dL_areMonths_315 ?_
                refine b_top (y := 1) (by decide) ?_
                refine lv_istore (lv' := [(5, .int 1), (2, .long (aL py rN (i + 1))), (0, .ref (ad 0)), (1, .int (nI nH)), (4, .int (nI (rN * i + rN))), (6, .int (nI i)), (7, .long (hL (pd i) 12)), (9, .long (hL (py i) rN)), (11, .int (bal (due V ag nP i) (pd i) rN))]) hx hb dL_areMonths_316 hl (by decide) rfl (fun ls hl => ?_)
                refine lv_iinc (v := (nI (i + 1))) (lv' := [(6, .int (nI (i + 1))), (5, .int 1), (2, .long (aL py rN (i + 1))), (0, .ref (ad 0)), (1, .int (nI nH)), (4, .int (nI (rN * i + rN))), (7, .long (hL (pd i) 12)), (9, .long (hL (py i) rN)), (11, .int (bal (due V ag nP i) (pd i) rN))]) hx hb dL_areMonths_318 hl (k := 5) rfl (nI_1 i) (by decide) rfl (fun ls hl => ?_)
                refine lv_goto (tgt := 11) hx hb dL_areMonths_321 (by decide) ?_
                refine W.widen (k := 9232 * (i + 1)) (n := 55392 * (i + 1)) (by omega) (by omega) ?_
                exact ih (i + 1) (by omega) (by omega) _ _ _ _ hC hW hS (lv_sub hl [3, 4, 2, 5, 1, 0] rfl)
  refine lv_lconst (v := 0) hx hb dL_areMonths_0 (by decide) ?_
  refine lv_lstore_n (lv' := [(2, .long 0), (0, .ref (ad 0)), (1, .int (nI nH))]) hx hb dL_areMonths_1 rfl hl (by decide) rfl (fun ls hl => ?_)
  refine lv_iconst (v := 0) hx hb dL_areMonths_2 (by decide) ?_
  refine lv_istore (lv' := [(4, .int 0), (2, .long 0), (0, .ref (ad 0)), (1, .int (nI nH))]) hx hb dL_areMonths_3 hl (by decide) rfl (fun ls hl => ?_)
  refine lv_iconst (v := 1) hx hb dL_areMonths_5 (by decide) ?_
  refine lv_istore (lv' := [(5, .int 1), (4, .int 0), (2, .long 0), (0, .ref (ad 0)), (1, .int (nI nH))]) hx hb dL_areMonths_6 hl (by decide) rfl (fun ls hl => ?_)
  refine lv_iconst (v := 0) hx hb dL_areMonths_8 (by decide) ?_
  refine lv_istore (lv' := [(6, .int 0), (5, .int 1), (4, .int 0), (2, .long 0), (0, .ref (ad 0)), (1, .int (nI nH))]) hx hb dL_areMonths_9 hl (by decide) rfl (fun ls hl => ?_)
  refine W.widen (k := 9232 * 0) (n := 55392 * 0) (by omega) (by omega) ?_
  exact L_11 5 0 (Nat.zero_le _) (by omega) _ _ _ _ hC hW hS (lv_sub hl [4, 5, 3, 2, 1, 0] rfl)
