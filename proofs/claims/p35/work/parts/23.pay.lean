theorem pfX5_131 {p : Program} {l : Launch} {e : Env} {R : Room} {s : State} {m : MethodId} {args : Array Value} {below : List Frame} {meth : Method} {c : Code} {H : Heap} {locs : List Loc} {cells slots : Nat} {Q : State → Prop} {cc : ByteArray} {pc nL : Nat} {ls : Array Slot} {rest : List Value} {D : va_G} {tys : List (ClassId × FieldType)} {ad : Nat → Nat} {N : Nat} {E : Nat → va_E} {k : Nat} {fs : List Value} {v : Value} {A : Nat → Prop} {H0 : Heap} (B : MB p c cc nL RX5 s m args D tys) (hT : TX s) (hI : aI ad N) (hA : ∀ k : Nat, k < N → A (ad k)) (hW : hH D ad N E H) (hS : va_S A H0 H locs) (hk : k < N) (he : E k = .inr (5, fs)) (hl : 7 < fs.length) (hn : narrow .int v = v) (hfit : fits .int v = true) (hdg : decode cc pc = .ok (.putfield 131, 3)) (kk : ∀ (H1 : Heap) (locs1 : List Loc), hH D ad N (va_up E k (.inr (5, fs.set 7 v))) H1 → va_S A H0 H1 locs1 → W p l e R s m args below meth c H1 locs1 cells slots Q (F0 m (pc + 3) ls rest)) : W p l e R s m args below meth c H locs cells slots Q (F0 m pc ls (v :: .ref (ad k) :: rest)) :=
  b_put B hI hA hW hS inlX5 tyX5 tyX5_ok nmX5 rfl 7 (by decide) (r8_in _ (List.mem_of_getElem? (i := 3) rfl)) rfl rfl (by decide +kernel) hk he hl hn hfit hdg kk
theorem pfX5_140 {p : Program} {l : Launch} {e : Env} {R : Room} {s : State} {m : MethodId} {args : Array Value} {below : List Frame} {meth : Method} {c : Code} {H : Heap} {locs : List Loc} {cells slots : Nat} {Q : State → Prop} {cc : ByteArray} {pc nL : Nat} {ls : Array Slot} {rest : List Value} {D : va_G} {tys : List (ClassId × FieldType)} {ad : Nat → Nat} {N : Nat} {E : Nat → va_E} {k : Nat} {fs : List Value} {v : Value} {A : Nat → Prop} {H0 : Heap} (B : MB p c cc nL RX5 s m args D tys) (hT : TX s) (hI : aI ad N) (hA : ∀ k : Nat, k < N → A (ad k)) (hW : hH D ad N E H) (hS : va_S A H0 H locs) (hk : k < N) (he : E k = .inr (5, fs)) (hl : 8 < fs.length) (hn : narrow .int v = v) (hfit : fits .int v = true) (hdg : decode cc pc = .ok (.putfield 140, 3)) (kk : ∀ (H1 : Heap) (locs1 : List Loc), hH D ad N (va_up E k (.inr (5, fs.set 8 v))) H1 → va_S A H0 H1 locs1 → W p l e R s m args below meth c H1 locs1 cells slots Q (F0 m (pc + 3) ls rest)) : W p l e R s m args below meth c H locs cells slots Q (F0 m pc ls (v :: .ref (ad k) :: rest)) :=
  b_put B hI hA hW hS inlX5 tyX5 tyX5_ok nmX5 rfl 8 (by decide) (r14_in _ (List.mem_of_getElem? (i := 17) rfl)) rfl rfl (by decide +kernel) hk he hl hn hfit hdg kk
theorem pfX5_143 {p : Program} {l : Launch} {e : Env} {R : Room} {s : State} {m : MethodId} {args : Array Value} {below : List Frame} {meth : Method} {c : Code} {H : Heap} {locs : List Loc} {cells slots : Nat} {Q : State → Prop} {cc : ByteArray} {pc nL : Nat} {ls : Array Slot} {rest : List Value} {D : va_G} {tys : List (ClassId × FieldType)} {ad : Nat → Nat} {N : Nat} {E : Nat → va_E} {k : Nat} {fs : List Value} {v : Value} {A : Nat → Prop} {H0 : Heap} (B : MB p c cc nL RX5 s m args D tys) (hT : TX s) (hI : aI ad N) (hA : ∀ k : Nat, k < N → A (ad k)) (hW : hH D ad N E H) (hS : va_S A H0 H locs) (hk : k < N) (he : E k = .inr (5, fs)) (hl : 9 < fs.length) (hn : narrow .long v = v) (hfit : fits .long v = true) (hdg : decode cc pc = .ok (.putfield 143, 3)) (kk : ∀ (H1 : Heap) (locs1 : List Loc), hH D ad N (va_up E k (.inr (5, fs.set 9 v))) H1 → va_S A H0 H1 locs1 → W p l e R s m args below meth c H1 locs1 cells slots Q (F0 m (pc + 3) ls rest)) : W p l e R s m args below meth c H locs cells slots Q (F0 m pc ls (v :: .ref (ad k) :: rest)) :=
  b_put B hI hA hW hS inlX5 tyX5 tyX5_ok nmX5 rfl 9 (by decide) (r7_in _ (List.mem_of_getElem? (i := 14) rfl)) rfl rfl (by decide +kernel) hk he hl hn hfit hdg kk
theorem cwX5_136 {R : Room} {s : State} {args : Array Value} {rm : Room} (hts : ∀ w ∈ wsL_law, w.before args s = true) (hR : rm.frames + 1 ≤ R.frames ∧ 8 + (7 + 11) + rm.locals ≤ R.locals) : CWV R s args RX5 RX5 136 yX5_payTo cX5_payTo 7 (some .int) rm rm.cells rm.slots 2 :=
  cwV 2 hts (gi_V (r14_in _ (List.mem_of_getElem? (i := 18) rfl)) (r14_in _ (List.mem_of_getElem? (i := 19) rfl)) (r14_in _ (List.mem_of_getElem? (i := 20) rfl)) (r1_in _ (List.mem_of_getElem? (i := 2) rfl)) (r14_in _ (List.mem_of_getElem? (i := 21) rfl))) rfl rfl rfl (by decide +kernel) hR
set_option maxHeartbeats 4000000 in
set_option maxRecDepth 100000 in
theorem mt_pay {l : Launch} (hlf : l.stackTraces = false) {D : va_G} {tys : List (ClassId × FieldType)} {ad : Nat → Nat} (hI : aI ad 109) {cI cZ cH cP cT : ClassId} (V T : Nat → Nat → Int32) (ag : Nat → Int32) (nP nH rN : Nat) (nf pn : Int32) (sp sk : Int64) (py pd : Nat → Nat → Int32) (so en : Nat → Int32) (rA rC rI aA aC aH aT aP : Int32) (hti : tys[0]? = some (cI, .int)) (htz : cZ = cI) (hth : tys[2]? = some (cH, .object RX1)) (htp : tys[3]? = some (cP, .object RX2)) (htt : tys[4]? = some (cT, .object RX4)) (hInv : Inv V T ag nP nH rN so pd)  (sz : Nat) : vx_Met l yX5_pay (Cond.code yX5_pay cX5_pay 3 (some .int) :: wsL_law) (rmk 6 8 48) (va_Pc [.ref (ad 0)] (PC D tys ad 109 (cE cI cZ cH cP cT ad V T ag nP nH rN nf pn sp sk py pd so en rA rC rI aA aC aH aT aP) sz)) (Qi D ad 109 (fun r E1 => (kPay rN = 0 ∧ r = (runS (due V ag nP) rN py pd sk nH).1) ∧ CW cI cZ cH cP cT ad V T ag nP nH (rN + 1) nf (pn + nI nH) (sp + (runS (due V ag nP) rN py pd sk nH).1.toInt64) ((runS (due V ag nP) rN py pd sk nH).2.2.2) ((runS (due V ag nP) rN py pd sk nH).2.1) ((runS (due V ag nP) rN py pd sk nH).2.2.1) E1) (cA ad 109 sz)) (Xx D ad 109 (fun Ex E1 => (Ex = xISE ∧ kPay rN = 1) ∧ CW cI cZ cH cP cT ad V T ag nP nH rN nf pn sp sk py pd E1) (cA ad 109 sz)) 8 48 (cA ad 109 sz) := by
  refine cx_of (own := RX5) (Qc := Qi D ad 109 (fun r E1 => (kPay rN = 0 ∧ r = (runS (due V ag nP) rN py pd sk nH).1) ∧ CW cI cZ cH cP cT ad V T ag nP nH (rN + 1) nf (pn + nI nH) (sp + (runS (due V ag nP) rN py pd sk nH).1.toInt64) ((runS (due V ag nP) rN py pd sk nH).2.2.2) ((runS (due V ag nP) rN py pd sk nH).2.1) ((runS (due V ag nP) rN py pd sk nH).2.2.1) E1)) (XC := Xx D ad 109 (fun Ex E1 => (Ex = xISE ∧ kPay rN = 1) ∧ CW cI cZ cH cP cT ad V T ag nP nH rN nf pn sp sk py pd E1)) rfl (by decide +kernel) (Nat.le_of_ble_eq_true rfl) ?_ sz
  intro p e s m args below meth c ls Q B hT hX hW hr hlk htb hl hS hA hQ
  have hx := B.1
  have hb := B.2.1
  have hl : lv_has ls 3 [(0, .ref (ad 0))] := hl
  obtain ⟨⟨hP8, hH4, hR12⟩, hTb, -, hso, -, -, hpd⟩ := id hInv
  have L_23 : ∀ (n_ : Nat) (i : Nat) (en1 : Nat → Int32) (rA1 : Int32) (rC1 : Int32) (rI1 : Int32) (aA1 : Int32) (aC1 : Int32) (aH1 : Int32) (aT1 : Int32) (aP1 : Int32), (hr12 : rN < 12) → (hi : i ≤ nH) → (hn : nH < n_ + i) → ∀ (H : Heap) (locs : List Loc) (ls : Array Slot), hH D ad 109 (cE cI cZ cH cP cT ad V T ag nP nH rN nf pn sp ((runS (due V ag nP) rN py pd sk i).2.2.2) ((runS (due V ag nP) rN py pd sk i).2.1) ((runS (due V ag nP) rN py pd sk i).2.2.1) so en1 rA1 rC1 rI1 aA1 aC1 aH1 aT1 aP1) H → va_S (cA ad 109 s.heap.size) s.heap H locs → lv_has ls 3 [(0, .ref (ad 0)), (1, .int ((runS (due V ag nP) rN py pd sk i).1)), (2, .int (nI i))] → W p l e (rmk 6 8 48) s m args below meth c H locs 0 0 Q (F0 m 23 ls []) := by
    intro n_
    induction n_ with
    | zero =>
      intro i en1 rA1 rC1 rI1 aA1 aC1 aH1 aT1 aP1 hr12 hi hn
      omega
    | succ n_ ih =>
      intro i en1 rA1 rC1 rI1 aA1 aC1 aH1 aT1 aP1 hr12 hi hn H locs ls hW hS hl
      refine lv_iload_n hx hb dX5_pay_23 rfl (lv_at hl 2 rfl) ?_
      refine lv_aload_n hx hb dX5_pay_24 rfl (lv_at hl 0 rfl) ?_
      refine gfX5_77 B hT hW (by decide) cE_0 rfl dX5_pay_25 ?_
      refine lv_icmp_ge (tgt := 49) hx hb dX5_pay_28 (by decide) (fun c_28 => ?_) (fun c_28 => ?_)
      · skip
        have qi : nH = i := Nat.le_antisymm ((nI_leI (by omega) (by omega)).mp c_28) hi
        subst qi
        refine lv_aload_n hx hb dX5_pay_49 rfl (lv_at hl 0 rfl) ?_
        refine lv_dup hx hb dX5_pay_50 rfl ?_
        refine gfX5_131 B hT hW (by decide) cE_0 rfl dX5_pay_51 ?_
        refine lv_iconst (v := 1) hx hb dX5_pay_54 (by decide) ?_
        refine lv_iadd hx hb dX5_pay_55 ?_
        refine b_top (y := nI (rN + 1)) (nI_1 rN) ?_
        refine pfX5_131 B hT hI hA hW hS (by decide) cE_0 (Nat.le_of_ble_eq_true rfl) rfl (by first | rfl | decide) dX5_pay_56 (fun H locs hW hS => ?_)
        have hW := hW.eq (E' := cE cI cZ cH cP cT ad V T ag nP nH (rN + 1) nf pn sp ((runS (due V ag nP) rN py pd sk nH).2.2.2) ((runS (due V ag nP) rN py pd sk nH).2.1) ((runS (due V ag nP) rN py pd sk nH).2.2.1) so en1 rA1 rC1 rI1 aA1 aC1 aH1 aT1 aP1) (cE_u0 _ _ _ _ _ _ _)
        refine lv_aload_n hx hb dX5_pay_59 rfl (lv_at hl 0 rfl) ?_
        refine lv_dup hx hb dX5_pay_60 rfl ?_
        refine gfX5_140 B hT hW (by decide) cE_0 rfl dX5_pay_61 ?_
        refine lv_aload_n hx hb dX5_pay_64 rfl (lv_at hl 0 rfl) ?_
        refine gfX5_77 B hT hW (by decide) cE_0 rfl dX5_pay_65 ?_
        refine lv_iadd hx hb dX5_pay_68 ?_
        refine pfX5_140 B hT hI hA hW hS (by decide) cE_0 (Nat.le_of_ble_eq_true rfl) rfl (by first | rfl | decide) dX5_pay_69 (fun H locs hW hS => ?_)
        have hW := hW.eq (E' := cE cI cZ cH cP cT ad V T ag nP nH (rN + 1) nf (pn + (nI nH)) sp ((runS (due V ag nP) rN py pd sk nH).2.2.2) ((runS (due V ag nP) rN py pd sk nH).2.1) ((runS (due V ag nP) rN py pd sk nH).2.2.1) so en1 rA1 rC1 rI1 aA1 aC1 aH1 aT1 aP1) (cE_u0 _ _ _ _ _ _ _)
        refine lv_aload_n hx hb dX5_pay_72 rfl (lv_at hl 0 rfl) ?_
        refine lv_dup hx hb dX5_pay_73 rfl ?_
        refine gfX5_143 B hT hW (by decide) cE_0 rfl dX5_pay_74 ?_
        refine lv_iload_n hx hb dX5_pay_77 rfl (lv_at hl 1 rfl) ?_
        refine lv_i2l hx hb dX5_pay_78 rfl ?_
        refine lv_ladd hx hb dX5_pay_79 ?_
        refine pfX5_143 B hT hI hA hW hS (by decide) cE_0 (Nat.le_of_ble_eq_true rfl) rfl (by first | rfl | decide) dX5_pay_80 (fun H locs hW hS => ?_)
        have hW := hW.eq (E' := cE cI cZ cH cP cT ad V T ag nP nH (rN + 1) nf (pn + (nI nH)) (sp + (((runS (due V ag nP) rN py pd sk nH).1).toInt64)) ((runS (due V ag nP) rN py pd sk nH).2.2.2) ((runS (due V ag nP) rN py pd sk nH).2.1) ((runS (due V ag nP) rN py pd sk nH).2.2.1) so en1 rA1 rC1 rI1 aA1 aC1 aH1 aT1 aP1) (cE_u0 _ _ _ _ _ _ _)
        refine lv_iload_n hx hb dX5_pay_83 rfl (lv_at hl 1 rfl) ?_
        exact x_i hQ B hr hlk hS hW dX5_pay_84 (Nat.le_of_ble_eq_true rfl) (Nat.le_of_ble_eq_true rfl) (⟨⟨by unfold kPay; rw [cif_t hr12], rfl⟩, CW.mk (Inv.pay hInv hr12 nH hH4)⟩)
      · skip
        have q28 : i < nH := Nat.lt_of_not_le (fun q => c_28 ((nI_leI (by omega) (by omega)).mpr q))
        have hcon : ∀ x, 0 < x → x < 360 → so x ≤ 0 → tot V ag nP i x = tot V ag nP i (x - 1) := fun x h1 h2 h3 => by unfold tot; rw [Inv_amt hInv (by omega) h1 h2 h3]
        refine lv_iload_n hx hb dX5_pay_31 rfl (lv_at hl 1 rfl) ?_
        refine lv_aload_n hx hb dX5_pay_32 rfl (lv_at hl 0 rfl) ?_
        refine lv_iload_n hx hb dX5_pay_33 rfl (lv_at hl 2 rfl) ?_
        refine lv_aload_n hx hb dX5_pay_34 rfl (lv_at hl 0 rfl) ?_
        refine gfX5_131 B hT hW (by decide) cE_0 rfl dX5_pay_35 ?_
        refine b_ci (b_runV B hT hX hW hS (As := [.int (nI i), .int (nI rN)]) (rest := [.int ((runS (due V ag nP) rN py pd sk i).1)]) (fun sz => mt_payTo hI V T ag nP nH rN nf pn sp ((runS (due V ag nP) rN py pd sk i).2.2.2) ((runS (due V ag nP) rN py pd sk i).2.1) ((runS (due V ag nP) rN py pd sk i).2.2.1) so en1 rA1 rC1 rI1 aA1 aC1 aH1 aT1 aP1 i rN hti htz hth htp htt hP8 (by omega) (by omega) hcon sz) (cwX5_136 B.2.2.2.2.1 ⟨Nat.le_of_ble_eq_true rfl, Nat.le_of_ble_eq_true rfl⟩) (b_recv B hW (by decide) cE_0 rfl) rfl hl.1 (Nat.le_of_ble_eq_true rfl) dX5_pay_38 ⟨Nat.le_of_ble_eq_true rfl, Nat.le_of_ble_eq_true rfl⟩) hS (fun r_38 E1 H locs hp_38 hW hS => ?_)
        obtain ⟨hr_, en_38, jA_38, jB_38, jC_38, jD_38, jE_38, jF_38, jG_38, jH_38, hE_⟩ := hp_38
        have kp := runS_keep (U := due V ag nP) (mo := rN) (py := py) (pd := pd) (sk := sk) (Nat.le_refl i)
        rw [kp.2] at hr_
        have hr2 : r_38 = payP (due V ag nP i) (pd i) rN := hr_
        subst hr2
        have hW := hW.eq (E' := cE cI cZ cH cP cT ad V T ag nP nH rN nf pn sp ((runS (due V ag nP) rN py pd sk (i + 1)).2.2.2) ((runS (due V ag nP) rN py pd sk (i + 1)).2.1) ((runS (due V ag nP) rN py pd sk (i + 1)).2.2.1) so en_38 jA_38 jB_38 jC_38 jD_38 jE_38 jF_38 jG_38 jH_38) (by rw [hE_, kp.1, kp.2]; rfl)
        refine lv_iadd hx hb dX5_pay_41 ?_
        refine b_top (y := (runS (due V ag nP) rN py pd sk (i + 1)).1) rfl ?_
        refine lv_istore_n (lv' := [(1, .int ((runS (due V ag nP) rN py pd sk (i + 1)).1)), (0, .ref (ad 0)), (2, .int (nI i))]) hx hb dX5_pay_42 rfl hl (by decide) rfl (fun ls hl => ?_)
        refine lv_iinc (v := (nI (i + 1))) (lv' := [(2, .int (nI (i + 1))), (1, .int ((runS (due V ag nP) rN py pd sk (i + 1)).1)), (0, .ref (ad 0))]) hx hb dX5_pay_43 hl (k := 2) rfl (nI_1 i) (by decide) rfl (fun ls hl => ?_)
        refine lv_goto (tgt := 23) hx hb dX5_pay_46 (by decide) ?_
        exact ih (i + 1) en_38 jA_38 jB_38 jC_38 jD_38 jE_38 jF_38 jG_38 jH_38 hr12 (by omega) (by omega) _ _ _ hW hS (lv_sub hl [2, 1, 0] rfl)
  refine lv_aload_n hx hb dX5_pay_0 rfl (lv_at hl 0 rfl) ?_
  refine gfX5_131 B hT hW (by decide) cE_0 rfl dX5_pay_1 ?_
  refine lv_bipush (v := (nI 12)) hx hb dX5_pay_4 (by decide) ?_
  refine lv_icmp_lt (tgt := 19) hx hb dX5_pay_6 (by decide) (fun c_6 => ?_) (fun c_6 => ?_)
  · skip
    refine lv_iconst (v := 0) hx hb dX5_pay_19 (by decide) ?_
    refine b_top (y := (runS (due V ag nP) rN py pd sk 0).1) rfl ?_
    refine lv_istore_n (lv' := [(1, .int ((runS (due V ag nP) rN py pd sk 0).1)), (0, .ref (ad 0))]) hx hb dX5_pay_20 rfl hl (by decide) rfl (fun ls hl => ?_)
    refine lv_iconst (v := 0) hx hb dX5_pay_21 (by decide) ?_
    refine lv_istore_n (lv' := [(2, .int 0), (1, .int ((runS (due V ag nP) rN py pd sk 0).1)), (0, .ref (ad 0))]) hx hb dX5_pay_22 rfl hl (by decide) rfl (fun ls hl => ?_)
    exact L_23 (nH + 1) 0 en rA rC rI aA aC aH aT aP ((nI_ltI (by omega) (by omega)).mp c_6) (by omega) (by omega) _ _ _ hW hS (lv_sub hl [2, 1, 0] rfl)
  · skip
    exact b_throw hQ B hT hX hW hS hlf xf_ISE (List.mem_of_getElem? (i := 4) rfl) hl.1 dX5_pay_9 dX5_pay_12 dX5_pay_13 dX5_pay_15 dX5_pay_18 htb hlk (Nat.le_of_ble_eq_true rfl) (Nat.le_of_ble_eq_true rfl) (Nat.le_of_ble_eq_true rfl) (Nat.le_of_ble_eq_true rfl) (Nat.le_of_ble_eq_true rfl) (Nat.le_of_ble_eq_true rfl) (⟨⟨rfl, by unfold kPay; rw [cif_f (fun q => c_6 ((nI_ltI (by omega) (by omega)).mpr q))]⟩, CW.mk hInv⟩)
