theorem run_s {f : Nat → Int32} {b dy : Nat} (hc : ∀ x, b ≤ x → x < dy → f x = f b) (hb : b < dy) (h : f dy = f (dy - 1)) : ∀ x, b ≤ x → x < dy + 1 → f x = f b := fun x h1 h2 => by
  rcases Nat.lt_or_ge x dy with q | q
  · exact hc x h1 q
  · rw [show x = dy by omega, h]
    exact hc (dy - 1) (by omega) (by omega)
set_option maxHeartbeats 4000000 in
set_option maxRecDepth 100000 in
theorem mt_sumBS {l : Launch} {D : va_G} {tys : List (ClassId × FieldType)} {ad : Nat → Nat} (hI : aI ad 109) {cI cZ cH cP cT : ClassId} (V T : Nat → Nat → Int32) (ag : Nat → Int32) (nP nH rN : Nat) (nf pn : Int32) (sp sk : Int64) (py pd : Nat → Nat → Int32) (so en : Nat → Int32) (rA rC rI aA aC aH aT aP : Int32) (h mo : Nat) (hti : tys[0]? = some (cI, .int)) (htz : cZ = cI) (hth : tys[2]? = some (cH, .object RX1)) (htp : tys[3]? = some (cP, .object RX2)) (htt : tys[4]? = some (cT, .object RX4)) (hP8 : nP ≤ 8) (hh : h < 4) (hmo : mo < 12) (hcon : ∀ x, 0 < x → x < 360 → so x ≤ 0 → (tot V ag nP h) x = (tot V ag nP h) (x - 1))  (sz : Nat) : Met l yX5_sumByStretches (Cond.code yX5_sumByStretches cX5_sumByStretches 7 (some .int) :: wsL_law) (rmk 4 0 0) (va_Pc [.ref (ad 0), .int (nI h), .int (nI mo)] (PC D tys ad 109 (cE cI cZ cH cP cT ad V T ag nP nH rN nf pn sp sk py pd so en rA rC rI aA aC aH aT aP) sz)) (Qi D ad 109 (fun r E1 => r = due V ag nP h mo ∧ ∃ rA1 rC1 rI1 aA1 aC1 aH1 aT1 aP1, E1 = cE cI cZ cH cP cT ad V T ag nP nH rN nf pn sp sk py pd so en rA1 rC1 rI1 aA1 aC1 aH1 aT1 aP1) (cA ad 109 sz)) 0 0 (cA ad 109 sz) := by
  refine cm_of (own := RX5) (Qc := Qi D ad 109 (fun r E1 => r = due V ag nP h mo ∧ ∃ rA1 rC1 rI1 aA1 aC1 aH1 aT1 aP1, E1 = cE cI cZ cH cP cT ad V T ag nP nH rN nf pn sp sk py pd so en rA1 rC1 rI1 aA1 aC1 aH1 aT1 aP1)) rfl (by decide +kernel) (Nat.le_of_ble_eq_true rfl) ?_ sz
  intro p e s m args below meth c ls Q B hT hX hW hr hlk hnm hl hS hA hQ
  have hx := B.1
  have hb := B.2.1
  have hl : lv_has ls 7 [(0, .ref (ad 0)), (1, .int (nI h)), (2, .int (nI mo))] := hl
  have L_19 : ∀ (n_ : Nat) (dy : Nat) (b : Nat) (rA1 : Int32) (rC1 : Int32) (rI1 : Int32) (aA1 : Int32) (aC1 : Int32) (aH1 : Int32) (aT1 : Int32) (aP1 : Int32), (hb0 : 30 * mo ≤ b) → (hb1 : b < dy) → (hd1 : dy ≤ 30 * mo + 31) → (hd2 : b ≤ 30 * mo + 30) → (hd3 : dy = 30 * mo + 31 → b = 30 * mo + 30) → (hn : 30 * mo + 32 < n_ + dy) → (hc1 : ∀ x, b ≤ x → x < dy → (tot V ag nP h) x = (tot V ag nP h) b) → ∀ (H : Heap) (locs : List Loc) (ls : Array Slot), hH D ad 109 (cE cI cZ cH cP cT ad V T ag nP nH rN nf pn sp sk py pd so en rA1 rC1 rI1 aA1 aC1 aH1 aT1 aP1) H → va_S (cA ad 109 s.heap.size) s.heap H locs → lv_has ls 7 [(0, .ref (ad 0)), (1, .int (nI h)), (2, .int (nI mo)), (3, .int (nI b)), (4, .int (nI (30 * mo + 30))), (5, .int (sumD (tot V ag nP h) (b - 30 * mo) (30 * mo))), (6, .int (nI dy))] → W p l e (rmk 4 0 0) s m args below meth c H locs 0 0 Q (F0 m 19 ls []) := by
    intro n_
    induction n_ with
    | zero =>
      intro dy b rA1 rC1 rI1 aA1 aC1 aH1 aT1 aP1 hb0 hb1 hd1 hd2 hd3 hn hc1
      omega
    | succ n_ ih =>
      intro dy b rA1 rC1 rI1 aA1 aC1 aH1 aT1 aP1 hb0 hb1 hd1 hd2 hd3 hn hc1 H locs ls hW hS hl
      refine lv_iload hx hb dX5_sumByStretches_19 (lv_at hl 6 rfl) ?_
      refine lv_iload hx hb dX5_sumByStretches_21 (lv_at hl 4 rfl) ?_
      refine lv_icmp_gt (tgt := 75) hx hb dX5_sumByStretches_23 (by decide) (fun c_23 => ?_) (fun c_23 => ?_)
      · skip
        refine lv_iload hx hb dX5_sumByStretches_75 (lv_at hl 5 rfl) ?_
        exact e_i hQ B hr hlk hS hW dX5_sumByStretches_77 (Nat.le_of_ble_eq_true rfl) (Nat.le_of_ble_eq_true rfl) (by have q1 := (nI_ltI (by omega) (by omega)).mp c_23; have q2 := hd3 (by omega); subst q2; exact ⟨by unfold due; rw [show 30 * mo + 30 - 30 * mo = 30 by omega], _, _, _, _, _, _, _, _, rfl⟩)
      · skip
        have q23 : dy ≤ 30 * mo + 30 := Nat.le_of_not_lt (fun q => c_23 ((nI_ltI (by omega) (by omega)).mpr q))
        refine lv_iload hx hb dX5_sumByStretches_26 (lv_at hl 6 rfl) ?_
        refine lv_iload hx hb dX5_sumByStretches_28 (lv_at hl 4 rfl) ?_
        refine lv_icmp_eq (tgt := 43) hx hb dX5_sumByStretches_30 (by decide) (fun c_30 => ?_) (fun c_30 => ?_)
        · skip
          refine lv_aload_n hx hb dX5_sumByStretches_43 rfl (lv_at hl 0 rfl) ?_
          refine lv_iload_n hx hb dX5_sumByStretches_44 rfl (lv_at hl 1 rfl) ?_
          refine lv_iload_n hx hb dX5_sumByStretches_45 rfl (lv_at hl 3 rfl) ?_
          refine b_cv (b_runV B hT hX hW hS (As := [.int (nI h), .int (nI b)]) (rest := []) (fun sz => mt_findAmt hI V T ag nP nH rN nf pn sp sk py pd so en rA1 rC1 rI1 aA1 aC1 aH1 aT1 aP1 h b hti htz hth htp htt hP8 (by omega) (by omega) sz) (cwX5_183 B.2.2.2.2.1 ⟨Nat.le_of_ble_eq_true rfl, Nat.le_of_ble_eq_true rfl⟩) (b_recv B hW (by decide) cE_0 rfl) rfl hl.1 (Nat.le_of_ble_eq_true rfl) dX5_sumByStretches_46 ⟨Nat.le_of_ble_eq_true rfl, Nat.le_of_ble_eq_true rfl⟩) hS (fun E1 H locs hp_46 hW hS => ?_)
          have hW := hW.eq hp_46
          refine lv_iload hx hb dX5_sumByStretches_49 (lv_at hl 5 rfl) ?_
          refine lv_aload_n hx hb dX5_sumByStretches_51 rfl (lv_at hl 0 rfl) ?_
          refine gfX5_41 B hT hW (by decide) cE_0 rfl dX5_sumByStretches_52 ?_
          refine b_ci (b_runV B hT hX hW hS (As := []) (rest := [.int (sumD (tot V ag nP h) (b - 30 * mo) (30 * mo))]) (fun sz => mt_asum hI 6 (by decide) cE_6 sz) (cwX5_204 B.2.2.2.2.1 ⟨Nat.le_of_ble_eq_true rfl, Nat.le_of_ble_eq_true rfl⟩) (b_recv B hW (by decide) cE_6 rfl) rfl hl.1 (Nat.le_of_ble_eq_true rfl) dX5_sumByStretches_55 ⟨Nat.le_of_ble_eq_true rfl, Nat.le_of_ble_eq_true rfl⟩) hS (fun r_55 E1 H locs hp_55 hW hS => ?_)
          obtain ⟨hr_, hE_⟩ := hp_55
          subst hr_
          have hW := hW.eq hE_
          refine lv_iload hx hb dX5_sumByStretches_58 (lv_at hl 6 rfl) ?_
          refine lv_iload_n hx hb dX5_sumByStretches_60 rfl (lv_at hl 3 rfl) ?_
          refine lv_isub hx hb dX5_sumByStretches_61 ?_
          refine b_top (y := nI (dy - b)) (pk_sub (by omega)) ?_
          refine lv_imul hx hb dX5_sumByStretches_62 ?_
          refine b_top (y := tot V ag nP h b * nI (dy - b)) rfl ?_
          refine lv_iadd hx hb dX5_sumByStretches_63 ?_
          have e0 := sumD_run (30 * mo) b (by omega) (dy - b) (fun x h1 h2 => hc1 x h1 (by omega))
          rw [show b + (dy - b) - 30 * mo = dy - 30 * mo by omega] at e0
          refine b_top (y := sumD (tot V ag nP h) (dy - 30 * mo) (30 * mo)) e0.symm ?_
          refine lv_istore (lv' := [(5, .int (sumD (tot V ag nP h) (dy - 30 * mo) (30 * mo))), (0, .ref (ad 0)), (1, .int (nI h)), (2, .int (nI mo)), (3, .int (nI b)), (4, .int (nI (30 * mo + 30))), (6, .int (nI dy))]) hx hb dX5_sumByStretches_64 hl (by decide) rfl (fun ls hl => ?_)
          refine lv_iload hx hb dX5_sumByStretches_66 (lv_at hl 6 rfl) ?_
          refine lv_istore_n (lv' := [(3, .int (nI dy)), (5, .int (sumD (tot V ag nP h) (dy - 30 * mo) (30 * mo))), (0, .ref (ad 0)), (1, .int (nI h)), (2, .int (nI mo)), (4, .int (nI (30 * mo + 30))), (6, .int (nI dy))]) hx hb dX5_sumByStretches_68 rfl hl (by decide) rfl (fun ls hl => ?_)
          refine lv_iinc (v := (nI (dy + 1))) (lv' := [(6, .int (nI (dy + 1))), (3, .int (nI dy)), (5, .int (sumD (tot V ag nP h) (dy - 30 * mo) (30 * mo))), (0, .ref (ad 0)), (1, .int (nI h)), (2, .int (nI mo)), (4, .int (nI (30 * mo + 30)))]) hx hb dX5_sumByStretches_69 hl (k := 6) rfl (nI_1 dy) (by decide) rfl (fun ls hl => ?_)
          refine lv_goto (tgt := 19) hx hb dX5_sumByStretches_72 (by decide) ?_
          exact ih (dy + 1) dy ((cnt V ag (nI h) b nP).1) ((cnt V ag (nI h) b nP).2.1) ((cnt V ag (nI h) b nP).2.2) ((amt V ag nP h b).1) ((amt V ag nP h b).2.1) ((amt V ag nP h b).2.2.1) ((amt V ag nP h b).2.2.2.1) ((amt V ag nP h b).2.2.2.2) (by omega) (by omega) (by omega) (by omega) (by omega) (by omega) (fun x h1 h2 => by rw [show x = dy by omega]) _ _ _ hW hS (lv_sub hl [3, 4, 5, 1, 6, 2, 0] rfl)
        · skip
          have q30 : ¬ dy = 30 * mo + 30 := fun q => c_30 (by rw [q])
          refine lv_aload_n hx hb dX5_sumByStretches_33 rfl (lv_at hl 0 rfl) ?_
          refine gfX5_27 B hT hW (by decide) cE_0 rfl dX5_sumByStretches_34 ?_
          refine lv_iload hx hb dX5_sumByStretches_37 (lv_at hl 6 rfl) ?_
          refine b_iald B hW hti (j := dy) (by decide) cE_4 (vp_in_nI (by omega) (Nat.le_of_ble_eq_true rfl)) (nI_clamp (by omega)) dX5_sumByStretches_39 ?_
          refine lv_if_le (tgt := 69) hx hb dX5_sumByStretches_40 (by decide) (fun c_40 => ?_) (fun c_40 => ?_)
          · skip
            refine lv_iinc (v := (nI (dy + 1))) (lv' := [(6, .int (nI (dy + 1))), (0, .ref (ad 0)), (1, .int (nI h)), (2, .int (nI mo)), (3, .int (nI b)), (4, .int (nI (30 * mo + 30))), (5, .int (sumD (tot V ag nP h) (b - 30 * mo) (30 * mo)))]) hx hb dX5_sumByStretches_69 hl (k := 6) rfl (nI_1 dy) (by decide) rfl (fun ls hl => ?_)
            refine lv_goto (tgt := 19) hx hb dX5_sumByStretches_72 (by decide) ?_
            exact ih (dy + 1) b rA1 rC1 rI1 aA1 aC1 aH1 aT1 aP1 (by omega) (by omega) (by omega) (by omega) (by omega) (by omega) (run_s hc1 hb1 (hcon dy (by omega) (by omega) c_40)) _ _ _ hW hS (lv_sub hl [1, 2, 3, 4, 5, 6, 0] rfl)
          · skip
            refine lv_aload_n hx hb dX5_sumByStretches_43 rfl (lv_at hl 0 rfl) ?_
            refine lv_iload_n hx hb dX5_sumByStretches_44 rfl (lv_at hl 1 rfl) ?_
            refine lv_iload_n hx hb dX5_sumByStretches_45 rfl (lv_at hl 3 rfl) ?_
            refine b_cv (b_runV B hT hX hW hS (As := [.int (nI h), .int (nI b)]) (rest := []) (fun sz => mt_findAmt hI V T ag nP nH rN nf pn sp sk py pd so en rA1 rC1 rI1 aA1 aC1 aH1 aT1 aP1 h b hti htz hth htp htt hP8 (by omega) (by omega) sz) (cwX5_183 B.2.2.2.2.1 ⟨Nat.le_of_ble_eq_true rfl, Nat.le_of_ble_eq_true rfl⟩) (b_recv B hW (by decide) cE_0 rfl) rfl hl.1 (Nat.le_of_ble_eq_true rfl) dX5_sumByStretches_46 ⟨Nat.le_of_ble_eq_true rfl, Nat.le_of_ble_eq_true rfl⟩) hS (fun E1 H locs hp_46 hW hS => ?_)
            have hW := hW.eq hp_46
            refine lv_iload hx hb dX5_sumByStretches_49 (lv_at hl 5 rfl) ?_
            refine lv_aload_n hx hb dX5_sumByStretches_51 rfl (lv_at hl 0 rfl) ?_
            refine gfX5_41 B hT hW (by decide) cE_0 rfl dX5_sumByStretches_52 ?_
            refine b_ci (b_runV B hT hX hW hS (As := []) (rest := [.int (sumD (tot V ag nP h) (b - 30 * mo) (30 * mo))]) (fun sz => mt_asum hI 6 (by decide) cE_6 sz) (cwX5_204 B.2.2.2.2.1 ⟨Nat.le_of_ble_eq_true rfl, Nat.le_of_ble_eq_true rfl⟩) (b_recv B hW (by decide) cE_6 rfl) rfl hl.1 (Nat.le_of_ble_eq_true rfl) dX5_sumByStretches_55 ⟨Nat.le_of_ble_eq_true rfl, Nat.le_of_ble_eq_true rfl⟩) hS (fun r_55 E1 H locs hp_55 hW hS => ?_)
            obtain ⟨hr_, hE_⟩ := hp_55
            subst hr_
            have hW := hW.eq hE_
            refine lv_iload hx hb dX5_sumByStretches_58 (lv_at hl 6 rfl) ?_
            refine lv_iload_n hx hb dX5_sumByStretches_60 rfl (lv_at hl 3 rfl) ?_
            refine lv_isub hx hb dX5_sumByStretches_61 ?_
            refine b_top (y := nI (dy - b)) (pk_sub (by omega)) ?_
            refine lv_imul hx hb dX5_sumByStretches_62 ?_
            refine b_top (y := tot V ag nP h b * nI (dy - b)) rfl ?_
            refine lv_iadd hx hb dX5_sumByStretches_63 ?_
            have e0 := sumD_run (30 * mo) b (by omega) (dy - b) (fun x h1 h2 => hc1 x h1 (by omega))
            rw [show b + (dy - b) - 30 * mo = dy - 30 * mo by omega] at e0
            refine b_top (y := sumD (tot V ag nP h) (dy - 30 * mo) (30 * mo)) e0.symm ?_
            refine lv_istore (lv' := [(5, .int (sumD (tot V ag nP h) (dy - 30 * mo) (30 * mo))), (0, .ref (ad 0)), (1, .int (nI h)), (2, .int (nI mo)), (3, .int (nI b)), (4, .int (nI (30 * mo + 30))), (6, .int (nI dy))]) hx hb dX5_sumByStretches_64 hl (by decide) rfl (fun ls hl => ?_)
            refine lv_iload hx hb dX5_sumByStretches_66 (lv_at hl 6 rfl) ?_
            refine lv_istore_n (lv' := [(3, .int (nI dy)), (5, .int (sumD (tot V ag nP h) (dy - 30 * mo) (30 * mo))), (0, .ref (ad 0)), (1, .int (nI h)), (2, .int (nI mo)), (4, .int (nI (30 * mo + 30))), (6, .int (nI dy))]) hx hb dX5_sumByStretches_68 rfl hl (by decide) rfl (fun ls hl => ?_)
            refine lv_iinc (v := (nI (dy + 1))) (lv' := [(6, .int (nI (dy + 1))), (3, .int (nI dy)), (5, .int (sumD (tot V ag nP h) (dy - 30 * mo) (30 * mo))), (0, .ref (ad 0)), (1, .int (nI h)), (2, .int (nI mo)), (4, .int (nI (30 * mo + 30)))]) hx hb dX5_sumByStretches_69 hl (k := 6) rfl (nI_1 dy) (by decide) rfl (fun ls hl => ?_)
            refine lv_goto (tgt := 19) hx hb dX5_sumByStretches_72 (by decide) ?_
            exact ih (dy + 1) dy ((cnt V ag (nI h) b nP).1) ((cnt V ag (nI h) b nP).2.1) ((cnt V ag (nI h) b nP).2.2) ((amt V ag nP h b).1) ((amt V ag nP h b).2.1) ((amt V ag nP h b).2.2.1) ((amt V ag nP h b).2.2.2.1) ((amt V ag nP h b).2.2.2.2) (by omega) (by omega) (by omega) (by omega) (by omega) (by omega) (fun x h1 h2 => by rw [show x = dy by omega]) _ _ _ hW hS (lv_sub hl [3, 4, 5, 1, 6, 2, 0] rfl)
  refine lv_iload_n hx hb dX5_sumByStretches_0 rfl (lv_at hl 2 rfl) ?_
  refine lv_bipush (v := (nI 30)) hx hb dX5_sumByStretches_1 (by decide) ?_
  refine lv_imul hx hb dX5_sumByStretches_3 ?_
  refine b_top (y := nI (30 * mo)) (by rw [pk_mul, Nat.mul_comm]) ?_
  refine lv_istore_n (lv' := [(3, .int (nI (30 * mo))), (0, .ref (ad 0)), (1, .int (nI h)), (2, .int (nI mo))]) hx hb dX5_sumByStretches_4 rfl hl (by decide) rfl (fun ls hl => ?_)
  refine lv_iload_n hx hb dX5_sumByStretches_5 rfl (lv_at hl 0 rfl) ?_
  refine lv_bipush (v := (nI 30)) hx hb dX5_sumByStretches_6 (by decide) ?_
  refine lv_iadd hx hb dX5_sumByStretches_8 ?_
  refine b_top (y := nI (30 * mo + 30)) (nI_add _ _) ?_
  refine lv_istore (lv' := [(4, .int (nI (30 * mo + 30))), (3, .int (nI (30 * mo))), (0, .ref (ad 0)), (1, .int (nI h)), (2, .int (nI mo))]) hx hb dX5_sumByStretches_9 hl (by decide) rfl (fun ls hl => ?_)
  refine lv_iconst (v := 0) hx hb dX5_sumByStretches_11 (by decide) ?_
  refine b_top (y := sumD (tot V ag nP h) (30 * mo - 30 * mo) (30 * mo)) (by rw [Nat.sub_self]; rfl) ?_
  refine lv_istore (lv' := [(5, .int (sumD (tot V ag nP h) (30 * mo - 30 * mo) (30 * mo))), (4, .int (nI (30 * mo + 30))), (3, .int (nI (30 * mo))), (0, .ref (ad 0)), (1, .int (nI h)), (2, .int (nI mo))]) hx hb dX5_sumByStretches_12 hl (by decide) rfl (fun ls hl => ?_)
  refine lv_iload_n hx hb dX5_sumByStretches_14 rfl (lv_at hl 2 rfl) ?_
  refine lv_iconst (v := 1) hx hb dX5_sumByStretches_15 (by decide) ?_
  refine lv_iadd hx hb dX5_sumByStretches_16 ?_
  refine b_top (y := nI (30 * mo + 1)) (nI_1 _) ?_
  refine lv_istore (lv' := [(6, .int (nI (30 * mo + 1))), (5, .int (sumD (tot V ag nP h) (30 * mo - 30 * mo) (30 * mo))), (4, .int (nI (30 * mo + 30))), (3, .int (nI (30 * mo))), (0, .ref (ad 0)), (1, .int (nI h)), (2, .int (nI mo))]) hx hb dX5_sumByStretches_17 hl (by decide) rfl (fun ls hl => ?_)
  exact L_19 32 (30 * mo + 1) (30 * mo) rA rC rI aA aC aH aT aP (by omega) (by omega) (by omega) (by omega) (by omega) (by omega) (fun x h1 h2 => by rw [show x = 30 * mo by omega]) _ _ _ hW hS (lv_sub hl [4, 5, 6, 3, 2, 1, 0] rfl)
set_option maxHeartbeats 4000000 in
set_option maxRecDepth 100000 in
theorem mt_payTo {l : Launch} {D : va_G} {tys : List (ClassId × FieldType)} {ad : Nat → Nat} (hI : aI ad 109) {cI cZ cH cP cT : ClassId} (V T : Nat → Nat → Int32) (ag : Nat → Int32) (nP nH rN : Nat) (nf pn : Int32) (sp sk : Int64) (py pd : Nat → Nat → Int32) (so en : Nat → Int32) (rA rC rI aA aC aH aT aP : Int32) (h mo : Nat) (hti : tys[0]? = some (cI, .int)) (htz : cZ = cI) (hth : tys[2]? = some (cH, .object RX1)) (htp : tys[3]? = some (cP, .object RX2)) (htt : tys[4]? = some (cT, .object RX4)) (hP8 : nP ≤ 8) (hh : h < 4) (hmo : mo < 12) (hcon : ∀ x, 0 < x → x < 360 → so x ≤ 0 → (tot V ag nP h) x = (tot V ag nP h) (x - 1))  (sz : Nat) : Met l yX5_payTo (Cond.code yX5_payTo cX5_payTo 7 (some .int) :: wsL_law) (rmk 5 0 0) (va_Pc [.ref (ad 0), .int (nI h), .int (nI mo)] (PC D tys ad 109 (cE cI cZ cH cP cT ad V T ag nP nH rN nf pn sp sk py pd so en rA rC rI aA aC aH aT aP) sz)) (Qi D ad 109 (fun r E1 => r = (if dsum (pd h) (due V ag nP h) mo ≤ 0 then (due V ag nP h) mo - dsum (pd h) (due V ag nP h) mo else (due V ag nP h) mo - imin (dsum (pd h) (due V ag nP h) mo) ((due V ag nP h) mo / 5)) ∧ ∃ en1 rA1 rC1 rI1 aA1 aC1 aH1 aT1 aP1, E1 = cE cI cZ cH cP cT ad V T ag nP nH rN nf pn sp (if dsum (pd h) (due V ag nP h) mo ≤ 0 then sk else sk + (imin (dsum (pd h) (due V ag nP h) mo) ((due V ag nP h) mo / 5)).toInt64) (upd2 py h (upd (py h) mo (if dsum (pd h) (due V ag nP h) mo ≤ 0 then (due V ag nP h) mo - dsum (pd h) (due V ag nP h) mo else (due V ag nP h) mo - imin (dsum (pd h) (due V ag nP h) mo) ((due V ag nP h) mo / 5)))) (upd2 pd h (if dsum (pd h) (due V ag nP h) mo ≤ 0 then sett (pd h) (due V ag nP h) (mo + 1) else sipF (pd h) (due V ag nP h) mo (imin (dsum (pd h) (due V ag nP h) mo) ((due V ag nP h) mo / 5)))) so en1 rA1 rC1 rI1 aA1 aC1 aH1 aT1 aP1) (cA ad 109 sz)) 0 0 (cA ad 109 sz) := by
  refine cm_of (own := RX5) (Qc := Qi D ad 109 (fun r E1 => r = (if dsum (pd h) (due V ag nP h) mo ≤ 0 then (due V ag nP h) mo - dsum (pd h) (due V ag nP h) mo else (due V ag nP h) mo - imin (dsum (pd h) (due V ag nP h) mo) ((due V ag nP h) mo / 5)) ∧ ∃ en1 rA1 rC1 rI1 aA1 aC1 aH1 aT1 aP1, E1 = cE cI cZ cH cP cT ad V T ag nP nH rN nf pn sp (if dsum (pd h) (due V ag nP h) mo ≤ 0 then sk else sk + (imin (dsum (pd h) (due V ag nP h) mo) ((due V ag nP h) mo / 5)).toInt64) (upd2 py h (upd (py h) mo (if dsum (pd h) (due V ag nP h) mo ≤ 0 then (due V ag nP h) mo - dsum (pd h) (due V ag nP h) mo else (due V ag nP h) mo - imin (dsum (pd h) (due V ag nP h) mo) ((due V ag nP h) mo / 5)))) (upd2 pd h (if dsum (pd h) (due V ag nP h) mo ≤ 0 then sett (pd h) (due V ag nP h) (mo + 1) else sipF (pd h) (due V ag nP h) mo (imin (dsum (pd h) (due V ag nP h) mo) ((due V ag nP h) mo / 5)))) so en1 rA1 rC1 rI1 aA1 aC1 aH1 aT1 aP1)) rfl (by decide +kernel) (Nat.le_of_ble_eq_true rfl) ?_ sz
  intro p e s m args below meth c ls Q B hT hX hW hr hlk hnm hl hS hA hQ
  have hx := B.1
  have hb := B.2.1
  have hl : lv_has ls 7 [(0, .ref (ad 0)), (1, .int (nI h)), (2, .int (nI mo))] := hl
  have L_10 : ∀ (n_ : Nat) (i : Nat) (rA1 : Int32) (rC1 : Int32) (rI1 : Int32) (aA1 : Int32) (aC1 : Int32) (aH1 : Int32) (aT1 : Int32) (aP1 : Int32), (hi : i ≤ mo + 1) → (hn : mo + 1 < n_ + i) → ∀ (H : Heap) (locs : List Loc) (ls : Array Slot), hH D ad 109 (cE cI cZ cH cP cT ad V T ag nP nH rN nf pn sp sk py pd so (sett en (due V ag nP h) i) rA1 rC1 rI1 aA1 aC1 aH1 aT1 aP1) H → va_S (cA ad 109 s.heap.size) s.heap H locs → lv_has ls 7 [(0, .ref (ad 0)), (1, .int (nI h)), (2, .int (nI mo)), (3, .ref (ad (16 + h))), (4, .int (nI i))] → W p l e (rmk 5 0 0) s m args below meth c H locs 0 0 Q (F0 m 10 ls []) := by
    intro n_
    induction n_ with
    | zero =>
      intro i rA1 rC1 rI1 aA1 aC1 aH1 aT1 aP1 hi hn
      omega
    | succ n_ ih =>
      intro i rA1 rC1 rI1 aA1 aC1 aH1 aT1 aP1 hi hn H locs ls hW hS hl
      refine lv_iload hx hb dX5_payTo_10 (lv_at hl 4 rfl) ?_
      refine lv_iload_n hx hb dX5_payTo_12 rfl (lv_at hl 2 rfl) ?_
      refine lv_icmp_gt (tgt := 36) hx hb dX5_payTo_13 (by decide) (fun c_13 => ?_) (fun c_13 => ?_)
      · skip
        have qi : i = mo + 1 := Nat.le_antisymm hi ((nI_ltI (by omega) (by omega)).mp c_13)
        subst qi
        have es : sett en (due V ag nP h) (mo + 1) mo = due V ag nP h mo := if_pos (by omega)
        refine lv_aload_n hx hb dX5_payTo_36 rfl (lv_at hl 3 rfl) ?_
        refine lv_iload_n hx hb dX5_payTo_37 rfl (lv_at hl 2 rfl) ?_
        refine lv_aload_n hx hb dX5_payTo_38 rfl (lv_at hl 0 rfl) ?_
        refine gfX5_45 B hT hW (by decide) cE_0 rfl dX5_payTo_39 ?_
        refine b_ci (b_runV B hT hX hW hS (As := [.int (nI mo), .ref (ad 7)]) (rest := []) (fun sz => mt_debtBefore hI (16 + h) (20 + (16 + h)) (101 + h) (105 + h) 7 (pd h) (sett en (due V ag nP h) (mo + 1)) mo hti (by omega) (by omega) (by decide) (cE_hh (by omega)) cE_pd cE_7 (by omega) sz) (cwX5_268 B.2.2.2.2.1 ⟨Nat.le_of_ble_eq_true rfl, Nat.le_of_ble_eq_true rfl⟩) (b_recv B hW (by omega) (cE_hh (by omega)) rfl) rfl hl.1 (Nat.le_of_ble_eq_true rfl) dX5_payTo_42 ⟨Nat.le_of_ble_eq_true rfl, Nat.le_of_ble_eq_true rfl⟩) hS (fun r_42 E1 H locs hp_42 hW hS => ?_)
        obtain ⟨hr_, hE_⟩ := hp_42
        subst hr_
        have hW := hW.eq hE_
        have eD : ∀ j, j < mo + 1 → sett en (due V ag nP h) (mo + 1) j = (due V ag nP h) j := fun j hj => if_pos hj
        refine b_top (y := dsum (pd h) (due V ag nP h) mo) (dsum_congr (fun j hj => eD j (by omega))) ?_
        refine lv_istore (lv' := [(4, .int (dsum (pd h) (due V ag nP h) mo)), (0, .ref (ad 0)), (1, .int (nI h)), (2, .int (nI mo)), (3, .ref (ad (16 + h)))]) hx hb dX5_payTo_45 hl (by decide) rfl (fun ls hl => ?_)
        refine lv_iload hx hb dX5_payTo_47 (lv_at hl 0 rfl) ?_
        refine lv_if_gt (tgt := 75) hx hb dX5_payTo_49 (by decide) (fun c_49 => ?_) (fun c_49 => ?_)
        · skip
          refine lv_iload hx hb dX5_payTo_75 (lv_at hl 0 rfl) ?_
          refine lv_aload_n hx hb dX5_payTo_77 rfl (lv_at hl 1 rfl) ?_
          refine gfX5_45 B hT hW (by decide) cE_0 rfl dX5_payTo_78 ?_
          refine lv_iload_n hx hb dX5_payTo_81 rfl (lv_at hl 3 rfl) ?_
          refine b_iald B hW hti (j := mo) (by decide) cE_7 (vp_in_nI (by omega) (Nat.le_of_ble_eq_true rfl)) (nI_clamp (by omega)) dX5_payTo_82 ?_
          refine b_top (y := (due V ag nP h) mo) es ?_
          refine lv_iconst (v := 5) hx hb dX5_payTo_83 (by decide) ?_
          refine lv_idiv hx hb dX5_payTo_84 (by decide) ?_
          refine va_mmin hx hb (by rw [B.2.2.1]; exact hl.1.symm) B.2.2.2.1 (B.2.2.2.2.1 _ (r8_in _ (List.mem_of_getElem? (i := 16) rfl))) (B.2.2.2.2.1 _ (r8_in _ (List.mem_of_getElem? (i := 17) rfl))) (B.2.2.2.2.1 _ (r8_in _ (List.mem_of_getElem? (i := 18) rfl))) (B.2.2.2.2.1 _ (r8_in _ (List.mem_of_getElem? (i := 19) rfl))) (Nat.le_of_ble_eq_true rfl) (Nat.le_of_ble_eq_true rfl) (Nat.le_of_ble_eq_true rfl) (Nat.le_of_ble_eq_true rfl) dX5_payTo_85 ?_
          refine b_top (y := imin (dsum (pd h) (due V ag nP h) mo) (((due V ag nP h) mo) / 5)) rfl ?_
          refine lv_istore (lv' := [(6, .int (imin (dsum (pd h) (due V ag nP h) mo) (((due V ag nP h) mo) / 5))), (4, .int (dsum (pd h) (due V ag nP h) mo)), (0, .ref (ad 0)), (1, .int (nI h)), (2, .int (nI mo)), (3, .ref (ad (16 + h)))]) hx hb dX5_payTo_88 hl (by decide) rfl (fun ls hl => ?_)
          refine lv_aload_n hx hb dX5_payTo_90 rfl (lv_at hl 2 rfl) ?_
          refine gfX5_45 B hT hW (by decide) cE_0 rfl dX5_payTo_91 ?_
          refine lv_iload_n hx hb dX5_payTo_94 rfl (lv_at hl 4 rfl) ?_
          refine b_iald B hW hti (j := mo) (by decide) cE_7 (vp_in_nI (by omega) (Nat.le_of_ble_eq_true rfl)) (nI_clamp (by omega)) dX5_payTo_95 ?_
          refine b_top (y := (due V ag nP h) mo) es ?_
          refine lv_iload hx hb dX5_payTo_96 (lv_at hl 0 rfl) ?_
          refine lv_isub hx hb dX5_payTo_98 ?_
          refine lv_istore (lv' := [(5, .int (((due V ag nP h) mo) - (imin (dsum (pd h) (due V ag nP h) mo) (((due V ag nP h) mo) / 5)))), (6, .int (imin (dsum (pd h) (due V ag nP h) mo) (((due V ag nP h) mo) / 5))), (4, .int (dsum (pd h) (due V ag nP h) mo)), (0, .ref (ad 0)), (1, .int (nI h)), (2, .int (nI mo)), (3, .ref (ad (16 + h)))]) hx hb dX5_payTo_99 hl (by decide) rfl (fun ls hl => ?_)
          refine lv_aload_n hx hb dX5_payTo_101 rfl (lv_at hl 6 rfl) ?_
          refine lv_iload_n hx hb dX5_payTo_102 rfl (lv_at hl 5 rfl) ?_
          refine lv_aload_n hx hb dX5_payTo_103 rfl (lv_at hl 3 rfl) ?_
          refine gfX5_45 B hT hW (by decide) cE_0 rfl dX5_payTo_104 ?_
          refine lv_iload hx hb dX5_payTo_107 (lv_at hl 1 rfl) ?_
          refine b_cv (b_runV B hT hX hW hS (As := [.int (nI mo), .ref (ad 7), .int (imin (dsum (pd h) (due V ag nP h) mo) (((due V ag nP h) mo) / 5))]) (rest := []) (fun sz => mt_settleInPart hI (16 + h) (20 + (16 + h)) (101 + h) (105 + h) 7 (pd h) (sett en (due V ag nP h) (mo + 1)) mo (imin (dsum (pd h) (due V ag nP h) mo) (((due V ag nP h) mo) / 5)) hti (by omega) (by omega) (by decide) (cE_hh (by omega)) cE_pd cE_7 (by omega) (by omega) (by omega) sz) (cwX5_276 B.2.2.2.2.1 ⟨Nat.le_of_ble_eq_true rfl, Nat.le_of_ble_eq_true rfl⟩) (b_recv B hW (by omega) (cE_hh (by omega)) rfl) rfl hl.1 (Nat.le_of_ble_eq_true rfl) dX5_payTo_109 ⟨Nat.le_of_ble_eq_true rfl, Nat.le_of_ble_eq_true rfl⟩) hS (fun E1 H locs hp_109 hW hS => ?_)
          have hW := hW.eq hp_109
          have hW := hW.eq (E' := cE cI cZ cH cP cT ad V T ag nP nH rN nf pn sp sk py (upd2 pd h (sipF (pd h) (sett en (due V ag nP h) (mo + 1)) mo (imin (dsum (pd h) (due V ag nP h) mo) (((due V ag nP h) mo) / 5)))) so (sett en (due V ag nP h) (mo + 1)) rA1 rC1 rI1 aA1 aC1 aH1 aT1 aP1) (cE_uD _)
          have hW := hW.eq (E' := cE cI cZ cH cP cT ad V T ag nP nH rN nf pn sp sk py (upd2 pd h (sipF (pd h) (due V ag nP h) mo (imin (dsum (pd h) (due V ag nP h) mo) ((due V ag nP h) mo / 5)))) so (sett en (due V ag nP h) (mo + 1)) rA1 rC1 rI1 aA1 aC1 aH1 aT1 aP1) (by rw [sipF_congr (fun j hj => eD j (by omega))])
          refine lv_aload_n hx hb dX5_payTo_112 rfl (lv_at hl 3 rfl) ?_
          refine lv_dup hx hb dX5_payTo_113 rfl ?_
          refine gfX5_164 B hT hW (by decide) cE_0 rfl dX5_payTo_114 ?_
          refine lv_iload hx hb dX5_payTo_117 (lv_at hl 1 rfl) ?_
          refine lv_i2l hx hb dX5_payTo_119 rfl ?_
          refine lv_ladd hx hb dX5_payTo_120 ?_
          refine pfX5_164 B hT hI hA hW hS (by decide) cE_0 (Nat.le_of_ble_eq_true rfl) rfl (by first | rfl | decide) dX5_payTo_121 (fun H locs hW hS => ?_)
          have hW := hW.eq (E' := cE cI cZ cH cP cT ad V T ag nP nH rN nf pn sp (sk + ((imin (dsum (pd h) (due V ag nP h) mo) (((due V ag nP h) mo) / 5)).toInt64)) py (upd2 pd h (sipF (pd h) (due V ag nP h) mo (imin (dsum (pd h) (due V ag nP h) mo) ((due V ag nP h) mo / 5)))) so (sett en (due V ag nP h) (mo + 1)) rA1 rC1 rI1 aA1 aC1 aH1 aT1 aP1) (cE_u0 _ _ _ _ _ _ _)
          refine lv_aload_n hx hb dX5_payTo_124 rfl (lv_at hl 6 rfl) ?_
          refine gfX5_155 B hT hW (by omega) (cE_hh (by omega)) rfl dX5_payTo_125 ?_
          refine lv_iload_n hx hb dX5_payTo_128 rfl (lv_at hl 5 rfl) ?_
          refine lv_iload hx hb dX5_payTo_129 (lv_at hl 0 rfl) ?_
          refine b_iast B hI hA hW hS hti (j := mo) (by omega) (cE_py (by omega)) (vp_in_nI (by omega) (Nat.le_of_ble_eq_true rfl)) (nI_clamp (by omega)) dX5_payTo_131 (fun H locs hW hS => ?_)
          have hW := hW.eq (E' := cE cI cZ cH cP cT ad V T ag nP nH rN nf pn sp (sk + ((imin (dsum (pd h) (due V ag nP h) mo) (((due V ag nP h) mo) / 5)).toInt64)) (upd2 py h (upd (py h) mo (((due V ag nP h) mo) - (imin (dsum (pd h) (due V ag nP h) mo) (((due V ag nP h) mo) / 5))))) (upd2 pd h (sipF (pd h) (due V ag nP h) mo (imin (dsum (pd h) (due V ag nP h) mo) ((due V ag nP h) mo / 5)))) so (sett en (due V ag nP h) (mo + 1)) rA1 rC1 rI1 aA1 aC1 aH1 aT1 aP1) (cE_uY (by omega) _)
          refine lv_iload hx hb dX5_payTo_132 (lv_at hl 0 rfl) ?_
          exact e_i hQ B hr hlk hS hW dX5_payTo_134 (Nat.le_of_ble_eq_true rfl) (Nat.le_of_ble_eq_true rfl) (⟨by rw [if_neg (Int32.not_le.mpr c_49)], _, _, _, _, _, _, _, _, _, by rw [if_neg (Int32.not_le.mpr c_49), if_neg (Int32.not_le.mpr c_49), if_neg (Int32.not_le.mpr c_49)]⟩)
        · skip
          refine lv_aload_n hx hb dX5_payTo_52 rfl (lv_at hl 1 rfl) ?_
          refine gfX5_45 B hT hW (by decide) cE_0 rfl dX5_payTo_53 ?_
          refine lv_iload_n hx hb dX5_payTo_56 rfl (lv_at hl 3 rfl) ?_
          refine b_iald B hW hti (j := mo) (by decide) cE_7 (vp_in_nI (by omega) (Nat.le_of_ble_eq_true rfl)) (nI_clamp (by omega)) dX5_payTo_57 ?_
          refine b_top (y := (due V ag nP h) mo) es ?_
          refine lv_iload hx hb dX5_payTo_58 (lv_at hl 0 rfl) ?_
          refine lv_isub hx hb dX5_payTo_60 ?_
          refine lv_istore (lv' := [(5, .int (((due V ag nP h) mo) - (dsum (pd h) (due V ag nP h) mo))), (4, .int (dsum (pd h) (due V ag nP h) mo)), (0, .ref (ad 0)), (1, .int (nI h)), (2, .int (nI mo)), (3, .ref (ad (16 + h)))]) hx hb dX5_payTo_61 hl (by decide) rfl (fun ls hl => ?_)
          refine lv_aload_n hx hb dX5_payTo_63 rfl (lv_at hl 5 rfl) ?_
          refine lv_iload_n hx hb dX5_payTo_64 rfl (lv_at hl 4 rfl) ?_
          refine lv_aload_n hx hb dX5_payTo_65 rfl (lv_at hl 2 rfl) ?_
          refine gfX5_45 B hT hW (by decide) cE_0 rfl dX5_payTo_66 ?_
          refine b_cv (b_runV B hT hX hW hS (As := [.int (nI mo), .ref (ad 7)]) (rest := []) (fun sz => mt_settle hI (16 + h) (20 + (16 + h)) (101 + h) (105 + h) 7 (pd h) (sett en (due V ag nP h) (mo + 1)) mo hti (by omega) (by omega) (by decide) (cE_hh (by omega)) cE_pd cE_7 (by omega) (by omega) (by omega) sz) (cwX5_272 B.2.2.2.2.1 ⟨Nat.le_of_ble_eq_true rfl, Nat.le_of_ble_eq_true rfl⟩) (b_recv B hW (by omega) (cE_hh (by omega)) rfl) rfl hl.1 (Nat.le_of_ble_eq_true rfl) dX5_payTo_69 ⟨Nat.le_of_ble_eq_true rfl, Nat.le_of_ble_eq_true rfl⟩) hS (fun E1 H locs hp_69 hW hS => ?_)
          have hW := hW.eq hp_69
          have hW := hW.eq (E' := cE cI cZ cH cP cT ad V T ag nP nH rN nf pn sp sk py (upd2 pd h (sett (pd h) (sett en (due V ag nP h) (mo + 1)) (mo + 1))) so (sett en (due V ag nP h) (mo + 1)) rA1 rC1 rI1 aA1 aC1 aH1 aT1 aP1) (cE_uD _)
          have hW := hW.eq (E' := cE cI cZ cH cP cT ad V T ag nP nH rN nf pn sp sk py (upd2 pd h (sett (pd h) (due V ag nP h) (mo + 1))) so (sett en (due V ag nP h) (mo + 1)) rA1 rC1 rI1 aA1 aC1 aH1 aT1 aP1) (by rw [sett_congr eD])
          refine lv_goto (tgt := 124) hx hb dX5_payTo_72 (by decide) ?_
          refine lv_aload_n hx hb dX5_payTo_124 rfl (lv_at hl 5 rfl) ?_
          refine gfX5_155 B hT hW (by omega) (cE_hh (by omega)) rfl dX5_payTo_125 ?_
          refine lv_iload_n hx hb dX5_payTo_128 rfl (lv_at hl 4 rfl) ?_
          refine lv_iload hx hb dX5_payTo_129 (lv_at hl 0 rfl) ?_
          refine b_iast B hI hA hW hS hti (j := mo) (by omega) (cE_py (by omega)) (vp_in_nI (by omega) (Nat.le_of_ble_eq_true rfl)) (nI_clamp (by omega)) dX5_payTo_131 (fun H locs hW hS => ?_)
          have hW := hW.eq (E' := cE cI cZ cH cP cT ad V T ag nP nH rN nf pn sp sk (upd2 py h (upd (py h) mo (((due V ag nP h) mo) - (dsum (pd h) (due V ag nP h) mo)))) (upd2 pd h (sett (pd h) (due V ag nP h) (mo + 1))) so (sett en (due V ag nP h) (mo + 1)) rA1 rC1 rI1 aA1 aC1 aH1 aT1 aP1) (cE_uY (by omega) _)
          refine lv_iload hx hb dX5_payTo_132 (lv_at hl 0 rfl) ?_
          exact e_i hQ B hr hlk hS hW dX5_payTo_134 (Nat.le_of_ble_eq_true rfl) (Nat.le_of_ble_eq_true rfl) (⟨by rw [if_pos (Int32.not_lt.mp c_49)], _, _, _, _, _, _, _, _, _, by rw [if_pos (Int32.not_lt.mp c_49), if_pos (Int32.not_lt.mp c_49), if_pos (Int32.not_lt.mp c_49)]⟩)
      · skip
        have q13 : i ≤ mo := Nat.le_of_not_lt (fun q => c_13 ((nI_ltI (by omega) (by omega)).mpr q))
        refine lv_aload_n hx hb dX5_payTo_16 rfl (lv_at hl 0 rfl) ?_
        refine gfX5_45 B hT hW (by decide) cE_0 rfl dX5_payTo_17 ?_
        refine lv_iload hx hb dX5_payTo_20 (lv_at hl 4 rfl) ?_
        refine lv_aload_n hx hb dX5_payTo_22 rfl (lv_at hl 0 rfl) ?_
        refine lv_iload_n hx hb dX5_payTo_23 rfl (lv_at hl 1 rfl) ?_
        refine lv_iload hx hb dX5_payTo_24 (lv_at hl 4 rfl) ?_
        refine b_ci (b_runV B hT hX hW hS (As := [.int (nI h), .int (nI i)]) (rest := [.int (nI i), .ref (ad 7)]) (fun sz => mt_sumBS hI V T ag nP nH rN nf pn sp sk py pd so (sett en (due V ag nP h) i) rA1 rC1 rI1 aA1 aC1 aH1 aT1 aP1 h i hti htz hth htp htt hP8 (by omega) (by omega) hcon sz) (cwX5_161 B.2.2.2.2.1 ⟨Nat.le_of_ble_eq_true rfl, Nat.le_of_ble_eq_true rfl⟩) (b_recv B hW (by decide) cE_0 rfl) rfl hl.1 (Nat.le_of_ble_eq_true rfl) dX5_payTo_26 ⟨Nat.le_of_ble_eq_true rfl, Nat.le_of_ble_eq_true rfl⟩) hS (fun r_26 E1 H locs hp_26 hW hS => ?_)
        obtain ⟨hr_, jA_26, jB_26, jC_26, jD_26, jE_26, jF_26, jG_26, jH_26, hE_⟩ := hp_26
        subst hr_
        have hW := hW.eq hE_
        refine b_iast B hI hA hW hS hti (j := i) (by decide) cE_7 (vp_in_nI (by omega) (Nat.le_of_ble_eq_true rfl)) (nI_clamp (by omega)) dX5_payTo_29 (fun H locs hW hS => ?_)
        have hW := hW.eq (E' := cE cI cZ cH cP cT ad V T ag nP nH rN nf pn sp sk py pd so (upd (sett en (due V ag nP h) i) i (due V ag nP h i)) jA_26 jB_26 jC_26 jD_26 jE_26 jF_26 jG_26 jH_26) (cE_u7 _)
        refine lv_iinc (v := (nI (i + 1))) (lv' := [(4, .int (nI (i + 1))), (0, .ref (ad 0)), (1, .int (nI h)), (2, .int (nI mo)), (3, .ref (ad (16 + h)))]) hx hb dX5_payTo_30 hl (k := 4) rfl (nI_1 i) (by decide) rfl (fun ls hl => ?_)
        refine lv_goto (tgt := 10) hx hb dX5_payTo_33 (by decide) ?_
        exact ih (i + 1) jA_26 jB_26 jC_26 jD_26 jE_26 jF_26 jG_26 jH_26 (by omega) (by omega) _ _ _ (hW.eq (by rw [sett_s])) hS (lv_sub hl [1, 2, 3, 4, 0] rfl)
  refine lv_aload_n hx hb dX5_payTo_0 rfl (lv_at hl 0 rfl) ?_
  refine gfX5_17 B hT hW (by decide) cE_0 rfl dX5_payTo_1 ?_
  refine lv_iload_n hx hb dX5_payTo_4 rfl (lv_at hl 1 rfl) ?_
  refine b_aald B hW 2 hth (j := h) (by decide) cE_2 (vp_in_nI (by omega) (Nat.le_of_ble_eq_true rfl)) (nI_clamp (by omega)) rfl dX5_payTo_5 ?_
  refine lv_astore_n (lv' := [(3, .ref (ad (16 + h))), (0, .ref (ad 0)), (1, .int (nI h)), (2, .int (nI mo))]) hx hb dX5_payTo_6 rfl hl (by decide) rfl (fun ls hl => ?_)
  refine lv_iconst (v := 0) hx hb dX5_payTo_7 (by decide) ?_
  refine lv_istore (lv' := [(4, .int 0), (3, .ref (ad (16 + h))), (0, .ref (ad 0)), (1, .int (nI h)), (2, .int (nI mo))]) hx hb dX5_payTo_8 hl (by decide) rfl (fun ls hl => ?_)
  exact L_10 (mo + 2) 0 rA rC rI aA aC aH aT aP (by omega) (by omega) _ _ _ (hW.eq (by rw [sett_0])) hS (lv_sub hl [2, 3, 4, 1, 0] rfl)
