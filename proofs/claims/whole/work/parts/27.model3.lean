theorem amt_none {V T : Nat → Nat → Int32} {ag : Nat → Int32} {nP nH rN : Nat} {so : Nat → Int32} {pd : Nat → Nat → Int32} {h d : Nat} (hi : Inv V T ag nP nH rN so pd) (hd : d < 360) (hz : (cnt V ag (nI h) d nP).1 = 0) : tap5 ((cnt V ag (nI h) d nP).1 * V (20 + 0) d) 0 0 ((cnt V ag (nI h) d nP).2.2 - V (20 + 4) d) (V (20 + 5) d) (V (20 + 6) d) = amt V ag nP h d := by
  obtain ⟨⟨hP8, _, _⟩, _, _, _, h5, h6, _⟩ := hi
  obtain ⟨_, _, i⟩ := cnt_bd (V := V) (ag := ag) (h := nI h) (d := d) (fun i hi => h5 (8 + i) (by omega) (by omega) d hd) nP hP8
  have r4 : bd (V (20 + 4) d) 999 := h6 4 (by decide) d hd
  have r5 : bd (V (20 + 5) d) 100 := h6 5 (by decide) d hd
  have r6 : bd (V (20 + 6) d) 999 := h6 6 (by decide) d hd
  unfold amt amtC
  have i8 := i.mono (b := 7992) (by omega)
  rw [hz, Int32.zero_mul, mod_none r4.1 r6.1 i8.1 r5.1 r5.2 i8.2, if_pos rfl]
theorem amt_some {V T : Nat → Nat → Int32} {ag : Nat → Int32} {nP nH rN : Nat} {so : Nat → Int32} {pd : Nat → Nat → Int32} {h d : Nat} {c : Int32} (hz : ¬ (cnt V ag (nI h) d nP).1 = 0) (hc : c = if (cnt V ag (nI h) d nP).2.1 ≤ 0 then (cnt V ag (nI h) d nP).2.1 * V (20 + 1) d else (cnt V ag (nI h) d nP).2.1 * V (20 + 1) d + V (20 + 2) d) : tap5 ((cnt V ag (nI h) d nP).1 * V (20 + 0) d) c (imin (V (16 + h) d) (V (20 + 3) d)) ((cnt V ag (nI h) d nP).2.2 - V (20 + 4) d) (V (20 + 5) d) (V (20 + 6) d) = amt V ag nP h d := by
  unfold amt amtC
  rw [if_neg hz, hc]
theorem amt_nn {V T : Nat → Nat → Int32} {ag : Nat → Int32} {nP nH rN : Nat} {so : Nat → Int32} {pd : Nat → Nat → Int32} {h d : Nat} (hi : Inv V T ag nP nH rN so pd) (hh : h < 4) (hd : d < 360) : 0 ≤ ((cnt V ag (nI h) d nP).1 * V (20 + 0) d).toInt ∧ 0 ≤ (imin (V (16 + h) d) (V (20 + 3) d)).toInt ∧ 0 ≤ (cnt V ag (nI h) d nP).2.2.toInt ∧ 0 ≤ (V (20 + 4) d).toInt ∧ 0 ≤ (V (20 + 6) d).toInt ∧ ¬ V (20 + 6) d < 0 := by
  obtain ⟨⟨hP8, _, _⟩, _, _, _, h5, h6, _⟩ := hi
  obtain ⟨g, _, i⟩ := cnt_bd (V := V) (ag := ag) (h := nI h) (d := d) (fun i hi => h5 (8 + i) (by omega) (by omega) d hd) nP hP8
  have r0 : bd (V (20 + 0) d) 99 := h6 0 (by decide) d hd
  have r3 : bd (V (20 + 3) d) 99 := h6 3 (by decide) d hd
  have r4 : bd (V (20 + 4) d) 999 := h6 4 (by decide) d hd
  have r6 : bd (V (20 + 6) d) 999 := h6 6 (by decide) d hd
  have re : bd (V (16 + h) d) 999 := h5 (16 + h) (by omega) (by omega) d hd
  have b1 := bd_mul (g.mono (b := 8) (by omega)) r0 (by omega)
  have b4 := i_min (x := V (16 + h) d) (y := V (20 + 3) d)
  obtain ⟨x1, x2⟩ := id re
  obtain ⟨x3, x4⟩ := id r3
  refine ⟨b1.1, by omega, i.1, r4.1, r6.1, fun q => ?_⟩
  have := (fa_lt _ _).mp q
  rw [i32_0] at this
  have := r6.1
  omega
set_option maxHeartbeats 4000000 in
set_option maxRecDepth 100000 in
theorem mm_amounts {l : Launch} {D : va_G} {tys : List (ClassId × FieldType)} {ad : Nat → Nat} (hI : aI ad 13) {cI cZ : ClassId} (th : Int32) (nP nH rN : Nat) (nf pn : Int32) (sp sk : Int64) (ag : Nat → Int32) (V T : Nat → Nat → Int32) (pd py : Nat → Nat → Int32) (du : Nat → Int32) (mA mC mH mG mS mI mT mP : Int32) (h d : Nat) (so : Nat → Int32) (hti : tys[0]? = some (cI, .int)) (htz : tys[1]? = some (cZ, .boolean)) (hInv : Inv V T ag nP nH rN so pd) (hh : h < 4) (hd : d < 360) (sz : Nat) : Met l yX6_amounts (Cond.code yX6_amounts cX6_amounts 4 none :: wsL_law) (rmk 2 0 0) (va_Pc [.ref (ad 0), .int (nI h), .int (nI d)] (PC D tys ad 13 (mE cI cZ ad th nP nH rN nf pn sp sk ag (RV V) (RV T) (FL pd) (FL py) du mA mC mH mG mS mI mT mP) sz)) (Qv D ad 13 (fun E1 => E1 = mE cI cZ ad th nP nH rN nf pn sp sk ag (RV V) (RV T) (FL pd) (FL py) du ((amt V ag nP h d).1) ((amt V ag nP h d).2.1) ((amt V ag nP h d).2.2.1) ((cnt V ag (nI h) d nP).1) ((cnt V ag (nI h) d nP).2.1) ((cnt V ag (nI h) d nP).2.2) ((amt V ag nP h d).2.2.2.1) ((amt V ag nP h d).2.2.2.2)) (cA ad 13 sz)) 0 0 (cA ad 13 sz) := by
  refine cm_of (own := RX6) (Qc := Qv D ad 13 (fun E1 => E1 = mE cI cZ ad th nP nH rN nf pn sp sk ag (RV V) (RV T) (FL pd) (FL py) du ((amt V ag nP h d).1) ((amt V ag nP h d).2.1) ((amt V ag nP h d).2.2.1) ((cnt V ag (nI h) d nP).1) ((cnt V ag (nI h) d nP).2.1) ((cnt V ag (nI h) d nP).2.2) ((amt V ag nP h d).2.2.2.1) ((amt V ag nP h d).2.2.2.2))) rfl (by decide +kernel) (Nat.le_of_ble_eq_true rfl) ?_ sz
  intro p e s m args below meth c ls Q B hT hX hW hr hlk hnm hl hS hA hQ
  have hx := B.1
  have hb := B.2.1
  have hl : lv_has ls 4 [(0, .ref (ad 0)), (1, .int (nI h)), (2, .int (nI d))] := hl
  have hP8 := hInv.1.1
  have nn := amt_nn (h := h) hInv hh hd
  have hcap := nn.2.2.2.2.2
  refine lv_aload_n hx hb dX6_amounts_0 rfl (lv_at hl 0 rfl) ?_
  refine lv_iload_n hx hb dX6_amounts_1 rfl (lv_at hl 1 rfl) ?_
  refine lv_iload_n hx hb dX6_amounts_2 rfl (lv_at hl 2 rfl) ?_
  refine b_cv (b_runV B hT hX hW hS (As := [.int (nI h), .int (nI d)]) (rest := []) (fun sz => mm_counts hI th nP nH rN nf pn sp sk ag V T pd py du mA mC mH mG mS mI mT mP h d hti htz hP8 (by omega) sz) (cwX6_131 B.2.2.2.2.1 ⟨Nat.le_of_ble_eq_true rfl, Nat.le_of_ble_eq_true rfl⟩) (b_recv B hW (by decide) mE_0 rfl) rfl hl.1 (Nat.le_of_ble_eq_true rfl) dX6_amounts_3 ⟨Nat.le_of_ble_eq_true rfl, Nat.le_of_ble_eq_true rfl⟩) hS (fun E1 H locs hp_3 hW hS => ?_)
  have hW := hW.eq hp_3
  refine lv_aload_n hx hb dX6_amounts_6 rfl (lv_at hl 0 rfl) ?_
  refine gfX6_99 B hT hW (by decide) mE_0 rfl dX6_amounts_7 ?_
  refine lv_if_ne (tgt := 17) hx hb dX6_amounts_10 (by decide) (fun c_10 => ?_) (fun c_10 => ?_)
  · skip
    refine lv_iconst (v := 0) hx hb dX6_amounts_17 (by decide) ?_
    refine lv_istore_n (lv' := [(3, .int 0), (0, .ref (ad 0)), (1, .int (nI h)), (2, .int (nI d))]) hx hb dX6_amounts_18 rfl hl (by decide) rfl (fun ls hl => ?_)
    refine lv_aload_n hx hb dX6_amounts_19 rfl (lv_at hl 1 rfl) ?_
    refine lv_aload_n hx hb dX6_amounts_20 rfl (lv_at hl 1 rfl) ?_
    refine gfX6_99 B hT hW (by decide) mE_0 rfl dX6_amounts_21 ?_
    refine lv_aload_n hx hb dX6_amounts_24 rfl (lv_at hl 1 rfl) ?_
    refine lv_iconst (v := (nI 0)) hx hb dX6_amounts_25 (by decide) ?_
    refine lv_iload_n hx hb dX6_amounts_26 rfl (lv_at hl 3 rfl) ?_
    refine b_ci (b_runV B hT hX hW hS (As := [.int (nI 0), .int (nI d)]) (rest := [.int ((cnt V ag (nI h) d nP).1), .ref (ad 0)]) (fun sz => mm_at hI th nP nH rN nf pn sp sk ag V T pd py du mA mC mH ((cnt V ag (nI h) d nP).1) ((cnt V ag (nI h) d nP).2.1) ((cnt V ag (nI h) d nP).2.2) mT mP 0 d hti htz (by omega) (by omega) sz) (cwX6_108 B.2.2.2.2.1 ⟨Nat.le_of_ble_eq_true rfl, Nat.le_of_ble_eq_true rfl⟩) (b_recv B hW (by decide) mE_0 rfl) rfl hl.1 (Nat.le_of_ble_eq_true rfl) dX6_amounts_27 ⟨Nat.le_of_ble_eq_true rfl, Nat.le_of_ble_eq_true rfl⟩) hS (fun r_27 E1 H locs hp_27 hW hS => ?_)
    obtain ⟨hr_, hE_⟩ := hp_27
    subst hr_
    have hW := hW.eq hE_
    refine lv_imul hx hb dX6_amounts_30 ?_
    refine pfX6_118 B hT hI hA hW hS (by decide) mE_0 (Nat.le_of_ble_eq_true rfl) rfl (by first | rfl | decide) dX6_amounts_31 (fun H locs hW hS => ?_)
    have hW := hW.eq (E' := mE cI cZ ad th nP nH rN nf pn sp sk ag (RV V) (RV T) (FL pd) (FL py) du (((cnt V ag (nI h) d nP).1) * (V (20 + 0) d)) mC mH ((cnt V ag (nI h) d nP).1) ((cnt V ag (nI h) d nP).2.1) ((cnt V ag (nI h) d nP).2.2) mT mP) (mE_u0 _ _ _ _ _ _ _ _ _ _ _ _ _ _ _ _)
    refine lv_aload_n hx hb dX6_amounts_34 rfl (lv_at hl 1 rfl) ?_
    refine lv_iload_n hx hb dX6_amounts_35 rfl (lv_at hl 0 rfl) ?_
    refine lv_if_eq (tgt := 43) hx hb dX6_amounts_36 (by decide) (fun c_36 => ?_) (fun c_36 => ?_)
    · skip
      refine lv_aload_n hx hb dX6_amounts_43 rfl (lv_at hl 1 rfl) ?_
      refine gfX6_102 B hT hW (by decide) mE_0 rfl dX6_amounts_44 ?_
      refine lv_aload_n hx hb dX6_amounts_47 rfl (lv_at hl 1 rfl) ?_
      refine lv_iconst (v := (nI 1)) hx hb dX6_amounts_48 (by decide) ?_
      refine lv_iload_n hx hb dX6_amounts_49 rfl (lv_at hl 3 rfl) ?_
      refine b_ci (b_runV B hT hX hW hS (As := [.int (nI 1), .int (nI d)]) (rest := [.int ((cnt V ag (nI h) d nP).2.1), .ref (ad 0)]) (fun sz => mm_at hI th nP nH rN nf pn sp sk ag V T pd py du (((cnt V ag (nI h) d nP).1) * (V (20 + 0) d)) mC mH ((cnt V ag (nI h) d nP).1) ((cnt V ag (nI h) d nP).2.1) ((cnt V ag (nI h) d nP).2.2) mT mP 1 d hti htz (by omega) (by omega) sz) (cwX6_108 B.2.2.2.2.1 ⟨Nat.le_of_ble_eq_true rfl, Nat.le_of_ble_eq_true rfl⟩) (b_recv B hW (by decide) mE_0 rfl) rfl hl.1 (Nat.le_of_ble_eq_true rfl) dX6_amounts_50 ⟨Nat.le_of_ble_eq_true rfl, Nat.le_of_ble_eq_true rfl⟩) hS (fun r_50 E1 H locs hp_50 hW hS => ?_)
      obtain ⟨hr_, hE_⟩ := hp_50
      subst hr_
      have hW := hW.eq hE_
      refine lv_imul hx hb dX6_amounts_53 ?_
      refine lv_aload_n hx hb dX6_amounts_54 rfl (lv_at hl 1 rfl) ?_
      refine gfX6_102 B hT hW (by decide) mE_0 rfl dX6_amounts_55 ?_
      refine lv_if_le (tgt := 70) hx hb dX6_amounts_58 (by decide) (fun c_58 => ?_) (fun c_58 => ?_)
      · skip
        refine lv_iconst (v := 0) hx hb dX6_amounts_70 (by decide) ?_
        refine lv_iadd hx hb dX6_amounts_71 ?_
        refine pfX6_125 B hT hI hA hW hS (by decide) mE_0 (Nat.le_of_ble_eq_true rfl) rfl (by first | rfl | decide) dX6_amounts_72 (fun H locs hW hS => ?_)
        have hW := hW.eq (E' := mE cI cZ ad th nP nH rN nf pn sp sk ag (RV V) (RV T) (FL pd) (FL py) du (((cnt V ag (nI h) d nP).1) * (V (20 + 0) d)) ((((cnt V ag (nI h) d nP).2.1) * (V (20 + 1) d)) + 0) mH ((cnt V ag (nI h) d nP).1) ((cnt V ag (nI h) d nP).2.1) ((cnt V ag (nI h) d nP).2.2) mT mP) (mE_u0 _ _ _ _ _ _ _ _ _ _ _ _ _ _ _ _)
        refine lv_aload_n hx hb dX6_amounts_75 rfl (lv_at hl 1 rfl) ?_
        refine lv_iload_n hx hb dX6_amounts_76 rfl (lv_at hl 0 rfl) ?_
        refine lv_if_eq (tgt := 84) hx hb dX6_amounts_77 (by decide) (fun c_77 => ?_) (fun c_77 => ?_)
        · skip
          refine lv_aload_n hx hb dX6_amounts_84 rfl (lv_at hl 1 rfl) ?_
          refine gfX6_23 B hT hW (by decide) mE_0 rfl dX6_amounts_85 ?_
          refine lv_sipush (v := (nI 360)) hx hb dX6_amounts_88 (by decide) ?_
          refine lv_iload_n hx hb dX6_amounts_91 rfl (lv_at hl 2 rfl) ?_
          refine lv_imul hx hb dX6_amounts_92 ?_
          refine b_top (y := nI (360 * h)) (pk_mul _ _) ?_
          refine lv_iload_n hx hb dX6_amounts_93 rfl (lv_at hl 3 rfl) ?_
          refine lv_iadd hx hb dX6_amounts_94 ?_
          refine b_top (y := nI (360 * h + d)) (nI_add _ _) ?_
          refine b_iald B hW hti (j := (360 * h + d)) (by decide) mE_4 (vp_in_nI (by omega) (Nat.le_of_ble_eq_true rfl)) (nI_clamp (by omega)) dX6_amounts_95 ?_
          refine b_top (y := V (16 + h) d) (RV_at (j := 2) (i := h) (d := d) (by omega) (show 360 * h + 360 ≤ 1440 by omega) (by omega) rfl) ?_
          refine lv_aload_n hx hb dX6_amounts_96 rfl (lv_at hl 1 rfl) ?_
          refine lv_iconst (v := (nI 3)) hx hb dX6_amounts_97 (by decide) ?_
          refine lv_iload_n hx hb dX6_amounts_98 rfl (lv_at hl 3 rfl) ?_
          refine b_ci (b_runV B hT hX hW hS (As := [.int (nI 3), .int (nI d)]) (rest := [.int (V (16 + h) d), .ref (ad 0)]) (fun sz => mm_at hI th nP nH rN nf pn sp sk ag V T pd py du (((cnt V ag (nI h) d nP).1) * (V (20 + 0) d)) ((((cnt V ag (nI h) d nP).2.1) * (V (20 + 1) d)) + 0) mH ((cnt V ag (nI h) d nP).1) ((cnt V ag (nI h) d nP).2.1) ((cnt V ag (nI h) d nP).2.2) mT mP 3 d hti htz (by omega) (by omega) sz) (cwX6_108 B.2.2.2.2.1 ⟨Nat.le_of_ble_eq_true rfl, Nat.le_of_ble_eq_true rfl⟩) (b_recv B hW (by decide) mE_0 rfl) rfl hl.1 (Nat.le_of_ble_eq_true rfl) dX6_amounts_99 ⟨Nat.le_of_ble_eq_true rfl, Nat.le_of_ble_eq_true rfl⟩) hS (fun r_99 E1 H locs hp_99 hW hS => ?_)
          obtain ⟨hr_, hE_⟩ := hp_99
          subst hr_
          have hW := hW.eq hE_
          refine b_ci (b_runS B hT hX hW hS (As := [.int (V (16 + h) d), .int (V (20 + 3) d)]) (rest := [.ref (ad 0)]) (fun sz => mm_lesser hI (V (16 + h) d) (V (20 + 3) d) sz) (cwX6_115 B.2.2.2.2.1 ⟨Nat.le_of_ble_eq_true rfl, Nat.le_of_ble_eq_true rfl⟩) rfl hl.1 (Nat.le_of_ble_eq_true rfl) dX6_amounts_102 ⟨Nat.le_of_ble_eq_true rfl, Nat.le_of_ble_eq_true rfl⟩) hS (fun r_102 E1 H locs hp_102 hW hS => ?_)
          obtain ⟨hr_, hE_⟩ := hp_102
          subst hr_
          have hW := hW.eq hE_
          refine pfX6_112 B hT hI hA hW hS (by decide) mE_0 (Nat.le_of_ble_eq_true rfl) rfl (by first | rfl | decide) dX6_amounts_105 (fun H locs hW hS => ?_)
          have hW := hW.eq (E' := mE cI cZ ad th nP nH rN nf pn sp sk ag (RV V) (RV T) (FL pd) (FL py) du (((cnt V ag (nI h) d nP).1) * (V (20 + 0) d)) ((((cnt V ag (nI h) d nP).2.1) * (V (20 + 1) d)) + 0) (imin (V (16 + h) d) (V (20 + 3) d)) ((cnt V ag (nI h) d nP).1) ((cnt V ag (nI h) d nP).2.1) ((cnt V ag (nI h) d nP).2.2) mT mP) (mE_u0 _ _ _ _ _ _ _ _ _ _ _ _ _ _ _ _)
          refine lv_aload_n hx hb dX6_amounts_108 rfl (lv_at hl 1 rfl) ?_
          refine lv_iload_n hx hb dX6_amounts_109 rfl (lv_at hl 3 rfl) ?_
          refine b_cv (b_runV B hT hX hW hS (As := [.int (nI d)]) (rest := []) (fun sz => mm_tapers hI th nP nH rN nf pn sp sk ag V T pd py du (((cnt V ag (nI h) d nP).1) * (V (20 + 0) d)) ((((cnt V ag (nI h) d nP).2.1) * (V (20 + 1) d)) + 0) (imin (V (16 + h) d) (V (20 + 3) d)) ((cnt V ag (nI h) d nP).1) ((cnt V ag (nI h) d nP).2.1) ((cnt V ag (nI h) d nP).2.2) mT mP d hti htz (by omega) sz) (cwX6_135 B.2.2.2.2.1 ⟨Nat.le_of_ble_eq_true rfl, Nat.le_of_ble_eq_true rfl⟩) (b_recv B hW (by decide) mE_0 rfl) rfl hl.1 (Nat.le_of_ble_eq_true rfl) dX6_amounts_110 ⟨Nat.le_of_ble_eq_true rfl, Nat.le_of_ble_eq_true rfl⟩) hS (fun E1 H locs hp_110 hW hS => ?_)
          have hW := hW.eq hp_110
          refine lv_aload_n hx hb dX6_amounts_113 rfl (lv_at hl 1 rfl) ?_
          refine lv_aload_n hx hb dX6_amounts_114 rfl (lv_at hl 1 rfl) ?_
          refine lv_bipush (v := (nI 6)) hx hb dX6_amounts_115 (by decide) ?_
          refine lv_iload_n hx hb dX6_amounts_117 rfl (lv_at hl 3 rfl) ?_
          refine b_ci (b_runV B hT hX hW hS (As := [.int (nI 6), .int (nI d)]) (rest := [.ref (ad 0)]) (fun sz => mm_at hI th nP nH rN nf pn sp sk ag V T pd py du ((((cnt V ag (nI h) d nP).1) * (V (20 + 0) d)) - imin ((ovr ((cnt V ag (nI h) d nP).2.2) (V (20 + 4) d) (V (20 + 5) d)) - imin (ovr ((cnt V ag (nI h) d nP).2.2) (V (20 + 4) d) (V (20 + 5) d)) (imin (V (16 + h) d) (V (20 + 3) d))) (((cnt V ag (nI h) d nP).1) * (V (20 + 0) d))) ((((cnt V ag (nI h) d nP).2.1) * (V (20 + 1) d)) + 0) ((imin (V (16 + h) d) (V (20 + 3) d)) - imin (ovr ((cnt V ag (nI h) d nP).2.2) (V (20 + 4) d) (V (20 + 5) d)) (imin (V (16 + h) d) (V (20 + 3) d))) ((cnt V ag (nI h) d nP).1) ((cnt V ag (nI h) d nP).2.1) ((cnt V ag (nI h) d nP).2.2) (if imin (ovr ((cnt V ag (nI h) d nP).2.2) (V (20 + 4) d) (V (20 + 5) d)) (imin (V (16 + h) d) (V (20 + 3) d)) + imin ((ovr ((cnt V ag (nI h) d nP).2.2) (V (20 + 4) d) (V (20 + 5) d)) - imin (ovr ((cnt V ag (nI h) d nP).2.2) (V (20 + 4) d) (V (20 + 5) d)) (imin (V (16 + h) d) (V (20 + 3) d))) (((cnt V ag (nI h) d nP).1) * (V (20 + 0) d)) ≤ 0 then 0 else 1) mP 6 d hti htz (by omega) (by omega) sz) (cwX6_108 B.2.2.2.2.1 ⟨Nat.le_of_ble_eq_true rfl, Nat.le_of_ble_eq_true rfl⟩) (b_recv B hW (by decide) mE_0 rfl) rfl hl.1 (Nat.le_of_ble_eq_true rfl) dX6_amounts_118 ⟨Nat.le_of_ble_eq_true rfl, Nat.le_of_ble_eq_true rfl⟩) hS (fun r_118 E1 H locs hp_118 hW hS => ?_)
          obtain ⟨hr_, hE_⟩ := hp_118
          subst hr_
          have hW := hW.eq hE_
          refine b_cv (b_runV B hT hX hW hS (As := [.int (V (20 + 6) d)]) (rest := []) (fun sz => mm_caps hI th nP nH rN nf pn sp sk ag V T pd py du ((((cnt V ag (nI h) d nP).1) * (V (20 + 0) d)) - imin ((ovr ((cnt V ag (nI h) d nP).2.2) (V (20 + 4) d) (V (20 + 5) d)) - imin (ovr ((cnt V ag (nI h) d nP).2.2) (V (20 + 4) d) (V (20 + 5) d)) (imin (V (16 + h) d) (V (20 + 3) d))) (((cnt V ag (nI h) d nP).1) * (V (20 + 0) d))) ((((cnt V ag (nI h) d nP).2.1) * (V (20 + 1) d)) + 0) ((imin (V (16 + h) d) (V (20 + 3) d)) - imin (ovr ((cnt V ag (nI h) d nP).2.2) (V (20 + 4) d) (V (20 + 5) d)) (imin (V (16 + h) d) (V (20 + 3) d))) ((cnt V ag (nI h) d nP).1) ((cnt V ag (nI h) d nP).2.1) ((cnt V ag (nI h) d nP).2.2) (if imin (ovr ((cnt V ag (nI h) d nP).2.2) (V (20 + 4) d) (V (20 + 5) d)) (imin (V (16 + h) d) (V (20 + 3) d)) + imin ((ovr ((cnt V ag (nI h) d nP).2.2) (V (20 + 4) d) (V (20 + 5) d)) - imin (ovr ((cnt V ag (nI h) d nP).2.2) (V (20 + 4) d) (V (20 + 5) d)) (imin (V (16 + h) d) (V (20 + 3) d))) (((cnt V ag (nI h) d nP).1) * (V (20 + 0) d)) ≤ 0 then 0 else 1) mP (V (20 + 6) d) hti htz hcap sz) (cwX6_139 B.2.2.2.2.1 ⟨Nat.le_of_ble_eq_true rfl, Nat.le_of_ble_eq_true rfl⟩) (b_recv B hW (by decide) mE_0 rfl) rfl hl.1 (Nat.le_of_ble_eq_true rfl) dX6_amounts_121 ⟨Nat.le_of_ble_eq_true rfl, Nat.le_of_ble_eq_true rfl⟩) hS (fun E1 H locs hp_121 hW hS => ?_)
          have hW := hW.eq hp_121
          have e9 := (mod_tap (p := V (20 + 5) d) nn.1 nn.2.1 nn.2.2.1 nn.2.2.2.1 nn.2.2.2.2.1).trans (amt_some (c := (((cnt V ag (nI h) d nP).2.1) * (V (20 + 1) d)) + 0) (T := T) (nH := nH) (rN := rN) (so := so) (pd := pd) c_10 (by rw [if_pos c_58, Int32.add_zero]))
          have hW := hW.eq (E' := mE cI cZ ad th nP nH rN nf pn sp sk ag (RV V) (RV T) (FL pd) (FL py) du ((amt V ag nP h d).1) ((amt V ag nP h d).2.1) ((amt V ag nP h d).2.2.1) ((cnt V ag (nI h) d nP).1) ((cnt V ag (nI h) d nP).2.1) ((cnt V ag (nI h) d nP).2.2) ((amt V ag nP h d).2.2.2.1) ((amt V ag nP h d).2.2.2.2)) (by rw [← e9])
          exact e_v hQ B hr hlk hS hW dX6_amounts_124 (Nat.le_of_ble_eq_true rfl) (Nat.le_of_ble_eq_true rfl) rfl
        · exact absurd rfl c_77
      · skip
        refine lv_aload_n hx hb dX6_amounts_61 rfl (lv_at hl 1 rfl) ?_
        refine lv_iconst (v := (nI 2)) hx hb dX6_amounts_62 (by decide) ?_
        refine lv_iload_n hx hb dX6_amounts_63 rfl (lv_at hl 3 rfl) ?_
        refine b_ci (b_runV B hT hX hW hS (As := [.int (nI 2), .int (nI d)]) (rest := [.int (((cnt V ag (nI h) d nP).2.1) * (V (20 + 1) d)), .ref (ad 0)]) (fun sz => mm_at hI th nP nH rN nf pn sp sk ag V T pd py du (((cnt V ag (nI h) d nP).1) * (V (20 + 0) d)) mC mH ((cnt V ag (nI h) d nP).1) ((cnt V ag (nI h) d nP).2.1) ((cnt V ag (nI h) d nP).2.2) mT mP 2 d hti htz (by omega) (by omega) sz) (cwX6_108 B.2.2.2.2.1 ⟨Nat.le_of_ble_eq_true rfl, Nat.le_of_ble_eq_true rfl⟩) (b_recv B hW (by decide) mE_0 rfl) rfl hl.1 (Nat.le_of_ble_eq_true rfl) dX6_amounts_64 ⟨Nat.le_of_ble_eq_true rfl, Nat.le_of_ble_eq_true rfl⟩) hS (fun r_64 E1 H locs hp_64 hW hS => ?_)
        obtain ⟨hr_, hE_⟩ := hp_64
        subst hr_
        have hW := hW.eq hE_
        refine lv_goto (tgt := 71) hx hb dX6_amounts_67 (by decide) ?_
        refine lv_iadd hx hb dX6_amounts_71 ?_
        refine pfX6_125 B hT hI hA hW hS (by decide) mE_0 (Nat.le_of_ble_eq_true rfl) rfl (by first | rfl | decide) dX6_amounts_72 (fun H locs hW hS => ?_)
        have hW := hW.eq (E' := mE cI cZ ad th nP nH rN nf pn sp sk ag (RV V) (RV T) (FL pd) (FL py) du (((cnt V ag (nI h) d nP).1) * (V (20 + 0) d)) ((((cnt V ag (nI h) d nP).2.1) * (V (20 + 1) d)) + (V (20 + 2) d)) mH ((cnt V ag (nI h) d nP).1) ((cnt V ag (nI h) d nP).2.1) ((cnt V ag (nI h) d nP).2.2) mT mP) (mE_u0 _ _ _ _ _ _ _ _ _ _ _ _ _ _ _ _)
        refine lv_aload_n hx hb dX6_amounts_75 rfl (lv_at hl 1 rfl) ?_
        refine lv_iload_n hx hb dX6_amounts_76 rfl (lv_at hl 0 rfl) ?_
        refine lv_if_eq (tgt := 84) hx hb dX6_amounts_77 (by decide) (fun c_77 => ?_) (fun c_77 => ?_)
        · skip
          refine lv_aload_n hx hb dX6_amounts_84 rfl (lv_at hl 1 rfl) ?_
          refine gfX6_23 B hT hW (by decide) mE_0 rfl dX6_amounts_85 ?_
          refine lv_sipush (v := (nI 360)) hx hb dX6_amounts_88 (by decide) ?_
          refine lv_iload_n hx hb dX6_amounts_91 rfl (lv_at hl 2 rfl) ?_
          refine lv_imul hx hb dX6_amounts_92 ?_
          refine b_top (y := nI (360 * h)) (pk_mul _ _) ?_
          refine lv_iload_n hx hb dX6_amounts_93 rfl (lv_at hl 3 rfl) ?_
          refine lv_iadd hx hb dX6_amounts_94 ?_
          refine b_top (y := nI (360 * h + d)) (nI_add _ _) ?_
          refine b_iald B hW hti (j := (360 * h + d)) (by decide) mE_4 (vp_in_nI (by omega) (Nat.le_of_ble_eq_true rfl)) (nI_clamp (by omega)) dX6_amounts_95 ?_
          refine b_top (y := V (16 + h) d) (RV_at (j := 2) (i := h) (d := d) (by omega) (show 360 * h + 360 ≤ 1440 by omega) (by omega) rfl) ?_
          refine lv_aload_n hx hb dX6_amounts_96 rfl (lv_at hl 1 rfl) ?_
          refine lv_iconst (v := (nI 3)) hx hb dX6_amounts_97 (by decide) ?_
          refine lv_iload_n hx hb dX6_amounts_98 rfl (lv_at hl 3 rfl) ?_
          refine b_ci (b_runV B hT hX hW hS (As := [.int (nI 3), .int (nI d)]) (rest := [.int (V (16 + h) d), .ref (ad 0)]) (fun sz => mm_at hI th nP nH rN nf pn sp sk ag V T pd py du (((cnt V ag (nI h) d nP).1) * (V (20 + 0) d)) ((((cnt V ag (nI h) d nP).2.1) * (V (20 + 1) d)) + (V (20 + 2) d)) mH ((cnt V ag (nI h) d nP).1) ((cnt V ag (nI h) d nP).2.1) ((cnt V ag (nI h) d nP).2.2) mT mP 3 d hti htz (by omega) (by omega) sz) (cwX6_108 B.2.2.2.2.1 ⟨Nat.le_of_ble_eq_true rfl, Nat.le_of_ble_eq_true rfl⟩) (b_recv B hW (by decide) mE_0 rfl) rfl hl.1 (Nat.le_of_ble_eq_true rfl) dX6_amounts_99 ⟨Nat.le_of_ble_eq_true rfl, Nat.le_of_ble_eq_true rfl⟩) hS (fun r_99 E1 H locs hp_99 hW hS => ?_)
          obtain ⟨hr_, hE_⟩ := hp_99
          subst hr_
          have hW := hW.eq hE_
          refine b_ci (b_runS B hT hX hW hS (As := [.int (V (16 + h) d), .int (V (20 + 3) d)]) (rest := [.ref (ad 0)]) (fun sz => mm_lesser hI (V (16 + h) d) (V (20 + 3) d) sz) (cwX6_115 B.2.2.2.2.1 ⟨Nat.le_of_ble_eq_true rfl, Nat.le_of_ble_eq_true rfl⟩) rfl hl.1 (Nat.le_of_ble_eq_true rfl) dX6_amounts_102 ⟨Nat.le_of_ble_eq_true rfl, Nat.le_of_ble_eq_true rfl⟩) hS (fun r_102 E1 H locs hp_102 hW hS => ?_)
          obtain ⟨hr_, hE_⟩ := hp_102
          subst hr_
          have hW := hW.eq hE_
          refine pfX6_112 B hT hI hA hW hS (by decide) mE_0 (Nat.le_of_ble_eq_true rfl) rfl (by first | rfl | decide) dX6_amounts_105 (fun H locs hW hS => ?_)
          have hW := hW.eq (E' := mE cI cZ ad th nP nH rN nf pn sp sk ag (RV V) (RV T) (FL pd) (FL py) du (((cnt V ag (nI h) d nP).1) * (V (20 + 0) d)) ((((cnt V ag (nI h) d nP).2.1) * (V (20 + 1) d)) + (V (20 + 2) d)) (imin (V (16 + h) d) (V (20 + 3) d)) ((cnt V ag (nI h) d nP).1) ((cnt V ag (nI h) d nP).2.1) ((cnt V ag (nI h) d nP).2.2) mT mP) (mE_u0 _ _ _ _ _ _ _ _ _ _ _ _ _ _ _ _)
          refine lv_aload_n hx hb dX6_amounts_108 rfl (lv_at hl 1 rfl) ?_
          refine lv_iload_n hx hb dX6_amounts_109 rfl (lv_at hl 3 rfl) ?_
          refine b_cv (b_runV B hT hX hW hS (As := [.int (nI d)]) (rest := []) (fun sz => mm_tapers hI th nP nH rN nf pn sp sk ag V T pd py du (((cnt V ag (nI h) d nP).1) * (V (20 + 0) d)) ((((cnt V ag (nI h) d nP).2.1) * (V (20 + 1) d)) + (V (20 + 2) d)) (imin (V (16 + h) d) (V (20 + 3) d)) ((cnt V ag (nI h) d nP).1) ((cnt V ag (nI h) d nP).2.1) ((cnt V ag (nI h) d nP).2.2) mT mP d hti htz (by omega) sz) (cwX6_135 B.2.2.2.2.1 ⟨Nat.le_of_ble_eq_true rfl, Nat.le_of_ble_eq_true rfl⟩) (b_recv B hW (by decide) mE_0 rfl) rfl hl.1 (Nat.le_of_ble_eq_true rfl) dX6_amounts_110 ⟨Nat.le_of_ble_eq_true rfl, Nat.le_of_ble_eq_true rfl⟩) hS (fun E1 H locs hp_110 hW hS => ?_)
          have hW := hW.eq hp_110
          refine lv_aload_n hx hb dX6_amounts_113 rfl (lv_at hl 1 rfl) ?_
          refine lv_aload_n hx hb dX6_amounts_114 rfl (lv_at hl 1 rfl) ?_
          refine lv_bipush (v := (nI 6)) hx hb dX6_amounts_115 (by decide) ?_
          refine lv_iload_n hx hb dX6_amounts_117 rfl (lv_at hl 3 rfl) ?_
          refine b_ci (b_runV B hT hX hW hS (As := [.int (nI 6), .int (nI d)]) (rest := [.ref (ad 0)]) (fun sz => mm_at hI th nP nH rN nf pn sp sk ag V T pd py du ((((cnt V ag (nI h) d nP).1) * (V (20 + 0) d)) - imin ((ovr ((cnt V ag (nI h) d nP).2.2) (V (20 + 4) d) (V (20 + 5) d)) - imin (ovr ((cnt V ag (nI h) d nP).2.2) (V (20 + 4) d) (V (20 + 5) d)) (imin (V (16 + h) d) (V (20 + 3) d))) (((cnt V ag (nI h) d nP).1) * (V (20 + 0) d))) ((((cnt V ag (nI h) d nP).2.1) * (V (20 + 1) d)) + (V (20 + 2) d)) ((imin (V (16 + h) d) (V (20 + 3) d)) - imin (ovr ((cnt V ag (nI h) d nP).2.2) (V (20 + 4) d) (V (20 + 5) d)) (imin (V (16 + h) d) (V (20 + 3) d))) ((cnt V ag (nI h) d nP).1) ((cnt V ag (nI h) d nP).2.1) ((cnt V ag (nI h) d nP).2.2) (if imin (ovr ((cnt V ag (nI h) d nP).2.2) (V (20 + 4) d) (V (20 + 5) d)) (imin (V (16 + h) d) (V (20 + 3) d)) + imin ((ovr ((cnt V ag (nI h) d nP).2.2) (V (20 + 4) d) (V (20 + 5) d)) - imin (ovr ((cnt V ag (nI h) d nP).2.2) (V (20 + 4) d) (V (20 + 5) d)) (imin (V (16 + h) d) (V (20 + 3) d))) (((cnt V ag (nI h) d nP).1) * (V (20 + 0) d)) ≤ 0 then 0 else 1) mP 6 d hti htz (by omega) (by omega) sz) (cwX6_108 B.2.2.2.2.1 ⟨Nat.le_of_ble_eq_true rfl, Nat.le_of_ble_eq_true rfl⟩) (b_recv B hW (by decide) mE_0 rfl) rfl hl.1 (Nat.le_of_ble_eq_true rfl) dX6_amounts_118 ⟨Nat.le_of_ble_eq_true rfl, Nat.le_of_ble_eq_true rfl⟩) hS (fun r_118 E1 H locs hp_118 hW hS => ?_)
          obtain ⟨hr_, hE_⟩ := hp_118
          subst hr_
          have hW := hW.eq hE_
          refine b_cv (b_runV B hT hX hW hS (As := [.int (V (20 + 6) d)]) (rest := []) (fun sz => mm_caps hI th nP nH rN nf pn sp sk ag V T pd py du ((((cnt V ag (nI h) d nP).1) * (V (20 + 0) d)) - imin ((ovr ((cnt V ag (nI h) d nP).2.2) (V (20 + 4) d) (V (20 + 5) d)) - imin (ovr ((cnt V ag (nI h) d nP).2.2) (V (20 + 4) d) (V (20 + 5) d)) (imin (V (16 + h) d) (V (20 + 3) d))) (((cnt V ag (nI h) d nP).1) * (V (20 + 0) d))) ((((cnt V ag (nI h) d nP).2.1) * (V (20 + 1) d)) + (V (20 + 2) d)) ((imin (V (16 + h) d) (V (20 + 3) d)) - imin (ovr ((cnt V ag (nI h) d nP).2.2) (V (20 + 4) d) (V (20 + 5) d)) (imin (V (16 + h) d) (V (20 + 3) d))) ((cnt V ag (nI h) d nP).1) ((cnt V ag (nI h) d nP).2.1) ((cnt V ag (nI h) d nP).2.2) (if imin (ovr ((cnt V ag (nI h) d nP).2.2) (V (20 + 4) d) (V (20 + 5) d)) (imin (V (16 + h) d) (V (20 + 3) d)) + imin ((ovr ((cnt V ag (nI h) d nP).2.2) (V (20 + 4) d) (V (20 + 5) d)) - imin (ovr ((cnt V ag (nI h) d nP).2.2) (V (20 + 4) d) (V (20 + 5) d)) (imin (V (16 + h) d) (V (20 + 3) d))) (((cnt V ag (nI h) d nP).1) * (V (20 + 0) d)) ≤ 0 then 0 else 1) mP (V (20 + 6) d) hti htz hcap sz) (cwX6_139 B.2.2.2.2.1 ⟨Nat.le_of_ble_eq_true rfl, Nat.le_of_ble_eq_true rfl⟩) (b_recv B hW (by decide) mE_0 rfl) rfl hl.1 (Nat.le_of_ble_eq_true rfl) dX6_amounts_121 ⟨Nat.le_of_ble_eq_true rfl, Nat.le_of_ble_eq_true rfl⟩) hS (fun E1 H locs hp_121 hW hS => ?_)
          have hW := hW.eq hp_121
          have e9 := (mod_tap (p := V (20 + 5) d) nn.1 nn.2.1 nn.2.2.1 nn.2.2.2.1 nn.2.2.2.2.1).trans (amt_some (c := (((cnt V ag (nI h) d nP).2.1) * (V (20 + 1) d)) + (V (20 + 2) d)) (T := T) (nH := nH) (rN := rN) (so := so) (pd := pd) c_10 (by rw [if_neg c_58]))
          have hW := hW.eq (E' := mE cI cZ ad th nP nH rN nf pn sp sk ag (RV V) (RV T) (FL pd) (FL py) du ((amt V ag nP h d).1) ((amt V ag nP h d).2.1) ((amt V ag nP h d).2.2.1) ((cnt V ag (nI h) d nP).1) ((cnt V ag (nI h) d nP).2.1) ((cnt V ag (nI h) d nP).2.2) ((amt V ag nP h d).2.2.2.1) ((amt V ag nP h d).2.2.2.2)) (by rw [← e9])
          exact e_v hQ B hr hlk hS hW dX6_amounts_124 (Nat.le_of_ble_eq_true rfl) (Nat.le_of_ble_eq_true rfl) rfl
        · exact absurd rfl c_77
    · exact absurd rfl c_36
  · skip
    refine lv_iconst (v := 1) hx hb dX6_amounts_13 (by decide) ?_
    refine lv_goto (tgt := 18) hx hb dX6_amounts_14 (by decide) ?_
    refine lv_istore_n (lv' := [(3, .int 1), (0, .ref (ad 0)), (1, .int (nI h)), (2, .int (nI d))]) hx hb dX6_amounts_18 rfl hl (by decide) rfl (fun ls hl => ?_)
    refine lv_aload_n hx hb dX6_amounts_19 rfl (lv_at hl 1 rfl) ?_
    refine lv_aload_n hx hb dX6_amounts_20 rfl (lv_at hl 1 rfl) ?_
    refine gfX6_99 B hT hW (by decide) mE_0 rfl dX6_amounts_21 ?_
    refine lv_aload_n hx hb dX6_amounts_24 rfl (lv_at hl 1 rfl) ?_
    refine lv_iconst (v := (nI 0)) hx hb dX6_amounts_25 (by decide) ?_
    refine lv_iload_n hx hb dX6_amounts_26 rfl (lv_at hl 3 rfl) ?_
    refine b_ci (b_runV B hT hX hW hS (As := [.int (nI 0), .int (nI d)]) (rest := [.int ((cnt V ag (nI h) d nP).1), .ref (ad 0)]) (fun sz => mm_at hI th nP nH rN nf pn sp sk ag V T pd py du mA mC mH ((cnt V ag (nI h) d nP).1) ((cnt V ag (nI h) d nP).2.1) ((cnt V ag (nI h) d nP).2.2) mT mP 0 d hti htz (by omega) (by omega) sz) (cwX6_108 B.2.2.2.2.1 ⟨Nat.le_of_ble_eq_true rfl, Nat.le_of_ble_eq_true rfl⟩) (b_recv B hW (by decide) mE_0 rfl) rfl hl.1 (Nat.le_of_ble_eq_true rfl) dX6_amounts_27 ⟨Nat.le_of_ble_eq_true rfl, Nat.le_of_ble_eq_true rfl⟩) hS (fun r_27 E1 H locs hp_27 hW hS => ?_)
    obtain ⟨hr_, hE_⟩ := hp_27
    subst hr_
    have hW := hW.eq hE_
    refine lv_imul hx hb dX6_amounts_30 ?_
    refine pfX6_118 B hT hI hA hW hS (by decide) mE_0 (Nat.le_of_ble_eq_true rfl) rfl (by first | rfl | decide) dX6_amounts_31 (fun H locs hW hS => ?_)
    have hW := hW.eq (E' := mE cI cZ ad th nP nH rN nf pn sp sk ag (RV V) (RV T) (FL pd) (FL py) du (((cnt V ag (nI h) d nP).1) * (V (20 + 0) d)) mC mH ((cnt V ag (nI h) d nP).1) ((cnt V ag (nI h) d nP).2.1) ((cnt V ag (nI h) d nP).2.2) mT mP) (mE_u0 _ _ _ _ _ _ _ _ _ _ _ _ _ _ _ _)
    refine lv_aload_n hx hb dX6_amounts_34 rfl (lv_at hl 1 rfl) ?_
    refine lv_iload_n hx hb dX6_amounts_35 rfl (lv_at hl 0 rfl) ?_
    refine lv_if_eq (tgt := 43) hx hb dX6_amounts_36 (by decide) (fun c_36 => ?_) (fun c_36 => ?_)
    · exact absurd c_36 (by decide)
    · skip
      refine lv_iconst (v := 0) hx hb dX6_amounts_39 (by decide) ?_
      refine lv_goto (tgt := 72) hx hb dX6_amounts_40 (by decide) ?_
      refine pfX6_125 B hT hI hA hW hS (by decide) mE_0 (Nat.le_of_ble_eq_true rfl) rfl (by first | rfl | decide) dX6_amounts_72 (fun H locs hW hS => ?_)
      have hW := hW.eq (E' := mE cI cZ ad th nP nH rN nf pn sp sk ag (RV V) (RV T) (FL pd) (FL py) du (((cnt V ag (nI h) d nP).1) * (V (20 + 0) d)) 0 mH ((cnt V ag (nI h) d nP).1) ((cnt V ag (nI h) d nP).2.1) ((cnt V ag (nI h) d nP).2.2) mT mP) (mE_u0 _ _ _ _ _ _ _ _ _ _ _ _ _ _ _ _)
      refine lv_aload_n hx hb dX6_amounts_75 rfl (lv_at hl 1 rfl) ?_
      refine lv_iload_n hx hb dX6_amounts_76 rfl (lv_at hl 0 rfl) ?_
      refine lv_if_eq (tgt := 84) hx hb dX6_amounts_77 (by decide) (fun c_77 => ?_) (fun c_77 => ?_)
      · exact absurd c_77 (by decide)
      · skip
        refine lv_iconst (v := 0) hx hb dX6_amounts_80 (by decide) ?_
        refine lv_goto (tgt := 105) hx hb dX6_amounts_81 (by decide) ?_
        refine pfX6_112 B hT hI hA hW hS (by decide) mE_0 (Nat.le_of_ble_eq_true rfl) rfl (by first | rfl | decide) dX6_amounts_105 (fun H locs hW hS => ?_)
        have hW := hW.eq (E' := mE cI cZ ad th nP nH rN nf pn sp sk ag (RV V) (RV T) (FL pd) (FL py) du (((cnt V ag (nI h) d nP).1) * (V (20 + 0) d)) 0 0 ((cnt V ag (nI h) d nP).1) ((cnt V ag (nI h) d nP).2.1) ((cnt V ag (nI h) d nP).2.2) mT mP) (mE_u0 _ _ _ _ _ _ _ _ _ _ _ _ _ _ _ _)
        refine lv_aload_n hx hb dX6_amounts_108 rfl (lv_at hl 1 rfl) ?_
        refine lv_iload_n hx hb dX6_amounts_109 rfl (lv_at hl 3 rfl) ?_
        refine b_cv (b_runV B hT hX hW hS (As := [.int (nI d)]) (rest := []) (fun sz => mm_tapers hI th nP nH rN nf pn sp sk ag V T pd py du (((cnt V ag (nI h) d nP).1) * (V (20 + 0) d)) 0 0 ((cnt V ag (nI h) d nP).1) ((cnt V ag (nI h) d nP).2.1) ((cnt V ag (nI h) d nP).2.2) mT mP d hti htz (by omega) sz) (cwX6_135 B.2.2.2.2.1 ⟨Nat.le_of_ble_eq_true rfl, Nat.le_of_ble_eq_true rfl⟩) (b_recv B hW (by decide) mE_0 rfl) rfl hl.1 (Nat.le_of_ble_eq_true rfl) dX6_amounts_110 ⟨Nat.le_of_ble_eq_true rfl, Nat.le_of_ble_eq_true rfl⟩) hS (fun E1 H locs hp_110 hW hS => ?_)
        have hW := hW.eq hp_110
        refine lv_aload_n hx hb dX6_amounts_113 rfl (lv_at hl 1 rfl) ?_
        refine lv_aload_n hx hb dX6_amounts_114 rfl (lv_at hl 1 rfl) ?_
        refine lv_bipush (v := (nI 6)) hx hb dX6_amounts_115 (by decide) ?_
        refine lv_iload_n hx hb dX6_amounts_117 rfl (lv_at hl 3 rfl) ?_
        refine b_ci (b_runV B hT hX hW hS (As := [.int (nI 6), .int (nI d)]) (rest := [.ref (ad 0)]) (fun sz => mm_at hI th nP nH rN nf pn sp sk ag V T pd py du ((((cnt V ag (nI h) d nP).1) * (V (20 + 0) d)) - imin ((ovr ((cnt V ag (nI h) d nP).2.2) (V (20 + 4) d) (V (20 + 5) d)) - imin (ovr ((cnt V ag (nI h) d nP).2.2) (V (20 + 4) d) (V (20 + 5) d)) 0) (((cnt V ag (nI h) d nP).1) * (V (20 + 0) d))) 0 (0 - imin (ovr ((cnt V ag (nI h) d nP).2.2) (V (20 + 4) d) (V (20 + 5) d)) 0) ((cnt V ag (nI h) d nP).1) ((cnt V ag (nI h) d nP).2.1) ((cnt V ag (nI h) d nP).2.2) (if imin (ovr ((cnt V ag (nI h) d nP).2.2) (V (20 + 4) d) (V (20 + 5) d)) 0 + imin ((ovr ((cnt V ag (nI h) d nP).2.2) (V (20 + 4) d) (V (20 + 5) d)) - imin (ovr ((cnt V ag (nI h) d nP).2.2) (V (20 + 4) d) (V (20 + 5) d)) 0) (((cnt V ag (nI h) d nP).1) * (V (20 + 0) d)) ≤ 0 then 0 else 1) mP 6 d hti htz (by omega) (by omega) sz) (cwX6_108 B.2.2.2.2.1 ⟨Nat.le_of_ble_eq_true rfl, Nat.le_of_ble_eq_true rfl⟩) (b_recv B hW (by decide) mE_0 rfl) rfl hl.1 (Nat.le_of_ble_eq_true rfl) dX6_amounts_118 ⟨Nat.le_of_ble_eq_true rfl, Nat.le_of_ble_eq_true rfl⟩) hS (fun r_118 E1 H locs hp_118 hW hS => ?_)
        obtain ⟨hr_, hE_⟩ := hp_118
        subst hr_
        have hW := hW.eq hE_
        refine b_cv (b_runV B hT hX hW hS (As := [.int (V (20 + 6) d)]) (rest := []) (fun sz => mm_caps hI th nP nH rN nf pn sp sk ag V T pd py du ((((cnt V ag (nI h) d nP).1) * (V (20 + 0) d)) - imin ((ovr ((cnt V ag (nI h) d nP).2.2) (V (20 + 4) d) (V (20 + 5) d)) - imin (ovr ((cnt V ag (nI h) d nP).2.2) (V (20 + 4) d) (V (20 + 5) d)) 0) (((cnt V ag (nI h) d nP).1) * (V (20 + 0) d))) 0 (0 - imin (ovr ((cnt V ag (nI h) d nP).2.2) (V (20 + 4) d) (V (20 + 5) d)) 0) ((cnt V ag (nI h) d nP).1) ((cnt V ag (nI h) d nP).2.1) ((cnt V ag (nI h) d nP).2.2) (if imin (ovr ((cnt V ag (nI h) d nP).2.2) (V (20 + 4) d) (V (20 + 5) d)) 0 + imin ((ovr ((cnt V ag (nI h) d nP).2.2) (V (20 + 4) d) (V (20 + 5) d)) - imin (ovr ((cnt V ag (nI h) d nP).2.2) (V (20 + 4) d) (V (20 + 5) d)) 0) (((cnt V ag (nI h) d nP).1) * (V (20 + 0) d)) ≤ 0 then 0 else 1) mP (V (20 + 6) d) hti htz hcap sz) (cwX6_139 B.2.2.2.2.1 ⟨Nat.le_of_ble_eq_true rfl, Nat.le_of_ble_eq_true rfl⟩) (b_recv B hW (by decide) mE_0 rfl) rfl hl.1 (Nat.le_of_ble_eq_true rfl) dX6_amounts_121 ⟨Nat.le_of_ble_eq_true rfl, Nat.le_of_ble_eq_true rfl⟩) hS (fun E1 H locs hp_121 hW hS => ?_)
        have hW := hW.eq hp_121
        have e9 := (mod_tap (p := V (20 + 5) d) nn.1 (by decide) nn.2.2.1 nn.2.2.2.1 nn.2.2.2.2.1).trans (amt_none hInv hd c_10)
        have hW := hW.eq (E' := mE cI cZ ad th nP nH rN nf pn sp sk ag (RV V) (RV T) (FL pd) (FL py) du ((amt V ag nP h d).1) ((amt V ag nP h d).2.1) ((amt V ag nP h d).2.2.1) ((cnt V ag (nI h) d nP).1) ((cnt V ag (nI h) d nP).2.1) ((cnt V ag (nI h) d nP).2.2) ((amt V ag nP h d).2.2.2.1) ((amt V ag nP h d).2.2.2.2)) (by rw [← e9])
        exact e_v hQ B hr hlk hS hW dX6_amounts_124 (Nat.le_of_ble_eq_true rfl) (Nat.le_of_ble_eq_true rfl) rfl
set_option maxHeartbeats 4000000 in
set_option maxRecDepth 100000 in
theorem mm_sumOf {l : Launch} {D : va_G} {tys : List (ClassId × FieldType)} {ad : Nat → Nat} (hI : aI ad 13) {cI cZ : ClassId} (th : Int32) (nP nH rN : Nat) (nf pn : Int32) (sp sk : Int64) (ag : Nat → Int32) (V T : Nat → Nat → Int32) (pd py : Nat → Nat → Int32) (du : Nat → Int32) (mA mC mH mG mS mI mT mP : Int32) (h mo : Nat) (so : Nat → Int32) (hti : tys[0]? = some (cI, .int)) (htz : tys[1]? = some (cZ, .boolean)) (hInv : Inv V T ag nP nH rN so pd) (hh : h < 4) (hmo : mo < 12) (sz : Nat) : Met l yX6_sumOf (Cond.code yX6_sumOf cX6_sumOf 5 (some .int) :: wsL_law) (rmk 3 0 0) (va_Pc [.ref (ad 0), .int (nI h), .int (nI mo)] (PC D tys ad 13 (mE cI cZ ad th nP nH rN nf pn sp sk ag (RV V) (RV T) (FL pd) (FL py) du mA mC mH mG mS mI mT mP) sz)) (Qi D ad 13 (fun r E1 => r = due V ag nP h mo ∧ ∃ mA1 mC1 mH1 mG1 mS1 mI1 mT1 mP1, E1 = mE cI cZ ad th nP nH rN nf pn sp sk ag (RV V) (RV T) (FL pd) (FL py) du mA1 mC1 mH1 mG1 mS1 mI1 mT1 mP1) (cA ad 13 sz)) 0 0 (cA ad 13 sz) := by
  refine cm_of (own := RX6) (Qc := Qi D ad 13 (fun r E1 => r = due V ag nP h mo ∧ ∃ mA1 mC1 mH1 mG1 mS1 mI1 mT1 mP1, E1 = mE cI cZ ad th nP nH rN nf pn sp sk ag (RV V) (RV T) (FL pd) (FL py) du mA1 mC1 mH1 mG1 mS1 mI1 mT1 mP1)) rfl (by decide +kernel) (Nat.le_of_ble_eq_true rfl) ?_ sz
  intro p e s m args below meth c ls Q B hT hX hW hr hlk hnm hl hS hA hQ
  have hx := B.1
  have hb := B.2.1
  have hl : lv_has ls 5 [(0, .ref (ad 0)), (1, .int (nI h)), (2, .int (nI mo))] := hl
  have L_8 : ∀ (n_ : Nat) (dy : Nat) (mA1 : Int32) (mC1 : Int32) (mH1 : Int32) (mG1 : Int32) (mS1 : Int32) (mI1 : Int32) (mT1 : Int32) (mP1 : Int32), (hd0 : 30 * mo ≤ dy) → (hd1 : dy ≤ 30 * mo + 30) → (hn : 30 * mo + 30 < n_ + dy) → ∀ (H : Heap) (locs : List Loc) (ls : Array Slot), hH D ad 13 (mE cI cZ ad th nP nH rN nf pn sp sk ag (RV V) (RV T) (FL pd) (FL py) du mA1 mC1 mH1 mG1 mS1 mI1 mT1 mP1) H → va_S (cA ad 13 s.heap.size) s.heap H locs → lv_has ls 5 [(0, .ref (ad 0)), (1, .int (nI h)), (2, .int (nI mo)), (3, .int (sumD (tot V ag nP h) (dy - 30 * mo) (30 * mo))), (4, .int (nI dy))] → W p l e (rmk 3 0 0) s m args below meth c H locs 0 0 Q (F0 m 8 ls []) := by
    intro n_
    induction n_ with
    | zero =>
      intro dy mA1 mC1 mH1 mG1 mS1 mI1 mT1 mP1 hd0 hd1 hn
      omega
    | succ n_ ih =>
      intro dy mA1 mC1 mH1 mG1 mS1 mI1 mT1 mP1 hd0 hd1 hn H locs ls hW hS hl
      refine lv_iload hx hb dX6_sumOf_8 (lv_at hl 4 rfl) ?_
      refine lv_bipush (v := (nI 30)) hx hb dX6_sumOf_10 (by decide) ?_
      refine lv_iload_n hx hb dX6_sumOf_12 rfl (lv_at hl 2 rfl) ?_
      refine lv_imul hx hb dX6_sumOf_13 ?_
      refine b_top (y := nI (30 * mo)) (pk_mul _ _) ?_
      refine lv_bipush (v := (nI 30)) hx hb dX6_sumOf_14 (by decide) ?_
      refine lv_iadd hx hb dX6_sumOf_16 ?_
      refine b_top (y := nI (30 * mo + 30)) (nI_add _ _) ?_
      refine lv_icmp_ge (tgt := 50) hx hb dX6_sumOf_17 (by decide) (fun c_17 => ?_) (fun c_17 => ?_)
      · skip
        refine lv_iload_n hx hb dX6_sumOf_50 rfl (lv_at hl 3 rfl) ?_
        exact e_i hQ B hr hlk hS hW dX6_sumOf_51 (Nat.le_of_ble_eq_true rfl) (Nat.le_of_ble_eq_true rfl) (by have q2 := (nI_leI (by omega) (by omega)).mp c_17; have q3 : dy = 30 * mo + 30 := (by omega); subst q3; exact ⟨by unfold due; rw [show 30 * mo + 30 - 30 * mo = 30 by omega], _, _, _, _, _, _, _, _, rfl⟩)
      · skip
        have q17 : dy < 30 * mo + 30 := Nat.lt_of_not_le (fun q => c_17 ((nI_leI (by omega) (by omega)).mpr q))
        refine lv_aload_n hx hb dX6_sumOf_20 rfl (lv_at hl 0 rfl) ?_
        refine lv_iload_n hx hb dX6_sumOf_21 rfl (lv_at hl 1 rfl) ?_
        refine lv_iload hx hb dX6_sumOf_22 (lv_at hl 4 rfl) ?_
        refine b_cv (b_runV B hT hX hW hS (As := [.int (nI h), .int (nI dy)]) (rest := []) (fun sz => mm_amounts hI th nP nH rN nf pn sp sk ag V T pd py du mA1 mC1 mH1 mG1 mS1 mI1 mT1 mP1 h dy so hti htz hInv (by omega) (by omega) sz) (cwX6_142 B.2.2.2.2.1 ⟨Nat.le_of_ble_eq_true rfl, Nat.le_of_ble_eq_true rfl⟩) (b_recv B hW (by decide) mE_0 rfl) rfl hl.1 (Nat.le_of_ble_eq_true rfl) dX6_sumOf_24 ⟨Nat.le_of_ble_eq_true rfl, Nat.le_of_ble_eq_true rfl⟩) hS (fun E1 H locs hp_24 hW hS => ?_)
        have hW := hW.eq hp_24
        refine lv_iload_n hx hb dX6_sumOf_27 rfl (lv_at hl 3 rfl) ?_
        refine lv_aload_n hx hb dX6_sumOf_28 rfl (lv_at hl 0 rfl) ?_
        refine gfX6_118 B hT hW (by decide) mE_0 rfl dX6_sumOf_29 ?_
        refine lv_aload_n hx hb dX6_sumOf_32 rfl (lv_at hl 0 rfl) ?_
        refine gfX6_125 B hT hW (by decide) mE_0 rfl dX6_sumOf_33 ?_
        refine lv_iadd hx hb dX6_sumOf_36 ?_
        refine lv_aload_n hx hb dX6_sumOf_37 rfl (lv_at hl 0 rfl) ?_
        refine gfX6_112 B hT hW (by decide) mE_0 rfl dX6_sumOf_38 ?_
        refine lv_iadd hx hb dX6_sumOf_41 ?_
        refine lv_iadd hx hb dX6_sumOf_42 ?_
        refine b_top (y := sumD (tot V ag nP h) (dy + 1 - 30 * mo) (30 * mo)) (by rw [show dy + 1 - 30 * mo = (dy - 30 * mo) + 1 by omega, sumD, show 30 * mo + (dy - 30 * mo) = dy by omega]; rfl) ?_
        refine lv_istore_n (lv' := [(3, .int (sumD (tot V ag nP h) (dy + 1 - 30 * mo) (30 * mo))), (0, .ref (ad 0)), (1, .int (nI h)), (2, .int (nI mo)), (4, .int (nI dy))]) hx hb dX6_sumOf_43 rfl hl (by decide) rfl (fun ls hl => ?_)
        refine lv_iinc (v := (nI (dy + 1))) (lv' := [(4, .int (nI (dy + 1))), (3, .int (sumD (tot V ag nP h) (dy + 1 - 30 * mo) (30 * mo))), (0, .ref (ad 0)), (1, .int (nI h)), (2, .int (nI mo))]) hx hb dX6_sumOf_44 hl (k := 4) rfl (nI_1 dy) (by decide) rfl (fun ls hl => ?_)
        refine lv_goto (tgt := 8) hx hb dX6_sumOf_47 (by decide) ?_
        exact ih (dy + 1) ((amt V ag nP h dy).1) ((amt V ag nP h dy).2.1) ((amt V ag nP h dy).2.2.1) ((cnt V ag (nI h) dy nP).1) ((cnt V ag (nI h) dy nP).2.1) ((cnt V ag (nI h) dy nP).2.2) ((amt V ag nP h dy).2.2.2.1) ((amt V ag nP h dy).2.2.2.2) (by omega) (by omega) (by omega) _ _ _ hW hS (lv_sub hl [2, 3, 4, 1, 0] rfl)
  refine lv_iconst (v := 0) hx hb dX6_sumOf_0 (by decide) ?_
  refine b_top (y := sumD (tot V ag nP h) (30 * mo - 30 * mo) (30 * mo)) (by rw [Nat.sub_self]; rfl) ?_
  refine lv_istore_n (lv' := [(3, .int (sumD (tot V ag nP h) (30 * mo - 30 * mo) (30 * mo))), (0, .ref (ad 0)), (1, .int (nI h)), (2, .int (nI mo))]) hx hb dX6_sumOf_1 rfl hl (by decide) rfl (fun ls hl => ?_)
  refine lv_bipush (v := (nI 30)) hx hb dX6_sumOf_2 (by decide) ?_
  refine lv_iload_n hx hb dX6_sumOf_4 rfl (lv_at hl 3 rfl) ?_
  refine lv_imul hx hb dX6_sumOf_5 ?_
  refine b_top (y := nI (30 * mo)) (pk_mul _ _) ?_
  refine lv_istore (lv' := [(4, .int (nI (30 * mo))), (3, .int (sumD (tot V ag nP h) (30 * mo - 30 * mo) (30 * mo))), (0, .ref (ad 0)), (1, .int (nI h)), (2, .int (nI mo))]) hx hb dX6_sumOf_6 hl (by decide) rfl (fun ls hl => ?_)
  exact L_8 32 (30 * mo) mA mC mH mG mS mI mT mP (by omega) (by omega) (by omega) _ _ _ hW hS (lv_sub hl [2, 3, 4, 1, 0] rfl)
