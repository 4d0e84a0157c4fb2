set_option maxHeartbeats 8000000 in
set_option maxRecDepth 100000 in
theorem lk_rule {p : Program} {l : Launch} {e : Env} {s : State} {m : MethodId} {args : Array Value} {below : List Frame} {meth : Method} {c : Code} {Q : State → Prop} {D : va_G} {ad : Nat → Nat} {cI cZ cH cP cT cJ cF : ClassId} {b L : Nat} {xs : Nat → Int32} (C : LC35 p l s m args c D ad cI cZ cH cP cT cJ cF b L xs) {V T : Nat → Nat → Int32} {ag : Nat → Int32} {P9 G9 rN : Nat} {nf pn : Int32} {sp sk : Int64} {py pd : Nat → Nat → Int32} {E : Nat → va_E} {H : Heap} {locs : List Loc} {ls : Array Slot} {kx nx jp jh jd jm c0 s0 C0 S0 : Nat} {bef : Int64} (hjp : jp ≤ P9) (hjh : jh ≤ G9) (hjd : jd ≤ 360) (hjm : jm < 1000) (hST : ST35 V G9 rN pn sp py pd) (hbf : sL nf sp sk (due V ag P9) pd rN G9 = bef) (hc : c0 + 400 ≤ C0) (hs : s0 + 2400 ≤ S0) (hC0 : C0 ≤ 600390) (hS0 : S0 ≤ 7288600) (K : LK35 p l e s m args below meth c Q D ad cI cH cP cT b ag P9 G9 kx nx bef C0 S0) (hC : CW cI cI cH cP cT ad V T ag P9 G9 rN nf pn sp sk py pd E) (hW : hH D ad 109 E H) (hS : va_S (cA ad 109 s.heap.size) s.heap H locs) (hl : lv_has ls 20 [(0, .ref b), (1, .ref (ad 0)), (2, .int (nI P9)), (3, .int (nI G9)), (4, .int 1), (5, .int (nI kx)), (6, .int (nI nx)), (7, .long bef), (10, .int (nI jp)), (11, .int (nI jh)), (12, .int (nI jd)), (13, .int (nI jm)), (14, .int nf), (15, .int 0)]) : W p l e room_1 s m args below meth c H locs (c0) (s0) Q (F0 m 481 ls []) := by
  obtain ⟨B, ⟨hlf, hT, hN, hX, hI⟩, hXs, hbl, hbA, hL⟩ := id C
  have hx := B.1
  have hb := B.2.1
  have hty : TY [(cI, .int), (cZ, .int), (cH, .object RX1), (cP, .object RX2), (cT, .object RX4), (cJ, .int), (cF, .int)] cI cI cH cP cT := ⟨rfl, rfl, rfl, rfl, rfl⟩
  obtain ⟨hP8, hH4, hR12⟩ := hC.bds
  obtain ⟨hHm, hJ⟩ := hST
  obtain ⟨so9, hInv9⟩ := hC.inv
  have L_568 : ∀ (_u : Nat) (lt : Int32), (hlt : rIx lt < 7) → ∀ (E : Nat → va_E) (H : Heap) (locs : List Loc) (ls : Array Slot), CW cI cI cH cP cT ad V T ag P9 G9 rN nf pn sp sk py pd E → hH D ad 109 E H → va_S (cA ad 109 s.heap.size) s.heap H locs → lv_has ls 20 [(0, .ref b), (1, .ref (ad 0)), (2, .int (nI P9)), (3, .int (nI G9)), (4, .int 1), (5, .int (nI kx)), (6, .int (nI nx)), (7, .long bef), (10, .int (nI jp)), (11, .int (nI jh)), (12, .int (nI jd)), (13, .int (nI jm)), (14, .int nf), (15, .int 0), (16, .int lt)] → W p l e room_1 s m args below meth c H locs (c0) (s0) Q (F0 m 568 ls []) := by
    intro _u lt hlt E H locs ls hC hW hS hl
    refine lv_iload hx hb dL_law_568 (lv_at hl 11 rfl) ?_
    refine lv_bipush (v := 101) hx hb dL_law_570 (by decide) ?_
    refine lv_irem hx hb dL_law_572 (by decide) ?_
    refine lv_istore (lv' := [(17, .int ((nI jm) - (nI jm) / 101 * 101)), (0, .ref b), (1, .ref (ad 0)), (2, .int (nI P9)), (3, .int (nI G9)), (4, .int 1), (5, .int (nI kx)), (6, .int (nI nx)), (7, .long bef), (10, .int (nI jp)), (11, .int (nI jh)), (12, .int (nI jd)), (13, .int (nI jm)), (14, .int nf), (15, .int 0), (16, .int lt)]) hx hb dL_law_573 hl (by decide) rfl (fun ls hl => ?_)
    refine lv_aload_n hx hb dL_law_575 rfl (lv_at hl 2 rfl) ?_
    refine lv_iload hx hb dL_law_576 (lv_at hl 15 rfl) ?_
    refine lv_iload hx hb dL_law_578 (lv_at hl 11 rfl) ?_
    refine y_ci (b_runSW B hT hX hN hW hS (As := [.ref (ad 0), .int lt, .int (nI jd)]) (rest := []) (fun sz => lq_ruleAt hlf hI hty lt (nI jd) hC sz) (cwL_150 B.2.2.2.2.1 ⟨Nat.le_of_ble_eq_true rfl, Nat.le_of_ble_eq_true rfl⟩) rfl hl.1 (Nat.le_of_ble_eq_true rfl) dL_law_580 ⟨by show _ ≤ 600390; omega, by show _ ≤ 7288600; omega⟩) hI hW hS (fun k h => h) (fun _ _ => rfl) (fun E1 => E1) (fun _ _ _ => rfl) (fun E1 j hj hno => absurd rfl (hno j hj)) (fun r_580 E H locs hp hW hS => ?_)
    obtain ⟨hr1, hC⟩ := hp
    refine lv_istore (lv' := [(18, .int r_580), (17, .int ((nI jm) - (nI jm) / 101 * 101)), (0, .ref b), (1, .ref (ad 0)), (2, .int (nI P9)), (3, .int (nI G9)), (4, .int 1), (5, .int (nI kx)), (6, .int (nI nx)), (7, .long bef), (10, .int (nI jp)), (11, .int (nI jh)), (12, .int (nI jd)), (13, .int (nI jm)), (14, .int nf), (15, .int 0), (16, .int lt)]) hx hb dL_law_583 hl (by decide) rfl (fun ls hl => ?_)
    refine lv_aload_n hx hb dL_law_585 rfl (lv_at hl 3 rfl) ?_
    refine lv_iload hx hb dL_law_586 (lv_at hl 16 rfl) ?_
    refine lv_iload hx hb dL_law_588 (lv_at hl 1 rfl) ?_
    refine lv_iload hx hb dL_law_590 (lv_at hl 12 rfl) ?_
    refine y_ci (b_runSW B hT hX hN hW hS (As := [.ref (ad 0), .int lt, .int ((nI jm) - (nI jm) / 101 * 101), .int (nI jd)]) (rest := []) (fun sz => lq_setRule hlf hI hty lt ((nI jm) - (nI jm) / 101 * 101) (nI jd) hC sz) (cwL_153 B.2.2.2.2.1 ⟨Nat.le_of_ble_eq_true rfl, Nat.le_of_ble_eq_true rfl⟩) rfl hl.1 (Nat.le_of_ble_eq_true rfl) dL_law_592 ⟨by show _ ≤ 600390; omega, by show _ ≤ 7288600; omega⟩) hI hW hS (fun k h => h) (fun _ _ => rfl) (fun E1 => E1) (fun _ _ _ => rfl) (fun E1 j hj hno => absurd rfl (hno j hj)) (fun r_592 E H locs hp hW hS => ?_)
    obtain ⟨hr_, hC⟩ := hp
    rcases kRule_c (c := lt) (v := (nI jm) - (nI jm) / 101 * 101) (d := jd) (by omega) hlt with h0 | hk | hk
    · skip
      obtain ⟨h0, hd9⟩ := h0
      rw [h0, hv_0, ix_n (by omega)] at hr_
      have hC := (hC.resolve_right (fun q => q.1 h0)).2
      rw [ix_n (by omega)] at hC
      have hr2 : r_580 = V (20 + rIx lt) jd := by rw [hr1, kRat_0 hlt hd9, hv_0, ix_n (by omega)]
      subst hr_
      refine lv_istore (lv' := [(15, .int (V (20 + rIx lt) jd)), (18, .int r_580), (17, .int ((nI jm) - (nI jm) / 101 * 101)), (0, .ref b), (1, .ref (ad 0)), (2, .int (nI P9)), (3, .int (nI G9)), (4, .int 1), (5, .int (nI kx)), (6, .int (nI nx)), (7, .long bef), (10, .int (nI jp)), (11, .int (nI jh)), (12, .int (nI jd)), (13, .int (nI jm)), (14, .int nf), (16, .int lt)]) hx hb dL_law_595 hl (by decide) rfl (fun ls hl => ?_)
      refine lv_iload hx hb dL_law_597 (lv_at hl 0 rfl) ?_
      refine lv_if_lt (tgt := 622) hx hb dL_law_599 (by decide) (fun c_599 => ?_) (fun c_599 => ?_)
      · exact absurd c_599 (nneg ((hInv9.2.2.2.2.2.1 (rIx lt) hlt jd hd9).1))
      · skip
        refine lv_iload hx hb dL_law_602 (lv_at hl 0 rfl) ?_
        refine lv_iload hx hb dL_law_604 (lv_at hl 1 rfl) ?_
        refine lv_icmp_ne (tgt := 626) hx hb dL_law_606 (by decide) (fun c_606 => ?_) (fun c_606 => ?_)
        · exact absurd hr2.symm c_606
        · skip
          refine lv_aload_n hx hb dL_law_609 rfl (lv_at hl 4 rfl) ?_
          refine lv_iload hx hb dL_law_610 (lv_at hl 16 rfl) ?_
          refine lv_iload hx hb dL_law_612 (lv_at hl 13 rfl) ?_
          refine y_ci (b_runSW B hT hX hN hW hS (As := [.ref (ad 0), .int lt, .int (nI jd)]) (rest := []) (fun sz => lq_ruleAt hlf hI hty lt (nI jd) hC sz) (cwL_150 B.2.2.2.2.1 ⟨Nat.le_of_ble_eq_true rfl, Nat.le_of_ble_eq_true rfl⟩) rfl hl.1 (Nat.le_of_ble_eq_true rfl) dL_law_614 ⟨by show _ ≤ 600390; omega, by show _ ≤ 7288600; omega⟩) hI hW hS (fun k h => h) (fun _ _ => rfl) (fun E1 => E1) (fun _ _ _ => rfl) (fun E1 j hj hno => absurd rfl (hno j hj)) (fun r_614 E H locs hp hW hS => ?_)
          obtain ⟨hr_, hC⟩ := hp
          rw [kRat_0 hlt hd9, hv_0, ix_n (by omega), tell_at] at hr_
          subst hr_
          refine lv_iload hx hb dL_law_617 (lv_at hl 2 rfl) ?_
          refine lv_icmp_ne (tgt := 626) hx hb dL_law_619 (by decide) (fun c_619 => ?_) (fun c_619 => ?_)
          · exact absurd rfl c_619
          · skip
            refine lv_iconst (v := 1) hx hb dL_law_622 (by decide) ?_
            refine lv_goto (tgt := 627) hx hb dL_law_623 (by decide) ?_
            refine lv_istore (lv' := [(4, .int 1), (15, .int (V (20 + rIx lt) jd)), (18, .int r_580), (17, .int ((nI jm) - (nI jm) / 101 * 101)), (0, .ref b), (1, .ref (ad 0)), (2, .int (nI P9)), (3, .int (nI G9)), (5, .int (nI kx)), (6, .int (nI nx)), (7, .long bef), (10, .int (nI jp)), (11, .int (nI jh)), (12, .int (nI jd)), (13, .int (nI jm)), (14, .int nf), (16, .int lt)]) hx hb dL_law_627 hl (by decide) rfl (fun ls hl => ?_)
            refine lv_goto (tgt := 845) hx hb dL_law_629 (by decide) ?_
            refine W.widen (k := C0) (n := S0) (by omega) (by omega) ?_
            exact K _ _ _ _ _ _ _ _ _ _ ⟨hHm.tell (fun q => absurd q (by omega)), hJ⟩ (Or.inl (by have := (hInv9.2.2.2.2.2.1 (rIx lt) hlt jd hd9).1; omega)) _ _ _ _ hC hW hS (lv_sub hl [4, 5, 6, 7, 0, 8, 9, 10, 1] rfl)
    · skip
      rw [hk, hv_1] at hr_
      have hC := (hC.resolve_left (fun q => absurd (hk.symm.trans q.1) (by decide))).2
      subst hr_
      refine lv_istore (lv' := [(15, .int (-75)), (18, .int r_580), (17, .int ((nI jm) - (nI jm) / 101 * 101)), (0, .ref b), (1, .ref (ad 0)), (2, .int (nI P9)), (3, .int (nI G9)), (4, .int 1), (5, .int (nI kx)), (6, .int (nI nx)), (7, .long bef), (10, .int (nI jp)), (11, .int (nI jh)), (12, .int (nI jd)), (13, .int (nI jm)), (14, .int nf), (16, .int lt)]) hx hb dL_law_595 hl (by decide) rfl (fun ls hl => ?_)
      refine lv_iload hx hb dL_law_597 (lv_at hl 0 rfl) ?_
      refine lv_if_lt (tgt := 622) hx hb dL_law_599 (by decide) (fun c_599 => ?_) (fun c_599 => ?_)
      · skip
        refine lv_iconst (v := 1) hx hb dL_law_622 (by decide) ?_
        refine lv_goto (tgt := 627) hx hb dL_law_623 (by decide) ?_
        refine lv_istore (lv' := [(4, .int 1), (15, .int (-75)), (18, .int r_580), (17, .int ((nI jm) - (nI jm) / 101 * 101)), (0, .ref b), (1, .ref (ad 0)), (2, .int (nI P9)), (3, .int (nI G9)), (5, .int (nI kx)), (6, .int (nI nx)), (7, .long bef), (10, .int (nI jp)), (11, .int (nI jh)), (12, .int (nI jd)), (13, .int (nI jm)), (14, .int nf), (16, .int lt)]) hx hb dL_law_627 hl (by decide) rfl (fun ls hl => ?_)
        refine lv_goto (tgt := 845) hx hb dL_law_629 (by decide) ?_
        refine W.widen (k := C0) (n := S0) (by omega) (by omega) ?_
        exact K _ _ _ _ _ _ _ _ _ _ ⟨hHm, hJ⟩ (Or.inr hbf) _ _ _ _ hC hW hS (lv_sub hl [4, 5, 6, 7, 0, 8, 9, 10, 1] rfl)
      · exact absurd (show ((-75) : Int32) < 0 by decide) c_599
    · skip
      rw [hk, hv_2] at hr_
      have hC := (hC.resolve_left (fun q => absurd (hk.symm.trans q.1) (by decide))).2
      subst hr_
      refine lv_istore (lv' := [(15, .int (-78)), (18, .int r_580), (17, .int ((nI jm) - (nI jm) / 101 * 101)), (0, .ref b), (1, .ref (ad 0)), (2, .int (nI P9)), (3, .int (nI G9)), (4, .int 1), (5, .int (nI kx)), (6, .int (nI nx)), (7, .long bef), (10, .int (nI jp)), (11, .int (nI jh)), (12, .int (nI jd)), (13, .int (nI jm)), (14, .int nf), (16, .int lt)]) hx hb dL_law_595 hl (by decide) rfl (fun ls hl => ?_)
      refine lv_iload hx hb dL_law_597 (lv_at hl 0 rfl) ?_
      refine lv_if_lt (tgt := 622) hx hb dL_law_599 (by decide) (fun c_599 => ?_) (fun c_599 => ?_)
      · skip
        refine lv_iconst (v := 1) hx hb dL_law_622 (by decide) ?_
        refine lv_goto (tgt := 627) hx hb dL_law_623 (by decide) ?_
        refine lv_istore (lv' := [(4, .int 1), (15, .int (-78)), (18, .int r_580), (17, .int ((nI jm) - (nI jm) / 101 * 101)), (0, .ref b), (1, .ref (ad 0)), (2, .int (nI P9)), (3, .int (nI G9)), (5, .int (nI kx)), (6, .int (nI nx)), (7, .long bef), (10, .int (nI jp)), (11, .int (nI jh)), (12, .int (nI jd)), (13, .int (nI jm)), (14, .int nf), (16, .int lt)]) hx hb dL_law_627 hl (by decide) rfl (fun ls hl => ?_)
        refine lv_goto (tgt := 845) hx hb dL_law_629 (by decide) ?_
        refine W.widen (k := C0) (n := S0) (by omega) (by omega) ?_
        exact K _ _ _ _ _ _ _ _ _ _ ⟨hHm, hJ⟩ (Or.inr hbf) _ _ _ _ hC hW hS (lv_sub hl [4, 5, 6, 7, 0, 8, 9, 10, 1] rfl)
      · exact absurd (show ((-78) : Int32) < 0 by decide) c_599
  refine lv_iload hx hb dL_law_481 (lv_at hl 11 rfl) ?_
  refine lv_bipush (v := 7) hx hb dL_law_483 (by decide) ?_
  refine lv_irem hx hb dL_law_485 (by decide) ?_
  refine lv_if_ne (tgt := 494) hx hb dL_law_486 (by decide) (fun c_486 => ?_) (fun c_486 => ?_)
  · skip
    refine lv_iload hx hb dL_law_494 (lv_at hl 11 rfl) ?_
    refine lv_bipush (v := 7) hx hb dL_law_496 (by decide) ?_
    refine lv_irem hx hb dL_law_498 (by decide) ?_
    refine lv_iconst (v := 1) hx hb dL_law_499 (by decide) ?_
    refine lv_icmp_ne (tgt := 508) hx hb dL_law_500 (by decide) (fun c_500 => ?_) (fun c_500 => ?_)
    · skip
      refine lv_iload hx hb dL_law_508 (lv_at hl 11 rfl) ?_
      refine lv_bipush (v := 7) hx hb dL_law_510 (by decide) ?_
      refine lv_irem hx hb dL_law_512 (by decide) ?_
      refine lv_iconst (v := 2) hx hb dL_law_513 (by decide) ?_
      refine lv_icmp_ne (tgt := 522) hx hb dL_law_514 (by decide) (fun c_514 => ?_) (fun c_514 => ?_)
      · skip
        refine lv_iload hx hb dL_law_522 (lv_at hl 11 rfl) ?_
        refine lv_bipush (v := 7) hx hb dL_law_524 (by decide) ?_
        refine lv_irem hx hb dL_law_526 (by decide) ?_
        refine lv_iconst (v := 3) hx hb dL_law_527 (by decide) ?_
        refine lv_icmp_ne (tgt := 536) hx hb dL_law_528 (by decide) (fun c_528 => ?_) (fun c_528 => ?_)
        · skip
          refine lv_iload hx hb dL_law_536 (lv_at hl 11 rfl) ?_
          refine lv_bipush (v := 7) hx hb dL_law_538 (by decide) ?_
          refine lv_irem hx hb dL_law_540 (by decide) ?_
          refine lv_iconst (v := 4) hx hb dL_law_541 (by decide) ?_
          refine lv_icmp_ne (tgt := 550) hx hb dL_law_542 (by decide) (fun c_542 => ?_) (fun c_542 => ?_)
          · skip
            refine lv_iload hx hb dL_law_550 (lv_at hl 11 rfl) ?_
            refine lv_bipush (v := 7) hx hb dL_law_552 (by decide) ?_
            refine lv_irem hx hb dL_law_554 (by decide) ?_
            refine lv_iconst (v := 5) hx hb dL_law_555 (by decide) ?_
            refine lv_icmp_ne (tgt := 564) hx hb dL_law_556 (by decide) (fun c_556 => ?_) (fun c_556 => ?_)
            · skip
              refine lv_bipush (v := 109) hx hb dL_law_564 (by decide) ?_
              refine lv_istore (lv' := [(16, .int 109), (0, .ref b), (1, .ref (ad 0)), (2, .int (nI P9)), (3, .int (nI G9)), (4, .int 1), (5, .int (nI kx)), (6, .int (nI nx)), (7, .long bef), (10, .int (nI jp)), (11, .int (nI jh)), (12, .int (nI jd)), (13, .int (nI jm)), (14, .int nf), (15, .int 0)]) hx hb dL_law_566 hl (by decide) rfl (fun ls hl => ?_)
              exact L_568 0 109 (by decide) _ _ _ _ hC hW hS (lv_sub hl [1, 2, 3, 4, 5, 6, 7, 8, 9, 10, 11, 12, 13, 14, 0] rfl)
            · skip
              refine lv_bipush (v := 112) hx hb dL_law_559 (by decide) ?_
              refine lv_goto (tgt := 566) hx hb dL_law_561 (by decide) ?_
              refine lv_istore (lv' := [(16, .int 112), (0, .ref b), (1, .ref (ad 0)), (2, .int (nI P9)), (3, .int (nI G9)), (4, .int 1), (5, .int (nI kx)), (6, .int (nI nx)), (7, .long bef), (10, .int (nI jp)), (11, .int (nI jh)), (12, .int (nI jd)), (13, .int (nI jm)), (14, .int nf), (15, .int 0)]) hx hb dL_law_566 hl (by decide) rfl (fun ls hl => ?_)
              exact L_568 0 112 (by decide) _ _ _ _ hC hW hS (lv_sub hl [1, 2, 3, 4, 5, 6, 7, 8, 9, 10, 11, 12, 13, 14, 0] rfl)
          · skip
            refine lv_bipush (v := 116) hx hb dL_law_545 (by decide) ?_
            refine lv_goto (tgt := 566) hx hb dL_law_547 (by decide) ?_
            refine lv_istore (lv' := [(16, .int 116), (0, .ref b), (1, .ref (ad 0)), (2, .int (nI P9)), (3, .int (nI G9)), (4, .int 1), (5, .int (nI kx)), (6, .int (nI nx)), (7, .long bef), (10, .int (nI jp)), (11, .int (nI jh)), (12, .int (nI jd)), (13, .int (nI jm)), (14, .int nf), (15, .int 0)]) hx hb dL_law_566 hl (by decide) rfl (fun ls hl => ?_)
            exact L_568 0 116 (by decide) _ _ _ _ hC hW hS (lv_sub hl [1, 2, 3, 4, 5, 6, 7, 8, 9, 10, 11, 12, 13, 14, 0] rfl)
        · skip
          refine lv_bipush (v := 114) hx hb dL_law_531 (by decide) ?_
          refine lv_goto (tgt := 566) hx hb dL_law_533 (by decide) ?_
          refine lv_istore (lv' := [(16, .int 114), (0, .ref b), (1, .ref (ad 0)), (2, .int (nI P9)), (3, .int (nI G9)), (4, .int 1), (5, .int (nI kx)), (6, .int (nI nx)), (7, .long bef), (10, .int (nI jp)), (11, .int (nI jh)), (12, .int (nI jd)), (13, .int (nI jm)), (14, .int nf), (15, .int 0)]) hx hb dL_law_566 hl (by decide) rfl (fun ls hl => ?_)
          exact L_568 0 114 (by decide) _ _ _ _ hC hW hS (lv_sub hl [1, 2, 3, 4, 5, 6, 7, 8, 9, 10, 11, 12, 13, 14, 0] rfl)
      · skip
        refine lv_bipush (v := 102) hx hb dL_law_517 (by decide) ?_
        refine lv_goto (tgt := 566) hx hb dL_law_519 (by decide) ?_
        refine lv_istore (lv' := [(16, .int 102), (0, .ref b), (1, .ref (ad 0)), (2, .int (nI P9)), (3, .int (nI G9)), (4, .int 1), (5, .int (nI kx)), (6, .int (nI nx)), (7, .long bef), (10, .int (nI jp)), (11, .int (nI jh)), (12, .int (nI jd)), (13, .int (nI jm)), (14, .int nf), (15, .int 0)]) hx hb dL_law_566 hl (by decide) rfl (fun ls hl => ?_)
        exact L_568 0 102 (by decide) _ _ _ _ hC hW hS (lv_sub hl [1, 2, 3, 4, 5, 6, 7, 8, 9, 10, 11, 12, 13, 14, 0] rfl)
    · skip
      refine lv_bipush (v := 99) hx hb dL_law_503 (by decide) ?_
      refine lv_goto (tgt := 566) hx hb dL_law_505 (by decide) ?_
      refine lv_istore (lv' := [(16, .int 99), (0, .ref b), (1, .ref (ad 0)), (2, .int (nI P9)), (3, .int (nI G9)), (4, .int 1), (5, .int (nI kx)), (6, .int (nI nx)), (7, .long bef), (10, .int (nI jp)), (11, .int (nI jh)), (12, .int (nI jd)), (13, .int (nI jm)), (14, .int nf), (15, .int 0)]) hx hb dL_law_566 hl (by decide) rfl (fun ls hl => ?_)
      exact L_568 0 99 (by decide) _ _ _ _ hC hW hS (lv_sub hl [1, 2, 3, 4, 5, 6, 7, 8, 9, 10, 11, 12, 13, 14, 0] rfl)
  · skip
    refine lv_bipush (v := 97) hx hb dL_law_489 (by decide) ?_
    refine lv_goto (tgt := 566) hx hb dL_law_491 (by decide) ?_
    refine lv_istore (lv' := [(16, .int 97), (0, .ref b), (1, .ref (ad 0)), (2, .int (nI P9)), (3, .int (nI G9)), (4, .int 1), (5, .int (nI kx)), (6, .int (nI nx)), (7, .long bef), (10, .int (nI jp)), (11, .int (nI jh)), (12, .int (nI jd)), (13, .int (nI jm)), (14, .int nf), (15, .int 0)]) hx hb dL_law_566 hl (by decide) rfl (fun ls hl => ?_)
    exact L_568 0 97 (by decide) _ _ _ _ hC hW hS (lv_sub hl [1, 2, 3, 4, 5, 6, 7, 8, 9, 10, 11, 12, 13, 14, 0] rfl)
set_option maxHeartbeats 8000000 in
set_option maxRecDepth 100000 in
theorem lk_tbmove {p : Program} {l : Launch} {e : Env} {s : State} {m : MethodId} {args : Array Value} {below : List Frame} {meth : Method} {c : Code} {Q : State → Prop} {D : va_G} {ad : Nat → Nat} {cI cZ cH cP cT cJ cF : ClassId} {b L : Nat} {xs : Nat → Int32} (C : LC35 p l s m args c D ad cI cZ cH cP cT cJ cF b L xs) {V T : Nat → Nat → Int32} {ag : Nat → Int32} {P9 G9 rN : Nat} {nf pn : Int32} {sp sk : Int64} {py pd : Nat → Nat → Int32} {E : Nat → va_E} {H : Heap} {locs : List Loc} {ls : Array Slot} {kx nx jp jh jd jm c0 s0 C0 S0 : Nat} {bef : Int64} (hjp : jp ≤ P9) (hjh : jh ≤ G9) (hjd : jd ≤ 360) (hjm : jm < 1000) (hST : ST35 V G9 rN pn sp py pd) (hbf : sL nf sp sk (due V ag P9) pd rN G9 = bef) (hc : c0 + 400 ≤ C0) (hs : s0 + 2400 ≤ S0) (hC0 : C0 ≤ 600390) (hS0 : S0 ≤ 7288600) (K : LK35 p l e s m args below meth c Q D ad cI cH cP cT b ag P9 G9 kx nx bef C0 S0) (hC : CW cI cI cH cP cT ad V T ag P9 G9 rN nf pn sp sk py pd E) (hW : hH D ad 109 E H) (hS : va_S (cA ad 109 s.heap.size) s.heap H locs) (hl : lv_has ls 20 [(0, .ref b), (1, .ref (ad 0)), (2, .int (nI P9)), (3, .int (nI G9)), (4, .int 1), (5, .int (nI kx)), (6, .int (nI nx)), (7, .long bef), (10, .int (nI jp)), (11, .int (nI jh)), (12, .int (nI jd)), (13, .int (nI jm)), (14, .int nf), (15, .int 0)]) : W p l e room_1 s m args below meth c H locs (c0) (s0) Q (F0 m 639 ls []) := by
  obtain ⟨B, ⟨hlf, hT, hN, hX, hI⟩, hXs, hbl, hbA, hL⟩ := id C
  have hx := B.1
  have hb := B.2.1
  have hty : TY [(cI, .int), (cZ, .int), (cH, .object RX1), (cP, .object RX2), (cT, .object RX4), (cJ, .int), (cF, .int)] cI cI cH cP cT := ⟨rfl, rfl, rfl, rfl, rfl⟩
  obtain ⟨hP8, hH4, hR12⟩ := hC.bds
  obtain ⟨hHm, hJ⟩ := hST
  obtain ⟨so9, hInv9⟩ := hC.inv
  refine lv_aload_n hx hb dL_law_639 rfl (lv_at hl 1 rfl) ?_
  refine lv_iload hx hb dL_law_640 (lv_at hl 8 rfl) ?_
  refine lv_iload hx hb dL_law_642 (lv_at hl 11 rfl) ?_
  refine lv_iconst (v := 3) hx hb dL_law_644 (by decide) ?_
  refine lv_irem hx hb dL_law_645 (by decide) ?_
  refine lv_if_ne (tgt := 653) hx hb dL_law_646 (by decide) (fun c_646 => ?_) (fun c_646 => ?_)
  · skip
    refine lv_iload hx hb dL_law_653 (lv_at hl 10 rfl) ?_
    refine y_ci (b_runSW B hT hX hN hW hS (As := [.ref (ad 0), .int (nI jp), .int (nI jd)]) (rest := []) (fun sz => lq_takeBackMove hlf hI hty (nI jp) (nI jd) hC sz) (cwL_156 B.2.2.2.2.1 ⟨Nat.le_of_ble_eq_true rfl, Nat.le_of_ble_eq_true rfl⟩) rfl hl.1 (Nat.le_of_ble_eq_true rfl) dL_law_655 ⟨by show _ ≤ 600390; omega, by show _ ≤ 7288600; omega⟩) hI hW hS (fun k h => h) (fun _ _ => rfl) (fun E1 => E1) (fun _ _ _ => rfl) (fun E1 j hj hno => absurd rfl (hno j hj)) (fun r_655 E H locs hp hW hS => ?_)
    obtain ⟨hr_, hC⟩ := hp
    rcases kTake_c (T := T) (o := 0) (n := P9) (p := jp) (d := jd) (by omega) (by omega) with h0 | hk | hk
    · skip
      obtain ⟨h0, hp9, hd9⟩ := h0
      rw [h0, hv_0, ix_n (by omega), ix_n (by omega), Nat.zero_add] at hr_
      have hC := (hC.resolve_right (fun q => q.1 h0)).2
      rw [ix_n (by omega), ix_n (by omega), Nat.zero_add] at hC
      subst hr_
      refine lv_istore (lv' := [(15, .int (V jp jd)), (0, .ref b), (1, .ref (ad 0)), (2, .int (nI P9)), (3, .int (nI G9)), (4, .int 1), (5, .int (nI kx)), (6, .int (nI nx)), (7, .long bef), (10, .int (nI jp)), (11, .int (nI jh)), (12, .int (nI jd)), (13, .int (nI jm)), (14, .int nf)]) hx hb dL_law_658 hl (by decide) rfl (fun ls hl => ?_)
      refine lv_iload hx hb dL_law_660 (lv_at hl 0 rfl) ?_
      refine lv_iconst (v := (-1)) hx hb dL_law_662 (by decide) ?_
      refine lv_icmp_lt (tgt := 677) hx hb dL_law_663 (by decide) (fun c_663 => ?_) (fun c_663 => ?_)
      · exact absurd c_663 (m1_le (hHm jp (by omega) jd hd9))
      · skip
        refine lv_aload_n hx hb dL_law_666 rfl (lv_at hl 2 rfl) ?_
        refine y_ci (b_runV B hT hX hW hS (As := []) (rest := []) (fun sz => mw_facts hI hty hC sz) (cwL_140 B.2.2.2.2.1 ⟨Nat.le_of_ble_eq_true rfl, Nat.le_of_ble_eq_true rfl⟩) (cw_recv B hW hC) rfl hl.1 (Nat.le_of_ble_eq_true rfl) dL_law_667 ⟨by show _ ≤ 600390; omega, by show _ ≤ 7288600; omega⟩) hI hW hS (fun k h => h) (fun _ _ => rfl) (fun E1 => E1) (fun _ _ _ => rfl) (fun E1 j hj hno => absurd rfl (hno j hj)) (fun r_667 E H locs hp hW hS => ?_)
        obtain ⟨hr_, hC⟩ := hp
        rw [hr_]
        refine lv_iload hx hb dL_law_670 (lv_at hl 13 rfl) ?_
        refine lv_iconst (v := 1) hx hb dL_law_672 (by decide) ?_
        refine lv_isub hx hb dL_law_673 ?_
        refine lv_icmp_ne (tgt := 681) hx hb dL_law_674 (by decide) (fun c_674 => ?_) (fun c_674 => ?_)
        · exact absurd rfl c_674
        · skip
          refine lv_iconst (v := 1) hx hb dL_law_677 (by decide) ?_
          refine lv_goto (tgt := 682) hx hb dL_law_678 (by decide) ?_
          refine lv_istore (lv' := [(4, .int 1), (15, .int (V jp jd)), (0, .ref b), (1, .ref (ad 0)), (2, .int (nI P9)), (3, .int (nI G9)), (5, .int (nI kx)), (6, .int (nI nx)), (7, .long bef), (10, .int (nI jp)), (11, .int (nI jh)), (12, .int (nI jd)), (13, .int (nI jm)), (14, .int nf)]) hx hb dL_law_682 hl (by decide) rfl (fun ls hl => ?_)
          refine lv_goto (tgt := 845) hx hb dL_law_684 (by decide) ?_
          refine W.widen (k := C0) (n := S0) (by omega) (by omega) ?_
          exact K _ _ _ _ _ _ _ _ _ _ ⟨hHm.take hd9, hJ⟩ (Or.inl (hHm jp (by omega) jd hd9)) _ _ _ _ hC hW hS (lv_sub hl [2, 3, 4, 5, 0, 6, 7, 8, 1] rfl)
    · skip
      rw [hk, hv_1] at hr_
      have hC := (hC.resolve_left (fun q => absurd (hk.symm.trans q.1) (by decide))).2
      subst hr_
      refine lv_istore (lv' := [(15, .int (-77)), (0, .ref b), (1, .ref (ad 0)), (2, .int (nI P9)), (3, .int (nI G9)), (4, .int 1), (5, .int (nI kx)), (6, .int (nI nx)), (7, .long bef), (10, .int (nI jp)), (11, .int (nI jh)), (12, .int (nI jd)), (13, .int (nI jm)), (14, .int nf)]) hx hb dL_law_658 hl (by decide) rfl (fun ls hl => ?_)
      refine lv_iload hx hb dL_law_660 (lv_at hl 0 rfl) ?_
      refine lv_iconst (v := (-1)) hx hb dL_law_662 (by decide) ?_
      refine lv_icmp_lt (tgt := 677) hx hb dL_law_663 (by decide) (fun c_663 => ?_) (fun c_663 => ?_)
      · skip
        refine lv_iconst (v := 1) hx hb dL_law_677 (by decide) ?_
        refine lv_goto (tgt := 682) hx hb dL_law_678 (by decide) ?_
        refine lv_istore (lv' := [(4, .int 1), (15, .int (-77)), (0, .ref b), (1, .ref (ad 0)), (2, .int (nI P9)), (3, .int (nI G9)), (5, .int (nI kx)), (6, .int (nI nx)), (7, .long bef), (10, .int (nI jp)), (11, .int (nI jh)), (12, .int (nI jd)), (13, .int (nI jm)), (14, .int nf)]) hx hb dL_law_682 hl (by decide) rfl (fun ls hl => ?_)
        refine lv_goto (tgt := 845) hx hb dL_law_684 (by decide) ?_
        refine W.widen (k := C0) (n := S0) (by omega) (by omega) ?_
        exact K _ _ _ _ _ _ _ _ _ _ ⟨hHm, hJ⟩ (Or.inr hbf) _ _ _ _ hC hW hS (lv_sub hl [2, 3, 4, 5, 0, 6, 7, 8, 1] rfl)
      · exact absurd (show ((-77) : Int32) < -1 by decide) c_663
    · skip
      rw [hk, hv_2] at hr_
      have hC := (hC.resolve_left (fun q => absurd (hk.symm.trans q.1) (by decide))).2
      subst hr_
      refine lv_istore (lv' := [(15, .int (-75)), (0, .ref b), (1, .ref (ad 0)), (2, .int (nI P9)), (3, .int (nI G9)), (4, .int 1), (5, .int (nI kx)), (6, .int (nI nx)), (7, .long bef), (10, .int (nI jp)), (11, .int (nI jh)), (12, .int (nI jd)), (13, .int (nI jm)), (14, .int nf)]) hx hb dL_law_658 hl (by decide) rfl (fun ls hl => ?_)
      refine lv_iload hx hb dL_law_660 (lv_at hl 0 rfl) ?_
      refine lv_iconst (v := (-1)) hx hb dL_law_662 (by decide) ?_
      refine lv_icmp_lt (tgt := 677) hx hb dL_law_663 (by decide) (fun c_663 => ?_) (fun c_663 => ?_)
      · skip
        refine lv_iconst (v := 1) hx hb dL_law_677 (by decide) ?_
        refine lv_goto (tgt := 682) hx hb dL_law_678 (by decide) ?_
        refine lv_istore (lv' := [(4, .int 1), (15, .int (-75)), (0, .ref b), (1, .ref (ad 0)), (2, .int (nI P9)), (3, .int (nI G9)), (5, .int (nI kx)), (6, .int (nI nx)), (7, .long bef), (10, .int (nI jp)), (11, .int (nI jh)), (12, .int (nI jd)), (13, .int (nI jm)), (14, .int nf)]) hx hb dL_law_682 hl (by decide) rfl (fun ls hl => ?_)
        refine lv_goto (tgt := 845) hx hb dL_law_684 (by decide) ?_
        refine W.widen (k := C0) (n := S0) (by omega) (by omega) ?_
        exact K _ _ _ _ _ _ _ _ _ _ ⟨hHm, hJ⟩ (Or.inr hbf) _ _ _ _ hC hW hS (lv_sub hl [2, 3, 4, 5, 0, 6, 7, 8, 1] rfl)
      · exact absurd (show ((-75) : Int32) < -1 by decide) c_663
  · skip
    refine lv_iconst (v := (nI 0)) hx hb dL_law_649 (by decide) ?_
    refine lv_goto (tgt := 655) hx hb dL_law_650 (by decide) ?_
    refine y_ci (b_runSW B hT hX hN hW hS (As := [.ref (ad 0), .int (nI jp), .int (nI 0)]) (rest := []) (fun sz => lq_takeBackMove hlf hI hty (nI jp) (nI 0) hC sz) (cwL_156 B.2.2.2.2.1 ⟨Nat.le_of_ble_eq_true rfl, Nat.le_of_ble_eq_true rfl⟩) rfl hl.1 (Nat.le_of_ble_eq_true rfl) dL_law_655 ⟨by show _ ≤ 600390; omega, by show _ ≤ 7288600; omega⟩) hI hW hS (fun k h => h) (fun _ _ => rfl) (fun E1 => E1) (fun _ _ _ => rfl) (fun E1 j hj hno => absurd rfl (hno j hj)) (fun r_655 E H locs hp hW hS => ?_)
    obtain ⟨hr_, hC⟩ := hp
    rcases kTake_c (T := T) (o := 0) (n := P9) (p := jp) (d := 0) (by omega) (by omega) with h0 | hk | hk
    · skip
      obtain ⟨h0, hp9, hd9⟩ := h0
      rw [h0, hv_0, ix_n (by omega), ix_n (by omega), Nat.zero_add] at hr_
      have hC := (hC.resolve_right (fun q => q.1 h0)).2
      rw [ix_n (by omega), ix_n (by omega), Nat.zero_add] at hC
      subst hr_
      refine lv_istore (lv' := [(15, .int (V jp 0)), (0, .ref b), (1, .ref (ad 0)), (2, .int (nI P9)), (3, .int (nI G9)), (4, .int 1), (5, .int (nI kx)), (6, .int (nI nx)), (7, .long bef), (10, .int (nI jp)), (11, .int (nI jh)), (12, .int (nI jd)), (13, .int (nI jm)), (14, .int nf)]) hx hb dL_law_658 hl (by decide) rfl (fun ls hl => ?_)
      refine lv_iload hx hb dL_law_660 (lv_at hl 0 rfl) ?_
      refine lv_iconst (v := (-1)) hx hb dL_law_662 (by decide) ?_
      refine lv_icmp_lt (tgt := 677) hx hb dL_law_663 (by decide) (fun c_663 => ?_) (fun c_663 => ?_)
      · exact absurd c_663 (m1_le (hHm jp (by omega) 0 hd9))
      · skip
        refine lv_aload_n hx hb dL_law_666 rfl (lv_at hl 2 rfl) ?_
        refine y_ci (b_runV B hT hX hW hS (As := []) (rest := []) (fun sz => mw_facts hI hty hC sz) (cwL_140 B.2.2.2.2.1 ⟨Nat.le_of_ble_eq_true rfl, Nat.le_of_ble_eq_true rfl⟩) (cw_recv B hW hC) rfl hl.1 (Nat.le_of_ble_eq_true rfl) dL_law_667 ⟨by show _ ≤ 600390; omega, by show _ ≤ 7288600; omega⟩) hI hW hS (fun k h => h) (fun _ _ => rfl) (fun E1 => E1) (fun _ _ _ => rfl) (fun E1 j hj hno => absurd rfl (hno j hj)) (fun r_667 E H locs hp hW hS => ?_)
        obtain ⟨hr_, hC⟩ := hp
        rw [hr_]
        refine lv_iload hx hb dL_law_670 (lv_at hl 13 rfl) ?_
        refine lv_iconst (v := 1) hx hb dL_law_672 (by decide) ?_
        refine lv_isub hx hb dL_law_673 ?_
        refine lv_icmp_ne (tgt := 681) hx hb dL_law_674 (by decide) (fun c_674 => ?_) (fun c_674 => ?_)
        · exact absurd rfl c_674
        · skip
          refine lv_iconst (v := 1) hx hb dL_law_677 (by decide) ?_
          refine lv_goto (tgt := 682) hx hb dL_law_678 (by decide) ?_
          refine lv_istore (lv' := [(4, .int 1), (15, .int (V jp 0)), (0, .ref b), (1, .ref (ad 0)), (2, .int (nI P9)), (3, .int (nI G9)), (5, .int (nI kx)), (6, .int (nI nx)), (7, .long bef), (10, .int (nI jp)), (11, .int (nI jh)), (12, .int (nI jd)), (13, .int (nI jm)), (14, .int nf)]) hx hb dL_law_682 hl (by decide) rfl (fun ls hl => ?_)
          refine lv_goto (tgt := 845) hx hb dL_law_684 (by decide) ?_
          refine W.widen (k := C0) (n := S0) (by omega) (by omega) ?_
          exact K _ _ _ _ _ _ _ _ _ _ ⟨hHm.take hd9, hJ⟩ (Or.inl (hHm jp (by omega) 0 hd9)) _ _ _ _ hC hW hS (lv_sub hl [2, 3, 4, 5, 0, 6, 7, 8, 1] rfl)
    · skip
      rw [hk, hv_1] at hr_
      have hC := (hC.resolve_left (fun q => absurd (hk.symm.trans q.1) (by decide))).2
      subst hr_
      refine lv_istore (lv' := [(15, .int (-77)), (0, .ref b), (1, .ref (ad 0)), (2, .int (nI P9)), (3, .int (nI G9)), (4, .int 1), (5, .int (nI kx)), (6, .int (nI nx)), (7, .long bef), (10, .int (nI jp)), (11, .int (nI jh)), (12, .int (nI jd)), (13, .int (nI jm)), (14, .int nf)]) hx hb dL_law_658 hl (by decide) rfl (fun ls hl => ?_)
      refine lv_iload hx hb dL_law_660 (lv_at hl 0 rfl) ?_
      refine lv_iconst (v := (-1)) hx hb dL_law_662 (by decide) ?_
      refine lv_icmp_lt (tgt := 677) hx hb dL_law_663 (by decide) (fun c_663 => ?_) (fun c_663 => ?_)
      · skip
        refine lv_iconst (v := 1) hx hb dL_law_677 (by decide) ?_
        refine lv_goto (tgt := 682) hx hb dL_law_678 (by decide) ?_
        refine lv_istore (lv' := [(4, .int 1), (15, .int (-77)), (0, .ref b), (1, .ref (ad 0)), (2, .int (nI P9)), (3, .int (nI G9)), (5, .int (nI kx)), (6, .int (nI nx)), (7, .long bef), (10, .int (nI jp)), (11, .int (nI jh)), (12, .int (nI jd)), (13, .int (nI jm)), (14, .int nf)]) hx hb dL_law_682 hl (by decide) rfl (fun ls hl => ?_)
        refine lv_goto (tgt := 845) hx hb dL_law_684 (by decide) ?_
        refine W.widen (k := C0) (n := S0) (by omega) (by omega) ?_
        exact K _ _ _ _ _ _ _ _ _ _ ⟨hHm, hJ⟩ (Or.inr hbf) _ _ _ _ hC hW hS (lv_sub hl [2, 3, 4, 5, 0, 6, 7, 8, 1] rfl)
      · exact absurd (show ((-77) : Int32) < -1 by decide) c_663
    · skip
      rw [hk, hv_2] at hr_
      have hC := (hC.resolve_left (fun q => absurd (hk.symm.trans q.1) (by decide))).2
      subst hr_
      refine lv_istore (lv' := [(15, .int (-75)), (0, .ref b), (1, .ref (ad 0)), (2, .int (nI P9)), (3, .int (nI G9)), (4, .int 1), (5, .int (nI kx)), (6, .int (nI nx)), (7, .long bef), (10, .int (nI jp)), (11, .int (nI jh)), (12, .int (nI jd)), (13, .int (nI jm)), (14, .int nf)]) hx hb dL_law_658 hl (by decide) rfl (fun ls hl => ?_)
      refine lv_iload hx hb dL_law_660 (lv_at hl 0 rfl) ?_
      refine lv_iconst (v := (-1)) hx hb dL_law_662 (by decide) ?_
      refine lv_icmp_lt (tgt := 677) hx hb dL_law_663 (by decide) (fun c_663 => ?_) (fun c_663 => ?_)
      · skip
        refine lv_iconst (v := 1) hx hb dL_law_677 (by decide) ?_
        refine lv_goto (tgt := 682) hx hb dL_law_678 (by decide) ?_
        refine lv_istore (lv' := [(4, .int 1), (15, .int (-75)), (0, .ref b), (1, .ref (ad 0)), (2, .int (nI P9)), (3, .int (nI G9)), (5, .int (nI kx)), (6, .int (nI nx)), (7, .long bef), (10, .int (nI jp)), (11, .int (nI jh)), (12, .int (nI jd)), (13, .int (nI jm)), (14, .int nf)]) hx hb dL_law_682 hl (by decide) rfl (fun ls hl => ?_)
        refine lv_goto (tgt := 845) hx hb dL_law_684 (by decide) ?_
        refine W.widen (k := C0) (n := S0) (by omega) (by omega) ?_
        exact K _ _ _ _ _ _ _ _ _ _ ⟨hHm, hJ⟩ (Or.inr hbf) _ _ _ _ hC hW hS (lv_sub hl [2, 3, 4, 5, 0, 6, 7, 8, 1] rfl)
      · exact absurd (show ((-75) : Int32) < -1 by decide) c_663
set_option maxHeartbeats 8000000 in
set_option maxRecDepth 100000 in
theorem lk_tbincome {p : Program} {l : Launch} {e : Env} {s : State} {m : MethodId} {args : Array Value} {below : List Frame} {meth : Method} {c : Code} {Q : State → Prop} {D : va_G} {ad : Nat → Nat} {cI cZ cH cP cT cJ cF : ClassId} {b L : Nat} {xs : Nat → Int32} (C : LC35 p l s m args c D ad cI cZ cH cP cT cJ cF b L xs) {V T : Nat → Nat → Int32} {ag : Nat → Int32} {P9 G9 rN : Nat} {nf pn : Int32} {sp sk : Int64} {py pd : Nat → Nat → Int32} {E : Nat → va_E} {H : Heap} {locs : List Loc} {ls : Array Slot} {kx nx jp jh jd jm c0 s0 C0 S0 : Nat} {bef : Int64} (hjp : jp ≤ P9) (hjh : jh ≤ G9) (hjd : jd ≤ 360) (hjm : jm < 1000) (hST : ST35 V G9 rN pn sp py pd) (hbf : sL nf sp sk (due V ag P9) pd rN G9 = bef) (hc : c0 + 400 ≤ C0) (hs : s0 + 2400 ≤ S0) (hC0 : C0 ≤ 600390) (hS0 : S0 ≤ 7288600) (K : LK35 p l e s m args below meth c Q D ad cI cH cP cT b ag P9 G9 kx nx bef C0 S0) (hC : CW cI cI cH cP cT ad V T ag P9 G9 rN nf pn sp sk py pd E) (hW : hH D ad 109 E H) (hS : va_S (cA ad 109 s.heap.size) s.heap H locs) (hl : lv_has ls 20 [(0, .ref b), (1, .ref (ad 0)), (2, .int (nI P9)), (3, .int (nI G9)), (4, .int 1), (5, .int (nI kx)), (6, .int (nI nx)), (7, .long bef), (10, .int (nI jp)), (11, .int (nI jh)), (12, .int (nI jd)), (13, .int (nI jm)), (14, .int nf), (15, .int 0)]) : W p l e room_1 s m args below meth c H locs (c0) (s0) Q (F0 m 694 ls []) := by
  obtain ⟨B, ⟨hlf, hT, hN, hX, hI⟩, hXs, hbl, hbA, hL⟩ := id C
  have hx := B.1
  have hb := B.2.1
  have hty : TY [(cI, .int), (cZ, .int), (cH, .object RX1), (cP, .object RX2), (cT, .object RX4), (cJ, .int), (cF, .int)] cI cI cH cP cT := ⟨rfl, rfl, rfl, rfl, rfl⟩
  obtain ⟨hP8, hH4, hR12⟩ := hC.bds
  obtain ⟨hHm, hJ⟩ := hST
  obtain ⟨so9, hInv9⟩ := hC.inv
  refine lv_aload_n hx hb dL_law_694 rfl (lv_at hl 1 rfl) ?_
  refine lv_iload hx hb dL_law_695 (lv_at hl 8 rfl) ?_
  refine lv_iload hx hb dL_law_697 (lv_at hl 10 rfl) ?_
  refine y_ci (b_runSW B hT hX hN hW hS (As := [.ref (ad 0), .int (nI jp), .int (nI jd)]) (rest := []) (fun sz => lq_takeBackIncome hlf hI hty (nI jp) (nI jd) hC sz) (cwL_158 B.2.2.2.2.1 ⟨Nat.le_of_ble_eq_true rfl, Nat.le_of_ble_eq_true rfl⟩) rfl hl.1 (Nat.le_of_ble_eq_true rfl) dL_law_699 ⟨by show _ ≤ 600390; omega, by show _ ≤ 7288600; omega⟩) hI hW hS (fun k h => h) (fun _ _ => rfl) (fun E1 => E1) (fun _ _ _ => rfl) (fun E1 j hj hno => absurd rfl (hno j hj)) (fun r_699 E H locs hp hW hS => ?_)
  obtain ⟨hr_, hC⟩ := hp
  rcases kTake_c (T := T) (o := 8) (n := P9) (p := jp) (d := jd) (by omega) (by omega) with h0 | hk | hk
  · skip
    obtain ⟨h0, hp9, hd9⟩ := h0
    rw [h0, hv_0, ix_n (by omega), ix_n (by omega)] at hr_
    have hC := (hC.resolve_right (fun q => q.1 h0)).2
    rw [ix_n (by omega), ix_n (by omega)] at hC
    subst hr_
    refine lv_istore (lv' := [(15, .int (V (8 + jp) jd)), (0, .ref b), (1, .ref (ad 0)), (2, .int (nI P9)), (3, .int (nI G9)), (4, .int 1), (5, .int (nI kx)), (6, .int (nI nx)), (7, .long bef), (10, .int (nI jp)), (11, .int (nI jh)), (12, .int (nI jd)), (13, .int (nI jm)), (14, .int nf)]) hx hb dL_law_702 hl (by decide) rfl (fun ls hl => ?_)
    refine lv_iload hx hb dL_law_704 (lv_at hl 0 rfl) ?_
    refine lv_if_lt (tgt := 720) hx hb dL_law_706 (by decide) (fun c_706 => ?_) (fun c_706 => ?_)
    · exact absurd c_706 (nneg (hInv9.2.2.2.2.1 (8 + jp) (by omega) (by omega) jd hd9).1)
    · skip
      refine lv_aload_n hx hb dL_law_709 rfl (lv_at hl 2 rfl) ?_
      refine y_ci (b_runV B hT hX hW hS (As := []) (rest := []) (fun sz => mw_facts hI hty hC sz) (cwL_140 B.2.2.2.2.1 ⟨Nat.le_of_ble_eq_true rfl, Nat.le_of_ble_eq_true rfl⟩) (cw_recv B hW hC) rfl hl.1 (Nat.le_of_ble_eq_true rfl) dL_law_710 ⟨by show _ ≤ 600390; omega, by show _ ≤ 7288600; omega⟩) hI hW hS (fun k h => h) (fun _ _ => rfl) (fun E1 => E1) (fun _ _ _ => rfl) (fun E1 j hj hno => absurd rfl (hno j hj)) (fun r_710 E H locs hp hW hS => ?_)
      obtain ⟨hr_, hC⟩ := hp
      rw [hr_]
      refine lv_iload hx hb dL_law_713 (lv_at hl 13 rfl) ?_
      refine lv_iconst (v := 1) hx hb dL_law_715 (by decide) ?_
      refine lv_isub hx hb dL_law_716 ?_
      refine lv_icmp_ne (tgt := 724) hx hb dL_law_717 (by decide) (fun c_717 => ?_) (fun c_717 => ?_)
      · exact absurd rfl c_717
      · skip
        refine lv_iconst (v := 1) hx hb dL_law_720 (by decide) ?_
        refine lv_goto (tgt := 725) hx hb dL_law_721 (by decide) ?_
        refine lv_istore (lv' := [(4, .int 1), (15, .int (V (8 + jp) jd)), (0, .ref b), (1, .ref (ad 0)), (2, .int (nI P9)), (3, .int (nI G9)), (5, .int (nI kx)), (6, .int (nI nx)), (7, .long bef), (10, .int (nI jp)), (11, .int (nI jh)), (12, .int (nI jd)), (13, .int (nI jm)), (14, .int nf)]) hx hb dL_law_725 hl (by decide) rfl (fun ls hl => ?_)
        refine lv_goto (tgt := 845) hx hb dL_law_727 (by decide) ?_
        refine W.widen (k := C0) (n := S0) (by omega) (by omega) ?_
        exact K _ _ _ _ _ _ _ _ _ _ ⟨hHm.take hd9, hJ⟩ (Or.inl (by have := (hInv9.2.2.2.2.1 (8 + jp) (by omega) (by omega) jd hd9).1; omega)) _ _ _ _ hC hW hS (lv_sub hl [2, 3, 4, 5, 0, 6, 7, 8, 1] rfl)
  · skip
    rw [hk, hv_1] at hr_
    have hC := (hC.resolve_left (fun q => absurd (hk.symm.trans q.1) (by decide))).2
    subst hr_
    refine lv_istore (lv' := [(15, .int (-77)), (0, .ref b), (1, .ref (ad 0)), (2, .int (nI P9)), (3, .int (nI G9)), (4, .int 1), (5, .int (nI kx)), (6, .int (nI nx)), (7, .long bef), (10, .int (nI jp)), (11, .int (nI jh)), (12, .int (nI jd)), (13, .int (nI jm)), (14, .int nf)]) hx hb dL_law_702 hl (by decide) rfl (fun ls hl => ?_)
    refine lv_iload hx hb dL_law_704 (lv_at hl 0 rfl) ?_
    refine lv_if_lt (tgt := 720) hx hb dL_law_706 (by decide) (fun c_706 => ?_) (fun c_706 => ?_)
    · skip
      refine lv_iconst (v := 1) hx hb dL_law_720 (by decide) ?_
      refine lv_goto (tgt := 725) hx hb dL_law_721 (by decide) ?_
      refine lv_istore (lv' := [(4, .int 1), (15, .int (-77)), (0, .ref b), (1, .ref (ad 0)), (2, .int (nI P9)), (3, .int (nI G9)), (5, .int (nI kx)), (6, .int (nI nx)), (7, .long bef), (10, .int (nI jp)), (11, .int (nI jh)), (12, .int (nI jd)), (13, .int (nI jm)), (14, .int nf)]) hx hb dL_law_725 hl (by decide) rfl (fun ls hl => ?_)
      refine lv_goto (tgt := 845) hx hb dL_law_727 (by decide) ?_
      refine W.widen (k := C0) (n := S0) (by omega) (by omega) ?_
      exact K _ _ _ _ _ _ _ _ _ _ ⟨hHm, hJ⟩ (Or.inr hbf) _ _ _ _ hC hW hS (lv_sub hl [2, 3, 4, 5, 0, 6, 7, 8, 1] rfl)
    · exact absurd (show ((-77) : Int32) < 0 by decide) c_706
  · skip
    rw [hk, hv_2] at hr_
    have hC := (hC.resolve_left (fun q => absurd (hk.symm.trans q.1) (by decide))).2
    subst hr_
    refine lv_istore (lv' := [(15, .int (-75)), (0, .ref b), (1, .ref (ad 0)), (2, .int (nI P9)), (3, .int (nI G9)), (4, .int 1), (5, .int (nI kx)), (6, .int (nI nx)), (7, .long bef), (10, .int (nI jp)), (11, .int (nI jh)), (12, .int (nI jd)), (13, .int (nI jm)), (14, .int nf)]) hx hb dL_law_702 hl (by decide) rfl (fun ls hl => ?_)
    refine lv_iload hx hb dL_law_704 (lv_at hl 0 rfl) ?_
    refine lv_if_lt (tgt := 720) hx hb dL_law_706 (by decide) (fun c_706 => ?_) (fun c_706 => ?_)
    · skip
      refine lv_iconst (v := 1) hx hb dL_law_720 (by decide) ?_
      refine lv_goto (tgt := 725) hx hb dL_law_721 (by decide) ?_
      refine lv_istore (lv' := [(4, .int 1), (15, .int (-75)), (0, .ref b), (1, .ref (ad 0)), (2, .int (nI P9)), (3, .int (nI G9)), (5, .int (nI kx)), (6, .int (nI nx)), (7, .long bef), (10, .int (nI jp)), (11, .int (nI jh)), (12, .int (nI jd)), (13, .int (nI jm)), (14, .int nf)]) hx hb dL_law_725 hl (by decide) rfl (fun ls hl => ?_)
      refine lv_goto (tgt := 845) hx hb dL_law_727 (by decide) ?_
      refine W.widen (k := C0) (n := S0) (by omega) (by omega) ?_
      exact K _ _ _ _ _ _ _ _ _ _ ⟨hHm, hJ⟩ (Or.inr hbf) _ _ _ _ hC hW hS (lv_sub hl [2, 3, 4, 5, 0, 6, 7, 8, 1] rfl)
    · exact absurd (show ((-75) : Int32) < 0 by decide) c_706
set_option maxHeartbeats 8000000 in
set_option maxRecDepth 100000 in
theorem lk_tbrule {p : Program} {l : Launch} {e : Env} {s : State} {m : MethodId} {args : Array Value} {below : List Frame} {meth : Method} {c : Code} {Q : State → Prop} {D : va_G} {ad : Nat → Nat} {cI cZ cH cP cT cJ cF : ClassId} {b L : Nat} {xs : Nat → Int32} (C : LC35 p l s m args c D ad cI cZ cH cP cT cJ cF b L xs) {V T : Nat → Nat → Int32} {ag : Nat → Int32} {P9 G9 rN : Nat} {nf pn : Int32} {sp sk : Int64} {py pd : Nat → Nat → Int32} {E : Nat → va_E} {H : Heap} {locs : List Loc} {ls : Array Slot} {kx nx jp jh jd jm c0 s0 C0 S0 : Nat} {bef : Int64} (hjp : jp ≤ P9) (hjh : jh ≤ G9) (hjd : jd ≤ 360) (hjm : jm < 1000) (hST : ST35 V G9 rN pn sp py pd) (hbf : sL nf sp sk (due V ag P9) pd rN G9 = bef) (hc : c0 + 400 ≤ C0) (hs : s0 + 2400 ≤ S0) (hC0 : C0 ≤ 600390) (hS0 : S0 ≤ 7288600) (K : LK35 p l e s m args below meth c Q D ad cI cH cP cT b ag P9 G9 kx nx bef C0 S0) (hC : CW cI cI cH cP cT ad V T ag P9 G9 rN nf pn sp sk py pd E) (hW : hH D ad 109 E H) (hS : va_S (cA ad 109 s.heap.size) s.heap H locs) (hl : lv_has ls 20 [(0, .ref b), (1, .ref (ad 0)), (2, .int (nI P9)), (3, .int (nI G9)), (4, .int 1), (5, .int (nI kx)), (6, .int (nI nx)), (7, .long bef), (10, .int (nI jp)), (11, .int (nI jh)), (12, .int (nI jd)), (13, .int (nI jm)), (14, .int nf), (15, .int 0)]) : W p l e room_1 s m args below meth c H locs (c0) (s0) Q (F0 m 737 ls []) := by
  obtain ⟨B, ⟨hlf, hT, hN, hX, hI⟩, hXs, hbl, hbA, hL⟩ := id C
  have hx := B.1
  have hb := B.2.1
  have hty : TY [(cI, .int), (cZ, .int), (cH, .object RX1), (cP, .object RX2), (cT, .object RX4), (cJ, .int), (cF, .int)] cI cI cH cP cT := ⟨rfl, rfl, rfl, rfl, rfl⟩
  obtain ⟨hP8, hH4, hR12⟩ := hC.bds
  obtain ⟨hHm, hJ⟩ := hST
  obtain ⟨so9, hInv9⟩ := hC.inv
  refine lv_aload_n hx hb dL_law_737 rfl (lv_at hl 1 rfl) ?_
  refine lv_bipush (v := 109) hx hb dL_law_738 (by decide) ?_
  refine lv_iload hx hb dL_law_740 (lv_at hl 10 rfl) ?_
  refine y_ci (b_runSW B hT hX hN hW hS (As := [.ref (ad 0), .int 109, .int (nI jd)]) (rest := []) (fun sz => lq_takeBackRule hlf hI hty 109 (nI jd) hC sz) (cwL_160 B.2.2.2.2.1 ⟨Nat.le_of_ble_eq_true rfl, Nat.le_of_ble_eq_true rfl⟩) rfl hl.1 (Nat.le_of_ble_eq_true rfl) dL_law_742 ⟨by show _ ≤ 600390; omega, by show _ ≤ 7288600; omega⟩) hI hW hS (fun k h => h) (fun _ _ => rfl) (fun E1 => E1) (fun _ _ _ => rfl) (fun E1 j hj hno => absurd rfl (hno j hj)) (fun r_742 E H locs hp hW hS => ?_)
  obtain ⟨hr_, hC⟩ := hp
  rcases kTakeR_c (T := T) (c := 109) (d := jd) (by omega) with h0 | hk | hk
  · skip
    obtain ⟨h0, hd9⟩ := h0
    rw [h0, hv_0, show rIx 109 = 6 by decide, ix_n (by omega)] at hr_
    have hC := (hC.resolve_right (fun q => q.1 h0)).2
    rw [show rIx 109 = 6 by decide, ix_n (by omega)] at hC
    subst hr_
    refine lv_istore (lv' := [(15, .int (V (20 + 6) jd)), (0, .ref b), (1, .ref (ad 0)), (2, .int (nI P9)), (3, .int (nI G9)), (4, .int 1), (5, .int (nI kx)), (6, .int (nI nx)), (7, .long bef), (10, .int (nI jp)), (11, .int (nI jh)), (12, .int (nI jd)), (13, .int (nI jm)), (14, .int nf)]) hx hb dL_law_745 hl (by decide) rfl (fun ls hl => ?_)
    refine lv_iload hx hb dL_law_747 (lv_at hl 0 rfl) ?_
    refine lv_if_lt (tgt := 763) hx hb dL_law_749 (by decide) (fun c_749 => ?_) (fun c_749 => ?_)
    · exact absurd c_749 (nneg (hInv9.2.2.2.2.2.1 6 (by omega) jd hd9).1)
    · skip
      refine lv_aload_n hx hb dL_law_752 rfl (lv_at hl 2 rfl) ?_
      refine y_ci (b_runV B hT hX hW hS (As := []) (rest := []) (fun sz => mw_facts hI hty hC sz) (cwL_140 B.2.2.2.2.1 ⟨Nat.le_of_ble_eq_true rfl, Nat.le_of_ble_eq_true rfl⟩) (cw_recv B hW hC) rfl hl.1 (Nat.le_of_ble_eq_true rfl) dL_law_753 ⟨by show _ ≤ 600390; omega, by show _ ≤ 7288600; omega⟩) hI hW hS (fun k h => h) (fun _ _ => rfl) (fun E1 => E1) (fun _ _ _ => rfl) (fun E1 j hj hno => absurd rfl (hno j hj)) (fun r_753 E H locs hp hW hS => ?_)
      obtain ⟨hr_, hC⟩ := hp
      rw [hr_]
      refine lv_iload hx hb dL_law_756 (lv_at hl 13 rfl) ?_
      refine lv_iconst (v := 1) hx hb dL_law_758 (by decide) ?_
      refine lv_isub hx hb dL_law_759 ?_
      refine lv_icmp_ne (tgt := 767) hx hb dL_law_760 (by decide) (fun c_760 => ?_) (fun c_760 => ?_)
      · exact absurd rfl c_760
      · skip
        refine lv_iconst (v := 1) hx hb dL_law_763 (by decide) ?_
        refine lv_goto (tgt := 768) hx hb dL_law_764 (by decide) ?_
        refine lv_istore (lv' := [(4, .int 1), (15, .int (V (20 + 6) jd)), (0, .ref b), (1, .ref (ad 0)), (2, .int (nI P9)), (3, .int (nI G9)), (5, .int (nI kx)), (6, .int (nI nx)), (7, .long bef), (10, .int (nI jp)), (11, .int (nI jh)), (12, .int (nI jd)), (13, .int (nI jm)), (14, .int nf)]) hx hb dL_law_768 hl (by decide) rfl (fun ls hl => ?_)
        refine lv_goto (tgt := 845) hx hb dL_law_770 (by decide) ?_
        refine W.widen (k := C0) (n := S0) (by omega) (by omega) ?_
        exact K _ _ _ _ _ _ _ _ _ _ ⟨hHm.take hd9, hJ⟩ (Or.inl (by have := (hInv9.2.2.2.2.2.1 6 (by omega) jd hd9).1; omega)) _ _ _ _ hC hW hS (lv_sub hl [2, 3, 4, 5, 0, 6, 7, 8, 1] rfl)
  · skip
    rw [hk, hv_1] at hr_
    have hC := (hC.resolve_left (fun q => absurd (hk.symm.trans q.1) (by decide))).2
    subst hr_
    refine lv_istore (lv' := [(15, .int (-75)), (0, .ref b), (1, .ref (ad 0)), (2, .int (nI P9)), (3, .int (nI G9)), (4, .int 1), (5, .int (nI kx)), (6, .int (nI nx)), (7, .long bef), (10, .int (nI jp)), (11, .int (nI jh)), (12, .int (nI jd)), (13, .int (nI jm)), (14, .int nf)]) hx hb dL_law_745 hl (by decide) rfl (fun ls hl => ?_)
    refine lv_iload hx hb dL_law_747 (lv_at hl 0 rfl) ?_
    refine lv_if_lt (tgt := 763) hx hb dL_law_749 (by decide) (fun c_749 => ?_) (fun c_749 => ?_)
    · skip
      refine lv_iconst (v := 1) hx hb dL_law_763 (by decide) ?_
      refine lv_goto (tgt := 768) hx hb dL_law_764 (by decide) ?_
      refine lv_istore (lv' := [(4, .int 1), (15, .int (-75)), (0, .ref b), (1, .ref (ad 0)), (2, .int (nI P9)), (3, .int (nI G9)), (5, .int (nI kx)), (6, .int (nI nx)), (7, .long bef), (10, .int (nI jp)), (11, .int (nI jh)), (12, .int (nI jd)), (13, .int (nI jm)), (14, .int nf)]) hx hb dL_law_768 hl (by decide) rfl (fun ls hl => ?_)
      refine lv_goto (tgt := 845) hx hb dL_law_770 (by decide) ?_
      refine W.widen (k := C0) (n := S0) (by omega) (by omega) ?_
      exact K _ _ _ _ _ _ _ _ _ _ ⟨hHm, hJ⟩ (Or.inr hbf) _ _ _ _ hC hW hS (lv_sub hl [2, 3, 4, 5, 0, 6, 7, 8, 1] rfl)
    · exact absurd (show ((-75) : Int32) < 0 by decide) c_749
  · skip
    rw [hk, hv_2] at hr_
    have hC := (hC.resolve_left (fun q => absurd (hk.symm.trans q.1) (by decide))).2
    subst hr_
    refine lv_istore (lv' := [(15, .int (-76)), (0, .ref b), (1, .ref (ad 0)), (2, .int (nI P9)), (3, .int (nI G9)), (4, .int 1), (5, .int (nI kx)), (6, .int (nI nx)), (7, .long bef), (10, .int (nI jp)), (11, .int (nI jh)), (12, .int (nI jd)), (13, .int (nI jm)), (14, .int nf)]) hx hb dL_law_745 hl (by decide) rfl (fun ls hl => ?_)
    refine lv_iload hx hb dL_law_747 (lv_at hl 0 rfl) ?_
    refine lv_if_lt (tgt := 763) hx hb dL_law_749 (by decide) (fun c_749 => ?_) (fun c_749 => ?_)
    · skip
      refine lv_iconst (v := 1) hx hb dL_law_763 (by decide) ?_
      refine lv_goto (tgt := 768) hx hb dL_law_764 (by decide) ?_
      refine lv_istore (lv' := [(4, .int 1), (15, .int (-76)), (0, .ref b), (1, .ref (ad 0)), (2, .int (nI P9)), (3, .int (nI G9)), (5, .int (nI kx)), (6, .int (nI nx)), (7, .long bef), (10, .int (nI jp)), (11, .int (nI jh)), (12, .int (nI jd)), (13, .int (nI jm)), (14, .int nf)]) hx hb dL_law_768 hl (by decide) rfl (fun ls hl => ?_)
      refine lv_goto (tgt := 845) hx hb dL_law_770 (by decide) ?_
      refine W.widen (k := C0) (n := S0) (by omega) (by omega) ?_
      exact K _ _ _ _ _ _ _ _ _ _ ⟨hHm, hJ⟩ (Or.inr hbf) _ _ _ _ hC hW hS (lv_sub hl [2, 3, 4, 5, 0, 6, 7, 8, 1] rfl)
    · exact absurd (show ((-76) : Int32) < 0 by decide) c_749
set_option maxHeartbeats 8000000 in
set_option maxRecDepth 100000 in
theorem lk_pay {p : Program} {l : Launch} {e : Env} {s : State} {m : MethodId} {args : Array Value} {below : List Frame} {meth : Method} {c : Code} {Q : State → Prop} {D : va_G} {ad : Nat → Nat} {cI cZ cH cP cT cJ cF : ClassId} {b L : Nat} {xs : Nat → Int32} (C : LC35 p l s m args c D ad cI cZ cH cP cT cJ cF b L xs) {V T : Nat → Nat → Int32} {ag : Nat → Int32} {P9 G9 rN : Nat} {nf pn : Int32} {sp sk : Int64} {py pd : Nat → Nat → Int32} {E : Nat → va_E} {H : Heap} {locs : List Loc} {ls : Array Slot} {kx nx jp jh jd jm c0 s0 C0 S0 : Nat} {bef : Int64} (hjp : jp ≤ P9) (hjh : jh ≤ G9) (hjd : jd ≤ 360) (hjm : jm < 1000) (hST : ST35 V G9 rN pn sp py pd) (hbf : sL nf sp sk (due V ag P9) pd rN G9 = bef) (hc : c0 + 400 ≤ C0) (hs : s0 + 2400 ≤ S0) (hC0 : C0 ≤ 600390) (hS0 : S0 ≤ 7288600) (K : LK35 p l e s m args below meth c Q D ad cI cH cP cT b ag P9 G9 kx nx bef C0 S0) (hC : CW cI cI cH cP cT ad V T ag P9 G9 rN nf pn sp sk py pd E) (hW : hH D ad 109 E H) (hS : va_S (cA ad 109 s.heap.size) s.heap H locs) (hl : lv_has ls 20 [(0, .ref b), (1, .ref (ad 0)), (2, .int (nI P9)), (3, .int (nI G9)), (4, .int 1), (5, .int (nI kx)), (6, .int (nI nx)), (7, .long bef), (10, .int (nI jp)), (11, .int (nI jh)), (12, .int (nI jd)), (13, .int (nI jm)), (14, .int nf), (15, .int 0)]) : W p l e room_1 s m args below meth c H locs (c0) (s0) Q (F0 m 773 ls []) := by
  obtain ⟨B, ⟨hlf, hT, hN, hX, hI⟩, hXs, hbl, hbA, hL⟩ := id C
  have hx := B.1
  have hb := B.2.1
  have hty : TY [(cI, .int), (cZ, .int), (cH, .object RX1), (cP, .object RX2), (cT, .object RX4), (cJ, .int), (cF, .int)] cI cI cH cP cT := ⟨rfl, rfl, rfl, rfl, rfl⟩
  obtain ⟨hP8, hH4, hR12⟩ := hC.bds
  obtain ⟨hHm, hJ⟩ := hST
  obtain ⟨so9, hInv9⟩ := hC.inv
  refine lv_iload hx hb dL_law_773 (lv_at hl 11 rfl) ?_
  refine lv_iconst (v := 2) hx hb dL_law_775 (by decide) ?_
  refine lv_irem hx hb dL_law_776 (by decide) ?_
  refine lv_if_ne (tgt := 845) hx hb dL_law_777 (by decide) (fun c_777 => ?_) (fun c_777 => ?_)
  · skip
    refine W.widen (k := C0) (n := S0) (by omega) (by omega) ?_
    exact K _ _ _ _ _ _ _ _ _ _ ⟨hHm, hJ⟩ (Or.inl (by decide)) _ _ _ _ hC hW hS (lv_sub hl [0, 1, 2, 3, 4, 5, 6, 7, 13] rfl)
  · skip
    refine lv_aload_n hx hb dL_law_780 rfl (lv_at hl 1 rfl) ?_
    refine y_ci (b_runV B hT hX hW hS (As := []) (rest := []) (fun sz => mw_paidMonths hI hty hC sz) (cwL_162 B.2.2.2.2.1 ⟨Nat.le_of_ble_eq_true rfl, Nat.le_of_ble_eq_true rfl⟩) (cw_recv B hW hC) rfl hl.1 (Nat.le_of_ble_eq_true rfl) dL_law_781 ⟨by show _ ≤ 600390; omega, by show _ ≤ 7288600; omega⟩) hI hW hS (fun k h => h) (fun _ _ => rfl) (fun E1 => E1) (fun _ _ _ => rfl) (fun E1 j hj hno => absurd rfl (hno j hj)) (fun r_781 E H locs hp hW hS => ?_)
    obtain ⟨hr_, hC⟩ := hp
    rw [hr_]
    refine lv_istore (lv' := [(16, .int (nI rN)), (0, .ref b), (1, .ref (ad 0)), (2, .int (nI P9)), (3, .int (nI G9)), (4, .int 1), (5, .int (nI kx)), (6, .int (nI nx)), (7, .long bef), (10, .int (nI jp)), (11, .int (nI jh)), (12, .int (nI jd)), (13, .int (nI jm)), (14, .int nf), (15, .int 0)]) hx hb dL_law_784 hl (by decide) rfl (fun ls hl => ?_)
    refine lv_aload_n hx hb dL_law_786 rfl (lv_at hl 2 rfl) ?_
    refine y_cl (b_runV B hT hX hW hS (As := []) (rest := []) (fun sz => mw_keptBack hI hty hC sz) (cwL_165 B.2.2.2.2.1 ⟨Nat.le_of_ble_eq_true rfl, Nat.le_of_ble_eq_true rfl⟩) (cw_recv B hW hC) rfl hl.1 (Nat.le_of_ble_eq_true rfl) dL_law_787 ⟨by show _ ≤ 600390; omega, by show _ ≤ 7288600; omega⟩) hI hW hS (fun k h => h) (fun _ _ => rfl) (fun E1 => E1) (fun _ _ _ => rfl) (fun E1 j hj hno => absurd rfl (hno j hj)) (fun r_787 E H locs hp hW hS => ?_)
    obtain ⟨hr_, hC⟩ := hp
    rw [hr_]
    refine lv_lstore (lv' := [(17, .long sk), (16, .int (nI rN)), (0, .ref b), (1, .ref (ad 0)), (2, .int (nI P9)), (3, .int (nI G9)), (4, .int 1), (5, .int (nI kx)), (6, .int (nI nx)), (7, .long bef), (10, .int (nI jp)), (11, .int (nI jh)), (12, .int (nI jd)), (13, .int (nI jm)), (14, .int nf), (15, .int 0)]) hx hb dL_law_790 hl (by decide) rfl (fun ls hl => ?_)
    refine lv_aload_n hx hb dL_law_792 rfl (lv_at hl 3 rfl) ?_
    refine lv_iload_n hx hb dL_law_793 rfl (lv_at hl 5 rfl) ?_
    refine y_ci (b_runSN B hT hX hN hW hS (As := [.ref (ad 0), .int (nI G9)]) (rest := []) (fun sz => ow_pays hlf hI hty hC sz) (cwL_169 B.2.2.2.2.1 ⟨Nat.le_of_ble_eq_true rfl, Nat.le_of_ble_eq_true rfl⟩) rfl hl.1 (Nat.le_of_ble_eq_true rfl) dL_law_794 ⟨by show _ ≤ 600390; omega, by show _ ≤ 7288600; omega⟩) hI hW hS (fun k h => h) (fun _ _ => rfl) (fun E1 => E1) (fun _ _ _ => rfl) (fun E1 j hj hno => absurd rfl (hno j hj)) (fun r_794 E H locs hp hW hS => ?_)
    obtain ⟨hr_, hC⟩ := hp
    subst hr_
    refine lv_istore (lv' := [(19, .int (pBb (nodebt (due V ag P9) pd rN) G9)), (17, .long sk), (16, .int (nI rN)), (0, .ref b), (1, .ref (ad 0)), (2, .int (nI P9)), (3, .int (nI G9)), (4, .int 1), (5, .int (nI kx)), (6, .int (nI nx)), (7, .long bef), (10, .int (nI jp)), (11, .int (nI jh)), (12, .int (nI jd)), (13, .int (nI jm)), (14, .int nf), (15, .int 0)]) hx hb dL_law_797 hl (by decide) rfl (fun ls hl => ?_)
    refine lv_aload_n hx hb dL_law_799 rfl (lv_at hl 4 rfl) ?_
    refine y_ci (b_runSW B hT hX hN hW hS (As := [.ref (ad 0)]) (rest := []) (fun sz => lq_pay hlf hI hty hC sz) (cwL_172 B.2.2.2.2.1 ⟨Nat.le_of_ble_eq_true rfl, Nat.le_of_ble_eq_true rfl⟩) rfl hl.1 (Nat.le_of_ble_eq_true rfl) dL_law_800 ⟨by show _ ≤ 600390; omega, by show _ ≤ 7288600; omega⟩) hI hW hS (fun k h => h) (fun _ _ => rfl) (fun E1 => E1) (fun _ _ _ => rfl) (fun E1 j hj hno => absurd rfl (hno j hj)) (fun r_800 E H locs hp hW hS => ?_)
    obtain ⟨hr_, hC⟩ := hp
    rcases kPay_c (rN := rN) with h0 | hk
    · skip
      obtain ⟨h0, hr9⟩ := h0
      rw [h0, hv_0] at hr_
      have hC := (hC.resolve_right (fun q => q.1 h0)).2
      obtain ⟨w1, w2, w3, w4, w5, ⟨w6, w7⟩, w8⟩ := pay_all (sk := sk) hInv9 hJ hr9
      subst hr_
      refine lv_istore (lv' := [(15, .int ((runS (due V ag P9) rN py pd sk G9).1)), (19, .int (pBb (nodebt (due V ag P9) pd rN) G9)), (17, .long sk), (16, .int (nI rN)), (0, .ref b), (1, .ref (ad 0)), (2, .int (nI P9)), (3, .int (nI G9)), (4, .int 1), (5, .int (nI kx)), (6, .int (nI nx)), (7, .long bef), (10, .int (nI jp)), (11, .int (nI jh)), (12, .int (nI jd)), (13, .int (nI jm)), (14, .int nf)]) hx hb dL_law_803 hl (by decide) rfl (fun ls hl => ?_)
      refine lv_iload hx hb dL_law_805 (lv_at hl 0 rfl) ?_
      refine lv_if_ge (tgt := 825) hx hb dL_law_807 (by decide) (fun c_807 => ?_) (fun c_807 => ?_)
      · skip
        have w9 : -1 ≤ (runS (due V ag P9) rN py pd sk G9).1.toInt := by omega
        refine lv_aload_n hx hb dL_law_825 rfl (lv_at hl 5 rfl) ?_
        refine lv_iload_n hx hb dL_law_826 rfl (lv_at hl 7 rfl) ?_
        refine lv_iload hx hb dL_law_827 (lv_at hl 3 rfl) ?_
        refine lv_iload hx hb dL_law_829 (lv_at hl 0 rfl) ?_
        refine lv_aload_n hx hb dL_law_831 rfl (lv_at hl 5 rfl) ?_
        refine y_cl (b_runV B hT hX hW hS (As := []) (rest := [.int ((runS (due V ag P9) rN py pd sk G9).1), .int (nI rN), .int (nI G9), .ref (ad 0)]) (fun sz => mw_keptBack hI hty hC sz) (cwL_165 B.2.2.2.2.1 ⟨Nat.le_of_ble_eq_true rfl, Nat.le_of_ble_eq_true rfl⟩) (cw_recv B hW hC) rfl hl.1 (Nat.le_of_ble_eq_true rfl) dL_law_832 ⟨by show _ ≤ 600390; omega, by show _ ≤ 7288600; omega⟩) hI hW hS (fun k h => h) (fun _ _ => rfl) (fun E1 => E1) (fun _ _ _ => rfl) (fun E1 j hj hno => absurd rfl (hno j hj)) (fun r_832 E H locs hp hW hS => ?_)
        obtain ⟨hr_, hC⟩ := hp
        rw [hr_]
        refine lv_lload hx hb dL_law_835 (lv_at hl 2 rfl) ?_
        refine lv_lsub hx hb dL_law_837 ?_
        refine lv_iload hx hb dL_law_838 (lv_at hl 1 rfl) ?_
        refine y_ci (b_runSN B hT hX hN hW hS (As := [.ref (ad 0), .int (nI G9), .int (nI rN), .int ((runS (due V ag P9) rN py pd sk G9).1), .long (((runS (due V ag P9) rN py pd sk G9).2.2.2) - sk), .int (pBb (nodebt (due V ag P9) pd rN) G9)]) (rest := []) (fun sz => ow_areHanded hlf hI hty ((runS (due V ag P9) rN py pd sk G9).1) (pBb (nodebt (due V ag P9) pd rN) G9) ((runS (due V ag P9) rN py pd sk G9).2.2.2 - sk) hC w2 w3 w4 w5 w6 w7 sz) (cwL_174 B.2.2.2.2.1 ⟨Nat.le_of_ble_eq_true rfl, Nat.le_of_ble_eq_true rfl⟩) rfl hl.1 (Nat.le_of_ble_eq_true rfl) dL_law_840 ⟨by show _ ≤ 600390; omega, by show _ ≤ 7288600; omega⟩) hI hW hS (fun k h => h) (fun _ _ => rfl) (fun E1 => E1) (fun _ _ _ => rfl) (fun E1 j hj hno => absurd rfl (hno j hj)) (fun r_840 E H locs hp hW hS => ?_)
        obtain ⟨hr_, hC⟩ := hp
        subst hr_
        refine lv_istore (lv' := [(4, .int 1), (15, .int ((runS (due V ag P9) rN py pd sk G9).1)), (19, .int (pBb (nodebt (due V ag P9) pd rN) G9)), (17, .long sk), (16, .int (nI rN)), (0, .ref b), (1, .ref (ad 0)), (2, .int (nI P9)), (3, .int (nI G9)), (5, .int (nI kx)), (6, .int (nI nx)), (7, .long bef), (10, .int (nI jp)), (11, .int (nI jh)), (12, .int (nI jd)), (13, .int (nI jm)), (14, .int nf)]) hx hb dL_law_843 hl (by decide) rfl (fun ls hl => ?_)
        refine W.widen (k := C0) (n := S0) (by omega) (by omega) ?_
        exact K _ _ _ _ _ _ _ _ _ _ ⟨hHm, w8⟩ (Or.inl w9) _ _ _ _ hC hW hS (lv_sub hl [5, 6, 7, 8, 0, 9, 10, 11, 1] rfl)
      · exact absurd (Int32.not_le.mp c_807) (nneg w1)
    · skip
      obtain ⟨hk, hr9⟩ := hk
      rw [hk, hv_1] at hr_
      have hC := (hC.resolve_left (fun q => absurd (hk.symm.trans q.1) (by decide))).2
      subst hr_
      refine lv_istore (lv' := [(15, .int (-79)), (19, .int (pBb (nodebt (due V ag P9) pd rN) G9)), (17, .long sk), (16, .int (nI rN)), (0, .ref b), (1, .ref (ad 0)), (2, .int (nI P9)), (3, .int (nI G9)), (4, .int 1), (5, .int (nI kx)), (6, .int (nI nx)), (7, .long bef), (10, .int (nI jp)), (11, .int (nI jh)), (12, .int (nI jd)), (13, .int (nI jm)), (14, .int nf)]) hx hb dL_law_803 hl (by decide) rfl (fun ls hl => ?_)
      refine lv_iload hx hb dL_law_805 (lv_at hl 0 rfl) ?_
      refine lv_if_ge (tgt := 825) hx hb dL_law_807 (by decide) (fun c_807 => ?_) (fun c_807 => ?_)
      · exact absurd c_807 (by decide)
      · skip
        refine lv_iload hx hb dL_law_810 (lv_at hl 3 rfl) ?_
        refine lv_bipush (v := (nI 12)) hx hb dL_law_812 (by decide) ?_
        refine lv_icmp_ne (tgt := 821) hx hb dL_law_814 (by decide) (fun c_814 => ?_) (fun c_814 => ?_)
        · exact absurd (show nI rN = nI 12 by rw [show rN = 12 by omega]) c_814
        · skip
          refine lv_iconst (v := 1) hx hb dL_law_817 (by decide) ?_
          refine lv_goto (tgt := 843) hx hb dL_law_818 (by decide) ?_
          refine lv_istore (lv' := [(4, .int 1), (15, .int (-79)), (19, .int (pBb (nodebt (due V ag P9) pd rN) G9)), (17, .long sk), (16, .int (nI rN)), (0, .ref b), (1, .ref (ad 0)), (2, .int (nI P9)), (3, .int (nI G9)), (5, .int (nI kx)), (6, .int (nI nx)), (7, .long bef), (10, .int (nI jp)), (11, .int (nI jh)), (12, .int (nI jd)), (13, .int (nI jm)), (14, .int nf)]) hx hb dL_law_843 hl (by decide) rfl (fun ls hl => ?_)
          refine W.widen (k := C0) (n := S0) (by omega) (by omega) ?_
          exact K _ _ _ _ _ _ _ _ _ _ ⟨hHm, hJ⟩ (Or.inr hbf) _ _ _ _ hC hW hS (lv_sub hl [5, 6, 7, 8, 0, 9, 10, 11, 1] rfl)
