set_option maxHeartbeats 8000000 in
set_option maxRecDepth 100000 in
theorem lk_move {p : Program} {l : Launch} {e : Env} {s : State} {m : MethodId} {args : Array Value} {below : List Frame} {meth : Method} {c : Code} {Q : State → Prop} {D : va_G} {ad : Nat → Nat} {cI cZ cH cP cT cJ cF : ClassId} {b L : Nat} {xs : Nat → Int32} (C : LC35 p l s m args c D ad cI cZ cH cP cT cJ cF b L xs) {V T : Nat → Nat → Int32} {ag : Nat → Int32} {P9 G9 rN : Nat} {nf pn : Int32} {sp sk : Int64} {py pd : Nat → Nat → Int32} {E : Nat → va_E} {H : Heap} {locs : List Loc} {ls : Array Slot} {kx nx jp jh jd jm c0 s0 C0 S0 : Nat} {bef : Int64} (hjp : jp ≤ P9) (hjh : jh ≤ G9) (hjd : jd ≤ 360) (hjm : jm < 1000) (hST : ST35 V G9 rN pn sp py pd) (hbf : sL nf sp sk (due V ag P9) pd rN G9 = bef) (hc : c0 + 400 ≤ C0) (hs : s0 + 2400 ≤ S0) (hC0 : C0 ≤ 600390) (hS0 : S0 ≤ 7288600) (K : LK35 p l e s m args below meth c Q D ad cI cH cP cT b ag P9 G9 kx nx bef C0 S0) (hC : CW cI cI cH cP cT ad V T ag P9 G9 rN nf pn sp sk py pd E) (hW : hH D ad 109 E H) (hS : va_S (cA ad 109 s.heap.size) s.heap H locs) (hl : lv_has ls 20 [(0, .ref b), (1, .ref (ad 0)), (2, .int (nI P9)), (3, .int (nI G9)), (4, .int 1), (5, .int (nI kx)), (6, .int (nI nx)), (7, .long bef), (10, .int (nI jp)), (11, .int (nI jh)), (12, .int (nI jd)), (13, .int (nI jm)), (14, .int nf), (15, .int 0)]) : W p l e room_1 s m args below meth c H locs (c0) (s0) Q (F0 m 323 ls []) := by
  obtain ⟨B, ⟨hlf, hT, hN, hX, hI⟩, hXs, hbl, hbA, hL⟩ := id C
  have hx := B.1
  have hb := B.2.1
  have hty : TY [(cI, .int), (cZ, .int), (cH, .object RX1), (cP, .object RX2), (cT, .object RX4), (cJ, .int), (cF, .int)] cI cI cH cP cT := ⟨rfl, rfl, rfl, rfl, rfl⟩
  obtain ⟨hP8, hH4, hR12⟩ := hC.bds
  obtain ⟨hHm, hJ⟩ := hST
  obtain ⟨so9, hInv9⟩ := hC.inv
  refine lv_aload_n hx hb dL_law_323 rfl (lv_at hl 1 rfl) ?_
  refine lv_iload hx hb dL_law_324 (lv_at hl 8 rfl) ?_
  refine lv_iload hx hb dL_law_326 (lv_at hl 10 rfl) ?_
  refine y_ci (b_runSW B hT hX hN hW hS (As := [.ref (ad 0), .int (nI jp), .int (nI jd)]) (rest := []) (fun sz => lq_homeOf hlf hI hty (nI jp) (nI jd) hC sz) (cwL_143 B.2.2.2.2.1 ⟨Nat.le_of_ble_eq_true rfl, Nat.le_of_ble_eq_true rfl⟩) rfl hl.1 (Nat.le_of_ble_eq_true rfl) dL_law_328 ⟨by show _ ≤ 600390; omega, by show _ ≤ 7288600; omega⟩) hI hW hS (fun k h => h) (fun _ _ => rfl) (fun E1 => E1) (fun _ _ _ => rfl) (fun E1 j hj hno => absurd rfl (hno j hj)) (fun r_328 E H locs hp hW hS => ?_)
  obtain ⟨hr1, hC⟩ := hp
  refine lv_istore (lv' := [(16, .int r_328), (0, .ref b), (1, .ref (ad 0)), (2, .int (nI P9)), (3, .int (nI G9)), (4, .int 1), (5, .int (nI kx)), (6, .int (nI nx)), (7, .long bef), (10, .int (nI jp)), (11, .int (nI jh)), (12, .int (nI jd)), (13, .int (nI jm)), (14, .int nf), (15, .int 0)]) hx hb dL_law_331 hl (by decide) rfl (fun ls hl => ?_)
  refine lv_iload hx hb dL_law_333 (lv_at hl 12 rfl) ?_
  refine lv_iconst (v := 4) hx hb dL_law_335 (by decide) ?_
  refine lv_irem hx hb dL_law_336 (by decide) ?_
  refine lv_if_ne (tgt := 344) hx hb dL_law_337 (by decide) (fun c_337 => ?_) (fun c_337 => ?_)
  · skip
    refine lv_iload hx hb dL_law_344 (lv_at hl 10 rfl) ?_
    refine lv_istore (lv' := [(17, .int (nI jh)), (16, .int r_328), (0, .ref b), (1, .ref (ad 0)), (2, .int (nI P9)), (3, .int (nI G9)), (4, .int 1), (5, .int (nI kx)), (6, .int (nI nx)), (7, .long bef), (10, .int (nI jp)), (11, .int (nI jh)), (12, .int (nI jd)), (13, .int (nI jm)), (14, .int nf), (15, .int 0)]) hx hb dL_law_346 hl (by decide) rfl (fun ls hl => ?_)
    refine lv_aload_n hx hb dL_law_348 rfl (lv_at hl 3 rfl) ?_
    refine lv_iload hx hb dL_law_349 (lv_at hl 10 rfl) ?_
    refine lv_iload hx hb dL_law_351 (lv_at hl 0 rfl) ?_
    refine lv_iload hx hb dL_law_353 (lv_at hl 12 rfl) ?_
    refine y_ci (b_runSW B hT hX hN hW hS (As := [.ref (ad 0), .int (nI jp), .int (nI jh), .int (nI jd)]) (rest := []) (fun sz => lq_move hlf hI hty (nI jp) (nI jh) (nI jd) hC sz) (cwL_133 B.2.2.2.2.1 ⟨Nat.le_of_ble_eq_true rfl, Nat.le_of_ble_eq_true rfl⟩) rfl hl.1 (Nat.le_of_ble_eq_true rfl) dL_law_355 ⟨by show _ ≤ 600390; omega, by show _ ≤ 7288600; omega⟩) hI hW hS (fun k h => h) (fun _ _ => rfl) (fun E1 => E1) (fun _ _ _ => rfl) (fun E1 j hj hno => absurd rfl (hno j hj)) (fun r_355 E H locs hp hW hS => ?_)
    obtain ⟨hr_, hC⟩ := hp
    rcases kMove_c (nP := P9) (nH := G9) (h := nI jh) (p := jp) (d := jd) (by omega) (by omega) with h0 | hk | hk
    · skip
      obtain ⟨h0, hp9, hd9, hh9⟩ := h0
      rw [h0, hv_0, ix_n (by omega), ix_n (by omega)] at hr_
      have hC := (hC.resolve_right (fun q => q.1 h0)).2
      rw [ix_n (by omega), ix_n (by omega)] at hC
      have hr2 : r_328 = V jp jd := by rw [hr1, kAsk_0 hP8 hp9 hd9, hv_0, ix_n (by omega), ix_n (by omega)]
      subst hr_
      refine lv_istore (lv' := [(15, .int (V jp jd)), (17, .int (nI jh)), (16, .int r_328), (0, .ref b), (1, .ref (ad 0)), (2, .int (nI P9)), (3, .int (nI G9)), (4, .int 1), (5, .int (nI kx)), (6, .int (nI nx)), (7, .long bef), (10, .int (nI jp)), (11, .int (nI jh)), (12, .int (nI jd)), (13, .int (nI jm)), (14, .int nf)]) hx hb dL_law_358 hl (by decide) rfl (fun ls hl => ?_)
      refine lv_iload hx hb dL_law_360 (lv_at hl 0 rfl) ?_
      refine lv_iconst (v := (-1)) hx hb dL_law_362 (by decide) ?_
      refine lv_icmp_lt (tgt := 386) hx hb dL_law_363 (by decide) (fun c_363 => ?_) (fun c_363 => ?_)
      · exact absurd c_363 (m1_le (hHm jp (by omega) jd hd9))
      · skip
        refine lv_iload hx hb dL_law_366 (lv_at hl 0 rfl) ?_
        refine lv_iload hx hb dL_law_368 (lv_at hl 2 rfl) ?_
        refine lv_icmp_ne (tgt := 390) hx hb dL_law_370 (by decide) (fun c_370 => ?_) (fun c_370 => ?_)
        · exact absurd hr2.symm c_370
        · skip
          refine lv_aload_n hx hb dL_law_373 rfl (lv_at hl 4 rfl) ?_
          refine lv_iload hx hb dL_law_374 (lv_at hl 11 rfl) ?_
          refine lv_iload hx hb dL_law_376 (lv_at hl 13 rfl) ?_
          refine y_ci (b_runSW B hT hX hN hW hS (As := [.ref (ad 0), .int (nI jp), .int (nI jd)]) (rest := []) (fun sz => lq_homeOf hlf hI hty (nI jp) (nI jd) hC sz) (cwL_143 B.2.2.2.2.1 ⟨Nat.le_of_ble_eq_true rfl, Nat.le_of_ble_eq_true rfl⟩) rfl hl.1 (Nat.le_of_ble_eq_true rfl) dL_law_378 ⟨by show _ ≤ 600390; omega, by show _ ≤ 7288600; omega⟩) hI hW hS (fun k h => h) (fun _ _ => rfl) (fun E1 => E1) (fun _ _ _ => rfl) (fun E1 j hj hno => absurd rfl (hno j hj)) (fun r_378 E H locs hp hW hS => ?_)
          obtain ⟨hr_, hC⟩ := hp
          rw [kAsk_0 hP8 hp9 hd9, hv_0, ix_n (by omega), ix_n (by omega), tell_at] at hr_
          subst hr_
          refine lv_iload hx hb dL_law_381 (lv_at hl 1 rfl) ?_
          refine lv_icmp_ne (tgt := 390) hx hb dL_law_383 (by decide) (fun c_383 => ?_) (fun c_383 => ?_)
          · exact absurd rfl c_383
          · skip
            refine lv_iconst (v := 1) hx hb dL_law_386 (by decide) ?_
            refine lv_goto (tgt := 391) hx hb dL_law_387 (by decide) ?_
            refine lv_istore (lv' := [(4, .int 1), (15, .int (V jp jd)), (17, .int (nI jh)), (16, .int r_328), (0, .ref b), (1, .ref (ad 0)), (2, .int (nI P9)), (3, .int (nI G9)), (5, .int (nI kx)), (6, .int (nI nx)), (7, .long bef), (10, .int (nI jp)), (11, .int (nI jh)), (12, .int (nI jd)), (13, .int (nI jm)), (14, .int nf)]) hx hb dL_law_391 hl (by decide) rfl (fun ls hl => ?_)
            refine lv_goto (tgt := 845) hx hb dL_law_393 (by decide) ?_
            refine W.widen (k := C0) (n := S0) (by omega) (by omega) ?_
            exact K _ _ _ _ _ _ _ _ _ _ ⟨hHm.tell (fun _ => vin_m1 hh9), hJ⟩ (Or.inl (hHm jp (by omega) jd hd9)) _ _ _ _ hC hW hS (lv_sub hl [4, 5, 6, 7, 0, 8, 9, 10, 1] rfl)
    · skip
      rw [hk, hv_1] at hr_
      have hC := (hC.resolve_left (fun q => absurd (hk.symm.trans q.1) (by decide))).2
      subst hr_
      refine lv_istore (lv' := [(15, .int (-77)), (17, .int (nI jh)), (16, .int r_328), (0, .ref b), (1, .ref (ad 0)), (2, .int (nI P9)), (3, .int (nI G9)), (4, .int 1), (5, .int (nI kx)), (6, .int (nI nx)), (7, .long bef), (10, .int (nI jp)), (11, .int (nI jh)), (12, .int (nI jd)), (13, .int (nI jm)), (14, .int nf)]) hx hb dL_law_358 hl (by decide) rfl (fun ls hl => ?_)
      refine lv_iload hx hb dL_law_360 (lv_at hl 0 rfl) ?_
      refine lv_iconst (v := (-1)) hx hb dL_law_362 (by decide) ?_
      refine lv_icmp_lt (tgt := 386) hx hb dL_law_363 (by decide) (fun c_363 => ?_) (fun c_363 => ?_)
      · skip
        refine lv_iconst (v := 1) hx hb dL_law_386 (by decide) ?_
        refine lv_goto (tgt := 391) hx hb dL_law_387 (by decide) ?_
        refine lv_istore (lv' := [(4, .int 1), (15, .int (-77)), (17, .int (nI jh)), (16, .int r_328), (0, .ref b), (1, .ref (ad 0)), (2, .int (nI P9)), (3, .int (nI G9)), (5, .int (nI kx)), (6, .int (nI nx)), (7, .long bef), (10, .int (nI jp)), (11, .int (nI jh)), (12, .int (nI jd)), (13, .int (nI jm)), (14, .int nf)]) hx hb dL_law_391 hl (by decide) rfl (fun ls hl => ?_)
        refine lv_goto (tgt := 845) hx hb dL_law_393 (by decide) ?_
        refine W.widen (k := C0) (n := S0) (by omega) (by omega) ?_
        exact K _ _ _ _ _ _ _ _ _ _ ⟨hHm, hJ⟩ (Or.inr hbf) _ _ _ _ hC hW hS (lv_sub hl [4, 5, 6, 7, 0, 8, 9, 10, 1] rfl)
      · exact absurd (show ((-77) : Int32) < -1 by decide) c_363
    · skip
      rw [hk, hv_2] at hr_
      have hC := (hC.resolve_left (fun q => absurd (hk.symm.trans q.1) (by decide))).2
      subst hr_
      refine lv_istore (lv' := [(15, .int (-78)), (17, .int (nI jh)), (16, .int r_328), (0, .ref b), (1, .ref (ad 0)), (2, .int (nI P9)), (3, .int (nI G9)), (4, .int 1), (5, .int (nI kx)), (6, .int (nI nx)), (7, .long bef), (10, .int (nI jp)), (11, .int (nI jh)), (12, .int (nI jd)), (13, .int (nI jm)), (14, .int nf)]) hx hb dL_law_358 hl (by decide) rfl (fun ls hl => ?_)
      refine lv_iload hx hb dL_law_360 (lv_at hl 0 rfl) ?_
      refine lv_iconst (v := (-1)) hx hb dL_law_362 (by decide) ?_
      refine lv_icmp_lt (tgt := 386) hx hb dL_law_363 (by decide) (fun c_363 => ?_) (fun c_363 => ?_)
      · skip
        refine lv_iconst (v := 1) hx hb dL_law_386 (by decide) ?_
        refine lv_goto (tgt := 391) hx hb dL_law_387 (by decide) ?_
        refine lv_istore (lv' := [(4, .int 1), (15, .int (-78)), (17, .int (nI jh)), (16, .int r_328), (0, .ref b), (1, .ref (ad 0)), (2, .int (nI P9)), (3, .int (nI G9)), (5, .int (nI kx)), (6, .int (nI nx)), (7, .long bef), (10, .int (nI jp)), (11, .int (nI jh)), (12, .int (nI jd)), (13, .int (nI jm)), (14, .int nf)]) hx hb dL_law_391 hl (by decide) rfl (fun ls hl => ?_)
        refine lv_goto (tgt := 845) hx hb dL_law_393 (by decide) ?_
        refine W.widen (k := C0) (n := S0) (by omega) (by omega) ?_
        exact K _ _ _ _ _ _ _ _ _ _ ⟨hHm, hJ⟩ (Or.inr hbf) _ _ _ _ hC hW hS (lv_sub hl [4, 5, 6, 7, 0, 8, 9, 10, 1] rfl)
      · exact absurd (show ((-78) : Int32) < -1 by decide) c_363
  · skip
    refine lv_iconst (v := (-1)) hx hb dL_law_340 (by decide) ?_
    refine lv_goto (tgt := 346) hx hb dL_law_341 (by decide) ?_
    refine lv_istore (lv' := [(17, .int (-1)), (16, .int r_328), (0, .ref b), (1, .ref (ad 0)), (2, .int (nI P9)), (3, .int (nI G9)), (4, .int 1), (5, .int (nI kx)), (6, .int (nI nx)), (7, .long bef), (10, .int (nI jp)), (11, .int (nI jh)), (12, .int (nI jd)), (13, .int (nI jm)), (14, .int nf), (15, .int 0)]) hx hb dL_law_346 hl (by decide) rfl (fun ls hl => ?_)
    refine lv_aload_n hx hb dL_law_348 rfl (lv_at hl 3 rfl) ?_
    refine lv_iload hx hb dL_law_349 (lv_at hl 10 rfl) ?_
    refine lv_iload hx hb dL_law_351 (lv_at hl 0 rfl) ?_
    refine lv_iload hx hb dL_law_353 (lv_at hl 12 rfl) ?_
    refine y_ci (b_runSW B hT hX hN hW hS (As := [.ref (ad 0), .int (nI jp), .int (-1), .int (nI jd)]) (rest := []) (fun sz => lq_move hlf hI hty (nI jp) (-1) (nI jd) hC sz) (cwL_133 B.2.2.2.2.1 ⟨Nat.le_of_ble_eq_true rfl, Nat.le_of_ble_eq_true rfl⟩) rfl hl.1 (Nat.le_of_ble_eq_true rfl) dL_law_355 ⟨by show _ ≤ 600390; omega, by show _ ≤ 7288600; omega⟩) hI hW hS (fun k h => h) (fun _ _ => rfl) (fun E1 => E1) (fun _ _ _ => rfl) (fun E1 j hj hno => absurd rfl (hno j hj)) (fun r_355 E H locs hp hW hS => ?_)
    obtain ⟨hr_, hC⟩ := hp
    rcases kMove_c (nP := P9) (nH := G9) (h := (-1)) (p := jp) (d := jd) (by omega) (by omega) with h0 | hk | hk
    · skip
      obtain ⟨h0, hp9, hd9, hh9⟩ := h0
      rw [h0, hv_0, ix_n (by omega), ix_n (by omega)] at hr_
      have hC := (hC.resolve_right (fun q => q.1 h0)).2
      rw [ix_n (by omega), ix_n (by omega)] at hC
      have hr2 : r_328 = V jp jd := by rw [hr1, kAsk_0 hP8 hp9 hd9, hv_0, ix_n (by omega), ix_n (by omega)]
      subst hr_
      refine lv_istore (lv' := [(15, .int (V jp jd)), (17, .int (-1)), (16, .int r_328), (0, .ref b), (1, .ref (ad 0)), (2, .int (nI P9)), (3, .int (nI G9)), (4, .int 1), (5, .int (nI kx)), (6, .int (nI nx)), (7, .long bef), (10, .int (nI jp)), (11, .int (nI jh)), (12, .int (nI jd)), (13, .int (nI jm)), (14, .int nf)]) hx hb dL_law_358 hl (by decide) rfl (fun ls hl => ?_)
      refine lv_iload hx hb dL_law_360 (lv_at hl 0 rfl) ?_
      refine lv_iconst (v := (-1)) hx hb dL_law_362 (by decide) ?_
      refine lv_icmp_lt (tgt := 386) hx hb dL_law_363 (by decide) (fun c_363 => ?_) (fun c_363 => ?_)
      · exact absurd c_363 (m1_le (hHm jp (by omega) jd hd9))
      · skip
        refine lv_iload hx hb dL_law_366 (lv_at hl 0 rfl) ?_
        refine lv_iload hx hb dL_law_368 (lv_at hl 2 rfl) ?_
        refine lv_icmp_ne (tgt := 390) hx hb dL_law_370 (by decide) (fun c_370 => ?_) (fun c_370 => ?_)
        · exact absurd hr2.symm c_370
        · skip
          refine lv_aload_n hx hb dL_law_373 rfl (lv_at hl 4 rfl) ?_
          refine lv_iload hx hb dL_law_374 (lv_at hl 11 rfl) ?_
          refine lv_iload hx hb dL_law_376 (lv_at hl 13 rfl) ?_
          refine y_ci (b_runSW B hT hX hN hW hS (As := [.ref (ad 0), .int (nI jp), .int (nI jd)]) (rest := []) (fun sz => lq_homeOf hlf hI hty (nI jp) (nI jd) hC sz) (cwL_143 B.2.2.2.2.1 ⟨Nat.le_of_ble_eq_true rfl, Nat.le_of_ble_eq_true rfl⟩) rfl hl.1 (Nat.le_of_ble_eq_true rfl) dL_law_378 ⟨by show _ ≤ 600390; omega, by show _ ≤ 7288600; omega⟩) hI hW hS (fun k h => h) (fun _ _ => rfl) (fun E1 => E1) (fun _ _ _ => rfl) (fun E1 j hj hno => absurd rfl (hno j hj)) (fun r_378 E H locs hp hW hS => ?_)
          obtain ⟨hr_, hC⟩ := hp
          rw [kAsk_0 hP8 hp9 hd9, hv_0, ix_n (by omega), ix_n (by omega), tell_at] at hr_
          subst hr_
          refine lv_iload hx hb dL_law_381 (lv_at hl 1 rfl) ?_
          refine lv_icmp_ne (tgt := 390) hx hb dL_law_383 (by decide) (fun c_383 => ?_) (fun c_383 => ?_)
          · exact absurd rfl c_383
          · skip
            refine lv_iconst (v := 1) hx hb dL_law_386 (by decide) ?_
            refine lv_goto (tgt := 391) hx hb dL_law_387 (by decide) ?_
            refine lv_istore (lv' := [(4, .int 1), (15, .int (V jp jd)), (17, .int (-1)), (16, .int r_328), (0, .ref b), (1, .ref (ad 0)), (2, .int (nI P9)), (3, .int (nI G9)), (5, .int (nI kx)), (6, .int (nI nx)), (7, .long bef), (10, .int (nI jp)), (11, .int (nI jh)), (12, .int (nI jd)), (13, .int (nI jm)), (14, .int nf)]) hx hb dL_law_391 hl (by decide) rfl (fun ls hl => ?_)
            refine lv_goto (tgt := 845) hx hb dL_law_393 (by decide) ?_
            refine W.widen (k := C0) (n := S0) (by omega) (by omega) ?_
            exact K _ _ _ _ _ _ _ _ _ _ ⟨hHm.tell (fun _ => vin_m1 hh9), hJ⟩ (Or.inl (hHm jp (by omega) jd hd9)) _ _ _ _ hC hW hS (lv_sub hl [4, 5, 6, 7, 0, 8, 9, 10, 1] rfl)
    · skip
      rw [hk, hv_1] at hr_
      have hC := (hC.resolve_left (fun q => absurd (hk.symm.trans q.1) (by decide))).2
      subst hr_
      refine lv_istore (lv' := [(15, .int (-77)), (17, .int (-1)), (16, .int r_328), (0, .ref b), (1, .ref (ad 0)), (2, .int (nI P9)), (3, .int (nI G9)), (4, .int 1), (5, .int (nI kx)), (6, .int (nI nx)), (7, .long bef), (10, .int (nI jp)), (11, .int (nI jh)), (12, .int (nI jd)), (13, .int (nI jm)), (14, .int nf)]) hx hb dL_law_358 hl (by decide) rfl (fun ls hl => ?_)
      refine lv_iload hx hb dL_law_360 (lv_at hl 0 rfl) ?_
      refine lv_iconst (v := (-1)) hx hb dL_law_362 (by decide) ?_
      refine lv_icmp_lt (tgt := 386) hx hb dL_law_363 (by decide) (fun c_363 => ?_) (fun c_363 => ?_)
      · skip
        refine lv_iconst (v := 1) hx hb dL_law_386 (by decide) ?_
        refine lv_goto (tgt := 391) hx hb dL_law_387 (by decide) ?_
        refine lv_istore (lv' := [(4, .int 1), (15, .int (-77)), (17, .int (-1)), (16, .int r_328), (0, .ref b), (1, .ref (ad 0)), (2, .int (nI P9)), (3, .int (nI G9)), (5, .int (nI kx)), (6, .int (nI nx)), (7, .long bef), (10, .int (nI jp)), (11, .int (nI jh)), (12, .int (nI jd)), (13, .int (nI jm)), (14, .int nf)]) hx hb dL_law_391 hl (by decide) rfl (fun ls hl => ?_)
        refine lv_goto (tgt := 845) hx hb dL_law_393 (by decide) ?_
        refine W.widen (k := C0) (n := S0) (by omega) (by omega) ?_
        exact K _ _ _ _ _ _ _ _ _ _ ⟨hHm, hJ⟩ (Or.inr hbf) _ _ _ _ hC hW hS (lv_sub hl [4, 5, 6, 7, 0, 8, 9, 10, 1] rfl)
      · exact absurd (show ((-77) : Int32) < -1 by decide) c_363
    · skip
      rw [hk, hv_2] at hr_
      have hC := (hC.resolve_left (fun q => absurd (hk.symm.trans q.1) (by decide))).2
      subst hr_
      refine lv_istore (lv' := [(15, .int (-78)), (17, .int (-1)), (16, .int r_328), (0, .ref b), (1, .ref (ad 0)), (2, .int (nI P9)), (3, .int (nI G9)), (4, .int 1), (5, .int (nI kx)), (6, .int (nI nx)), (7, .long bef), (10, .int (nI jp)), (11, .int (nI jh)), (12, .int (nI jd)), (13, .int (nI jm)), (14, .int nf)]) hx hb dL_law_358 hl (by decide) rfl (fun ls hl => ?_)
      refine lv_iload hx hb dL_law_360 (lv_at hl 0 rfl) ?_
      refine lv_iconst (v := (-1)) hx hb dL_law_362 (by decide) ?_
      refine lv_icmp_lt (tgt := 386) hx hb dL_law_363 (by decide) (fun c_363 => ?_) (fun c_363 => ?_)
      · skip
        refine lv_iconst (v := 1) hx hb dL_law_386 (by decide) ?_
        refine lv_goto (tgt := 391) hx hb dL_law_387 (by decide) ?_
        refine lv_istore (lv' := [(4, .int 1), (15, .int (-78)), (17, .int (-1)), (16, .int r_328), (0, .ref b), (1, .ref (ad 0)), (2, .int (nI P9)), (3, .int (nI G9)), (5, .int (nI kx)), (6, .int (nI nx)), (7, .long bef), (10, .int (nI jp)), (11, .int (nI jh)), (12, .int (nI jd)), (13, .int (nI jm)), (14, .int nf)]) hx hb dL_law_391 hl (by decide) rfl (fun ls hl => ?_)
        refine lv_goto (tgt := 845) hx hb dL_law_393 (by decide) ?_
        refine W.widen (k := C0) (n := S0) (by omega) (by omega) ?_
        exact K _ _ _ _ _ _ _ _ _ _ ⟨hHm, hJ⟩ (Or.inr hbf) _ _ _ _ hC hW hS (lv_sub hl [4, 5, 6, 7, 0, 8, 9, 10, 1] rfl)
      · exact absurd (show ((-78) : Int32) < -1 by decide) c_363
set_option maxHeartbeats 8000000 in
set_option maxRecDepth 100000 in
theorem lk_income {p : Program} {l : Launch} {e : Env} {s : State} {m : MethodId} {args : Array Value} {below : List Frame} {meth : Method} {c : Code} {Q : State → Prop} {D : va_G} {ad : Nat → Nat} {cI cZ cH cP cT cJ cF : ClassId} {b L : Nat} {xs : Nat → Int32} (C : LC35 p l s m args c D ad cI cZ cH cP cT cJ cF b L xs) {V T : Nat → Nat → Int32} {ag : Nat → Int32} {P9 G9 rN : Nat} {nf pn : Int32} {sp sk : Int64} {py pd : Nat → Nat → Int32} {E : Nat → va_E} {H : Heap} {locs : List Loc} {ls : Array Slot} {kx nx jp jh jd jm c0 s0 C0 S0 : Nat} {bef : Int64} (hjp : jp ≤ P9) (hjh : jh ≤ G9) (hjd : jd ≤ 360) (hjm : jm < 1000) (hST : ST35 V G9 rN pn sp py pd) (hbf : sL nf sp sk (due V ag P9) pd rN G9 = bef) (hc : c0 + 400 ≤ C0) (hs : s0 + 2400 ≤ S0) (hC0 : C0 ≤ 600390) (hS0 : S0 ≤ 7288600) (K : LK35 p l e s m args below meth c Q D ad cI cH cP cT b ag P9 G9 kx nx bef C0 S0) (hC : CW cI cI cH cP cT ad V T ag P9 G9 rN nf pn sp sk py pd E) (hW : hH D ad 109 E H) (hS : va_S (cA ad 109 s.heap.size) s.heap H locs) (hl : lv_has ls 20 [(0, .ref b), (1, .ref (ad 0)), (2, .int (nI P9)), (3, .int (nI G9)), (4, .int 1), (5, .int (nI kx)), (6, .int (nI nx)), (7, .long bef), (10, .int (nI jp)), (11, .int (nI jh)), (12, .int (nI jd)), (13, .int (nI jm)), (14, .int nf), (15, .int 0)]) : W p l e room_1 s m args below meth c H locs (c0) (s0) Q (F0 m 403 ls []) := by
  obtain ⟨B, ⟨hlf, hT, hN, hX, hI⟩, hXs, hbl, hbA, hL⟩ := id C
  have hx := B.1
  have hb := B.2.1
  have hty : TY [(cI, .int), (cZ, .int), (cH, .object RX1), (cP, .object RX2), (cT, .object RX4), (cJ, .int), (cF, .int)] cI cI cH cP cT := ⟨rfl, rfl, rfl, rfl, rfl⟩
  obtain ⟨hP8, hH4, hR12⟩ := hC.bds
  obtain ⟨hHm, hJ⟩ := hST
  obtain ⟨so9, hInv9⟩ := hC.inv
  refine lv_aload_n hx hb dL_law_403 rfl (lv_at hl 1 rfl) ?_
  refine lv_iload hx hb dL_law_404 (lv_at hl 8 rfl) ?_
  refine lv_iload hx hb dL_law_406 (lv_at hl 11 rfl) ?_
  refine lv_bipush (v := 10) hx hb dL_law_408 (by decide) ?_
  refine lv_irem hx hb dL_law_410 (by decide) ?_
  refine lv_if_ne (tgt := 420) hx hb dL_law_411 (by decide) (fun c_411 => ?_) (fun c_411 => ?_)
  · skip
    refine lv_iload hx hb dL_law_420 (lv_at hl 11 rfl) ?_
    refine lv_bipush (v := 90) hx hb dL_law_422 (by decide) ?_
    refine lv_irem hx hb dL_law_424 (by decide) ?_
    refine lv_iload hx hb dL_law_425 (lv_at hl 10 rfl) ?_
    refine y_ci (b_runSW B hT hX hN hW hS (As := [.ref (ad 0), .int (nI jp), .int ((nI jm) - (nI jm) / 90 * 90), .int (nI jd)]) (rest := []) (fun sz => lq_setIncome hlf hI hty (nI jp) ((nI jm) - (nI jm) / 90 * 90) (nI jd) hC sz) (cwL_146 B.2.2.2.2.1 ⟨Nat.le_of_ble_eq_true rfl, Nat.le_of_ble_eq_true rfl⟩) rfl hl.1 (Nat.le_of_ble_eq_true rfl) dL_law_427 ⟨by show _ ≤ 600390; omega, by show _ ≤ 7288600; omega⟩) hI hW hS (fun k h => h) (fun _ _ => rfl) (fun E1 => E1) (fun _ _ _ => rfl) (fun E1 j hj hno => absurd rfl (hno j hj)) (fun r_427 E H locs hp hW hS => ?_)
    obtain ⟨hr_, hC⟩ := hp
    rcases kSet_c (n := P9) (v := (nI jm) - (nI jm) / 90 * 90) (p := jp) (d := jd) (by omega) (by omega) with h0 | hk | hk
    · skip
      obtain ⟨h0, hp9, hd9⟩ := h0
      rw [h0, hv_0, ix_n (by omega), ix_n (by omega)] at hr_
      have hC := (hC.resolve_right (fun q => q.1 h0)).2
      rw [ix_n (by omega), ix_n (by omega)] at hC
      subst hr_
      refine lv_istore (lv' := [(15, .int (V (8 + jp) jd)), (0, .ref b), (1, .ref (ad 0)), (2, .int (nI P9)), (3, .int (nI G9)), (4, .int 1), (5, .int (nI kx)), (6, .int (nI nx)), (7, .long bef), (10, .int (nI jp)), (11, .int (nI jh)), (12, .int (nI jd)), (13, .int (nI jm)), (14, .int nf)]) hx hb dL_law_430 hl (by decide) rfl (fun ls hl => ?_)
      refine lv_goto (tgt := 845) hx hb dL_law_432 (by decide) ?_
      refine W.widen (k := C0) (n := S0) (by omega) (by omega) ?_
      exact K _ _ _ _ _ _ _ _ _ _ ⟨hHm.tell (fun q => absurd q (by omega)), hJ⟩ (Or.inl (by have := (hInv9.2.2.2.2.1 (8 + jp) (by omega) (by omega) jd hd9).1; omega)) _ _ _ _ hC hW hS (lv_sub hl [1, 2, 3, 4, 5, 6, 7, 8, 0] rfl)
    · skip
      rw [hk, hv_1] at hr_
      have hC := (hC.resolve_left (fun q => absurd (hk.symm.trans q.1) (by decide))).2
      subst hr_
      refine lv_istore (lv' := [(15, .int (-77)), (0, .ref b), (1, .ref (ad 0)), (2, .int (nI P9)), (3, .int (nI G9)), (4, .int 1), (5, .int (nI kx)), (6, .int (nI nx)), (7, .long bef), (10, .int (nI jp)), (11, .int (nI jh)), (12, .int (nI jd)), (13, .int (nI jm)), (14, .int nf)]) hx hb dL_law_430 hl (by decide) rfl (fun ls hl => ?_)
      refine lv_goto (tgt := 845) hx hb dL_law_432 (by decide) ?_
      refine W.widen (k := C0) (n := S0) (by omega) (by omega) ?_
      exact K _ _ _ _ _ _ _ _ _ _ ⟨hHm, hJ⟩ (Or.inr hbf) _ _ _ _ hC hW hS (lv_sub hl [1, 2, 3, 4, 5, 6, 7, 8, 0] rfl)
    · skip
      rw [hk, hv_2] at hr_
      have hC := (hC.resolve_left (fun q => absurd (hk.symm.trans q.1) (by decide))).2
      subst hr_
      refine lv_istore (lv' := [(15, .int (-78)), (0, .ref b), (1, .ref (ad 0)), (2, .int (nI P9)), (3, .int (nI G9)), (4, .int 1), (5, .int (nI kx)), (6, .int (nI nx)), (7, .long bef), (10, .int (nI jp)), (11, .int (nI jh)), (12, .int (nI jd)), (13, .int (nI jm)), (14, .int nf)]) hx hb dL_law_430 hl (by decide) rfl (fun ls hl => ?_)
      refine lv_goto (tgt := 845) hx hb dL_law_432 (by decide) ?_
      refine W.widen (k := C0) (n := S0) (by omega) (by omega) ?_
      exact K _ _ _ _ _ _ _ _ _ _ ⟨hHm, hJ⟩ (Or.inr hbf) _ _ _ _ hC hW hS (lv_sub hl [1, 2, 3, 4, 5, 6, 7, 8, 0] rfl)
  · skip
    refine lv_sipush (v := 1000) hx hb dL_law_414 (by decide) ?_
    refine lv_goto (tgt := 425) hx hb dL_law_417 (by decide) ?_
    refine lv_iload hx hb dL_law_425 (lv_at hl 10 rfl) ?_
    refine y_ci (b_runSW B hT hX hN hW hS (As := [.ref (ad 0), .int (nI jp), .int 1000, .int (nI jd)]) (rest := []) (fun sz => lq_setIncome hlf hI hty (nI jp) 1000 (nI jd) hC sz) (cwL_146 B.2.2.2.2.1 ⟨Nat.le_of_ble_eq_true rfl, Nat.le_of_ble_eq_true rfl⟩) rfl hl.1 (Nat.le_of_ble_eq_true rfl) dL_law_427 ⟨by show _ ≤ 600390; omega, by show _ ≤ 7288600; omega⟩) hI hW hS (fun k h => h) (fun _ _ => rfl) (fun E1 => E1) (fun _ _ _ => rfl) (fun E1 j hj hno => absurd rfl (hno j hj)) (fun r_427 E H locs hp hW hS => ?_)
    obtain ⟨hr_, hC⟩ := hp
    rcases kSet_c (n := P9) (v := 1000) (p := jp) (d := jd) (by omega) (by omega) with h0 | hk | hk
    · skip
      obtain ⟨h0, hp9, hd9⟩ := h0
      rw [h0, hv_0, ix_n (by omega), ix_n (by omega)] at hr_
      have hC := (hC.resolve_right (fun q => q.1 h0)).2
      rw [ix_n (by omega), ix_n (by omega)] at hC
      subst hr_
      refine lv_istore (lv' := [(15, .int (V (8 + jp) jd)), (0, .ref b), (1, .ref (ad 0)), (2, .int (nI P9)), (3, .int (nI G9)), (4, .int 1), (5, .int (nI kx)), (6, .int (nI nx)), (7, .long bef), (10, .int (nI jp)), (11, .int (nI jh)), (12, .int (nI jd)), (13, .int (nI jm)), (14, .int nf)]) hx hb dL_law_430 hl (by decide) rfl (fun ls hl => ?_)
      refine lv_goto (tgt := 845) hx hb dL_law_432 (by decide) ?_
      refine W.widen (k := C0) (n := S0) (by omega) (by omega) ?_
      exact K _ _ _ _ _ _ _ _ _ _ ⟨hHm.tell (fun q => absurd q (by omega)), hJ⟩ (Or.inl (by have := (hInv9.2.2.2.2.1 (8 + jp) (by omega) (by omega) jd hd9).1; omega)) _ _ _ _ hC hW hS (lv_sub hl [1, 2, 3, 4, 5, 6, 7, 8, 0] rfl)
    · skip
      rw [hk, hv_1] at hr_
      have hC := (hC.resolve_left (fun q => absurd (hk.symm.trans q.1) (by decide))).2
      subst hr_
      refine lv_istore (lv' := [(15, .int (-77)), (0, .ref b), (1, .ref (ad 0)), (2, .int (nI P9)), (3, .int (nI G9)), (4, .int 1), (5, .int (nI kx)), (6, .int (nI nx)), (7, .long bef), (10, .int (nI jp)), (11, .int (nI jh)), (12, .int (nI jd)), (13, .int (nI jm)), (14, .int nf)]) hx hb dL_law_430 hl (by decide) rfl (fun ls hl => ?_)
      refine lv_goto (tgt := 845) hx hb dL_law_432 (by decide) ?_
      refine W.widen (k := C0) (n := S0) (by omega) (by omega) ?_
      exact K _ _ _ _ _ _ _ _ _ _ ⟨hHm, hJ⟩ (Or.inr hbf) _ _ _ _ hC hW hS (lv_sub hl [1, 2, 3, 4, 5, 6, 7, 8, 0] rfl)
    · skip
      rw [hk, hv_2] at hr_
      have hC := (hC.resolve_left (fun q => absurd (hk.symm.trans q.1) (by decide))).2
      subst hr_
      refine lv_istore (lv' := [(15, .int (-78)), (0, .ref b), (1, .ref (ad 0)), (2, .int (nI P9)), (3, .int (nI G9)), (4, .int 1), (5, .int (nI kx)), (6, .int (nI nx)), (7, .long bef), (10, .int (nI jp)), (11, .int (nI jh)), (12, .int (nI jd)), (13, .int (nI jm)), (14, .int nf)]) hx hb dL_law_430 hl (by decide) rfl (fun ls hl => ?_)
      refine lv_goto (tgt := 845) hx hb dL_law_432 (by decide) ?_
      refine W.widen (k := C0) (n := S0) (by omega) (by omega) ?_
      exact K _ _ _ _ _ _ _ _ _ _ ⟨hHm, hJ⟩ (Or.inr hbf) _ _ _ _ hC hW hS (lv_sub hl [1, 2, 3, 4, 5, 6, 7, 8, 0] rfl)
set_option maxHeartbeats 8000000 in
set_option maxRecDepth 100000 in
theorem lk_rent {p : Program} {l : Launch} {e : Env} {s : State} {m : MethodId} {args : Array Value} {below : List Frame} {meth : Method} {c : Code} {Q : State → Prop} {D : va_G} {ad : Nat → Nat} {cI cZ cH cP cT cJ cF : ClassId} {b L : Nat} {xs : Nat → Int32} (C : LC35 p l s m args c D ad cI cZ cH cP cT cJ cF b L xs) {V T : Nat → Nat → Int32} {ag : Nat → Int32} {P9 G9 rN : Nat} {nf pn : Int32} {sp sk : Int64} {py pd : Nat → Nat → Int32} {E : Nat → va_E} {H : Heap} {locs : List Loc} {ls : Array Slot} {kx nx jp jh jd jm c0 s0 C0 S0 : Nat} {bef : Int64} (hjp : jp ≤ P9) (hjh : jh ≤ G9) (hjd : jd ≤ 360) (hjm : jm < 1000) (hST : ST35 V G9 rN pn sp py pd) (hbf : sL nf sp sk (due V ag P9) pd rN G9 = bef) (hc : c0 + 400 ≤ C0) (hs : s0 + 2400 ≤ S0) (hC0 : C0 ≤ 600390) (hS0 : S0 ≤ 7288600) (K : LK35 p l e s m args below meth c Q D ad cI cH cP cT b ag P9 G9 kx nx bef C0 S0) (hC : CW cI cI cH cP cT ad V T ag P9 G9 rN nf pn sp sk py pd E) (hW : hH D ad 109 E H) (hS : va_S (cA ad 109 s.heap.size) s.heap H locs) (hl : lv_has ls 20 [(0, .ref b), (1, .ref (ad 0)), (2, .int (nI P9)), (3, .int (nI G9)), (4, .int 1), (5, .int (nI kx)), (6, .int (nI nx)), (7, .long bef), (10, .int (nI jp)), (11, .int (nI jh)), (12, .int (nI jd)), (13, .int (nI jm)), (14, .int nf), (15, .int 0)]) : W p l e room_1 s m args below meth c H locs (c0) (s0) Q (F0 m 442 ls []) := by
  obtain ⟨B, ⟨hlf, hT, hN, hX, hI⟩, hXs, hbl, hbA, hL⟩ := id C
  have hx := B.1
  have hb := B.2.1
  have hty : TY [(cI, .int), (cZ, .int), (cH, .object RX1), (cP, .object RX2), (cT, .object RX4), (cJ, .int), (cF, .int)] cI cI cH cP cT := ⟨rfl, rfl, rfl, rfl, rfl⟩
  obtain ⟨hP8, hH4, hR12⟩ := hC.bds
  obtain ⟨hHm, hJ⟩ := hST
  obtain ⟨so9, hInv9⟩ := hC.inv
  refine lv_aload_n hx hb dL_law_442 rfl (lv_at hl 1 rfl) ?_
  refine lv_iload hx hb dL_law_443 (lv_at hl 9 rfl) ?_
  refine lv_iload hx hb dL_law_445 (lv_at hl 11 rfl) ?_
  refine lv_bipush (v := 10) hx hb dL_law_447 (by decide) ?_
  refine lv_irem hx hb dL_law_449 (by decide) ?_
  refine lv_if_ne (tgt := 459) hx hb dL_law_450 (by decide) (fun c_450 => ?_) (fun c_450 => ?_)
  · skip
    refine lv_iload hx hb dL_law_459 (lv_at hl 11 rfl) ?_
    refine lv_bipush (v := 60) hx hb dL_law_461 (by decide) ?_
    refine lv_irem hx hb dL_law_463 (by decide) ?_
    refine lv_iload hx hb dL_law_464 (lv_at hl 10 rfl) ?_
    refine y_ci (b_runSW B hT hX hN hW hS (As := [.ref (ad 0), .int (nI jh), .int ((nI jm) - (nI jm) / 60 * 60), .int (nI jd)]) (rest := []) (fun sz => lq_setRent hlf hI hty (nI jh) ((nI jm) - (nI jm) / 60 * 60) (nI jd) hC sz) (cwL_148 B.2.2.2.2.1 ⟨Nat.le_of_ble_eq_true rfl, Nat.le_of_ble_eq_true rfl⟩) rfl hl.1 (Nat.le_of_ble_eq_true rfl) dL_law_466 ⟨by show _ ≤ 600390; omega, by show _ ≤ 7288600; omega⟩) hI hW hS (fun k h => h) (fun _ _ => rfl) (fun E1 => E1) (fun _ _ _ => rfl) (fun E1 j hj hno => absurd rfl (hno j hj)) (fun r_466 E H locs hp hW hS => ?_)
    obtain ⟨hr_, hC⟩ := hp
    rcases kSet_c (n := G9) (v := (nI jm) - (nI jm) / 60 * 60) (p := jh) (d := jd) (by omega) (by omega) with h0 | hk | hk
    · skip
      obtain ⟨h0, hp9, hd9⟩ := h0
      rw [h0, hv_0, ix_n (by omega), ix_n (by omega)] at hr_
      have hC := (hC.resolve_right (fun q => q.1 h0)).2
      rw [ix_n (by omega), ix_n (by omega)] at hC
      subst hr_
      refine lv_istore (lv' := [(15, .int (V (16 + jh) jd)), (0, .ref b), (1, .ref (ad 0)), (2, .int (nI P9)), (3, .int (nI G9)), (4, .int 1), (5, .int (nI kx)), (6, .int (nI nx)), (7, .long bef), (10, .int (nI jp)), (11, .int (nI jh)), (12, .int (nI jd)), (13, .int (nI jm)), (14, .int nf)]) hx hb dL_law_469 hl (by decide) rfl (fun ls hl => ?_)
      refine lv_goto (tgt := 845) hx hb dL_law_471 (by decide) ?_
      refine W.widen (k := C0) (n := S0) (by omega) (by omega) ?_
      exact K _ _ _ _ _ _ _ _ _ _ ⟨hHm.tell (fun q => absurd q (by omega)), hJ⟩ (Or.inl (by have := (hInv9.2.2.2.2.1 (16 + jh) (by omega) (by omega) jd hd9).1; omega)) _ _ _ _ hC hW hS (lv_sub hl [1, 2, 3, 4, 5, 6, 7, 8, 0] rfl)
    · skip
      rw [hk, hv_1] at hr_
      have hC := (hC.resolve_left (fun q => absurd (hk.symm.trans q.1) (by decide))).2
      subst hr_
      refine lv_istore (lv' := [(15, .int (-77)), (0, .ref b), (1, .ref (ad 0)), (2, .int (nI P9)), (3, .int (nI G9)), (4, .int 1), (5, .int (nI kx)), (6, .int (nI nx)), (7, .long bef), (10, .int (nI jp)), (11, .int (nI jh)), (12, .int (nI jd)), (13, .int (nI jm)), (14, .int nf)]) hx hb dL_law_469 hl (by decide) rfl (fun ls hl => ?_)
      refine lv_goto (tgt := 845) hx hb dL_law_471 (by decide) ?_
      refine W.widen (k := C0) (n := S0) (by omega) (by omega) ?_
      exact K _ _ _ _ _ _ _ _ _ _ ⟨hHm, hJ⟩ (Or.inr hbf) _ _ _ _ hC hW hS (lv_sub hl [1, 2, 3, 4, 5, 6, 7, 8, 0] rfl)
    · skip
      rw [hk, hv_2] at hr_
      have hC := (hC.resolve_left (fun q => absurd (hk.symm.trans q.1) (by decide))).2
      subst hr_
      refine lv_istore (lv' := [(15, .int (-78)), (0, .ref b), (1, .ref (ad 0)), (2, .int (nI P9)), (3, .int (nI G9)), (4, .int 1), (5, .int (nI kx)), (6, .int (nI nx)), (7, .long bef), (10, .int (nI jp)), (11, .int (nI jh)), (12, .int (nI jd)), (13, .int (nI jm)), (14, .int nf)]) hx hb dL_law_469 hl (by decide) rfl (fun ls hl => ?_)
      refine lv_goto (tgt := 845) hx hb dL_law_471 (by decide) ?_
      refine W.widen (k := C0) (n := S0) (by omega) (by omega) ?_
      exact K _ _ _ _ _ _ _ _ _ _ ⟨hHm, hJ⟩ (Or.inr hbf) _ _ _ _ hC hW hS (lv_sub hl [1, 2, 3, 4, 5, 6, 7, 8, 0] rfl)
  · skip
    refine lv_sipush (v := 1000) hx hb dL_law_453 (by decide) ?_
    refine lv_goto (tgt := 464) hx hb dL_law_456 (by decide) ?_
    refine lv_iload hx hb dL_law_464 (lv_at hl 10 rfl) ?_
    refine y_ci (b_runSW B hT hX hN hW hS (As := [.ref (ad 0), .int (nI jh), .int 1000, .int (nI jd)]) (rest := []) (fun sz => lq_setRent hlf hI hty (nI jh) 1000 (nI jd) hC sz) (cwL_148 B.2.2.2.2.1 ⟨Nat.le_of_ble_eq_true rfl, Nat.le_of_ble_eq_true rfl⟩) rfl hl.1 (Nat.le_of_ble_eq_true rfl) dL_law_466 ⟨by show _ ≤ 600390; omega, by show _ ≤ 7288600; omega⟩) hI hW hS (fun k h => h) (fun _ _ => rfl) (fun E1 => E1) (fun _ _ _ => rfl) (fun E1 j hj hno => absurd rfl (hno j hj)) (fun r_466 E H locs hp hW hS => ?_)
    obtain ⟨hr_, hC⟩ := hp
    rcases kSet_c (n := G9) (v := 1000) (p := jh) (d := jd) (by omega) (by omega) with h0 | hk | hk
    · skip
      obtain ⟨h0, hp9, hd9⟩ := h0
      rw [h0, hv_0, ix_n (by omega), ix_n (by omega)] at hr_
      have hC := (hC.resolve_right (fun q => q.1 h0)).2
      rw [ix_n (by omega), ix_n (by omega)] at hC
      subst hr_
      refine lv_istore (lv' := [(15, .int (V (16 + jh) jd)), (0, .ref b), (1, .ref (ad 0)), (2, .int (nI P9)), (3, .int (nI G9)), (4, .int 1), (5, .int (nI kx)), (6, .int (nI nx)), (7, .long bef), (10, .int (nI jp)), (11, .int (nI jh)), (12, .int (nI jd)), (13, .int (nI jm)), (14, .int nf)]) hx hb dL_law_469 hl (by decide) rfl (fun ls hl => ?_)
      refine lv_goto (tgt := 845) hx hb dL_law_471 (by decide) ?_
      refine W.widen (k := C0) (n := S0) (by omega) (by omega) ?_
      exact K _ _ _ _ _ _ _ _ _ _ ⟨hHm.tell (fun q => absurd q (by omega)), hJ⟩ (Or.inl (by have := (hInv9.2.2.2.2.1 (16 + jh) (by omega) (by omega) jd hd9).1; omega)) _ _ _ _ hC hW hS (lv_sub hl [1, 2, 3, 4, 5, 6, 7, 8, 0] rfl)
    · skip
      rw [hk, hv_1] at hr_
      have hC := (hC.resolve_left (fun q => absurd (hk.symm.trans q.1) (by decide))).2
      subst hr_
      refine lv_istore (lv' := [(15, .int (-77)), (0, .ref b), (1, .ref (ad 0)), (2, .int (nI P9)), (3, .int (nI G9)), (4, .int 1), (5, .int (nI kx)), (6, .int (nI nx)), (7, .long bef), (10, .int (nI jp)), (11, .int (nI jh)), (12, .int (nI jd)), (13, .int (nI jm)), (14, .int nf)]) hx hb dL_law_469 hl (by decide) rfl (fun ls hl => ?_)
      refine lv_goto (tgt := 845) hx hb dL_law_471 (by decide) ?_
      refine W.widen (k := C0) (n := S0) (by omega) (by omega) ?_
      exact K _ _ _ _ _ _ _ _ _ _ ⟨hHm, hJ⟩ (Or.inr hbf) _ _ _ _ hC hW hS (lv_sub hl [1, 2, 3, 4, 5, 6, 7, 8, 0] rfl)
    · skip
      rw [hk, hv_2] at hr_
      have hC := (hC.resolve_left (fun q => absurd (hk.symm.trans q.1) (by decide))).2
      subst hr_
      refine lv_istore (lv' := [(15, .int (-78)), (0, .ref b), (1, .ref (ad 0)), (2, .int (nI P9)), (3, .int (nI G9)), (4, .int 1), (5, .int (nI kx)), (6, .int (nI nx)), (7, .long bef), (10, .int (nI jp)), (11, .int (nI jh)), (12, .int (nI jd)), (13, .int (nI jm)), (14, .int nf)]) hx hb dL_law_469 hl (by decide) rfl (fun ls hl => ?_)
      refine lv_goto (tgt := 845) hx hb dL_law_471 (by decide) ?_
      refine W.widen (k := C0) (n := S0) (by omega) (by omega) ?_
      exact K _ _ _ _ _ _ _ _ _ _ ⟨hHm, hJ⟩ (Or.inr hbf) _ _ _ _ hC hW hS (lv_sub hl [1, 2, 3, 4, 5, 6, 7, 8, 0] rfl)
