theorem and31 (x : Int32) : ∃ k, k < 32 ∧ x &&& 31 = nI k := by
  refine ⟨(x &&& 31).toBitVec.toNat, ?_, ?_⟩
  · rw [Int32.toBitVec_and, BitVec.toNat_and]
    exact Nat.lt_of_le_of_lt Nat.and_le_right (by decide)
  · apply Int32.toBitVec_inj.mp
    show _ = BitVec.ofNat 32 _
    rw [BitVec.ofNat_toNat, BitVec.setWidth_eq]
set_option maxHeartbeats 4000000 in
set_option maxRecDepth 100000 in
/-- the law's loop -/
theorem law_loop {p : Program} {l : Launch} {e : Env} {s : State} {m : MethodId} {below : List Frame} {meth : Method} {c : Code} {D : va_G} {ad : Nat → Nat} {cI cZ cH cP cT cJ cF : ClassId} {b L : Nat} {xs : Nat → Int32} (C : LC p l s m #[Value.ref b] c D ad cI cZ cH cP cT cJ cF b L xs) (hr : meth.sig.returnType = ret) (hlk : meth.locks = false) (hge : ∀ k, k < 124 → s.heap.size ≤ ad k) :
    ∀ (n_ t : Nat), L < 4 * n_ + 4 * t → 4 * t ≤ 2048 → ∀ (V T : Nat → Nat → Int32) (ag : Nat → Int32) (nP nH rN : Nat) (nf pn : Int32) (sp sk : Int64) (py pd : Nat → Nat → Int32) (th : Int32) (Ec Em : Nat → va_E) (o : Nat → Int64) (od : Nat → UInt64) (H : Heap) (locs : List Loc) (ls : Array Slot), CW cI cZ cH cP cT ad V T ag nP nH rN nf pn sp sk py pd Ec → MW cI cZ (fun k => ad (110 + k)) th V T ag nP nH rN nf pn sp sk py pd Em → hH D ad 124 (lE cJ cF Ec Em o od) H → va_S (cA ad 124 s.heap.size) s.heap H locs → lv_has ls 9 [(0, .ref b), (1, .ref (ad 0)), (2, .ref (ad 110)), (3, .ref (ad 109)), (4, .ref (ad 123)), (5, .int (nI (4 * t)))] → W p l e room_1 s m #[Value.ref b] below meth c H locs (124 + 8 * t) (39652 + 48 * t) (lw_Z below #[Value.ref b] s) (F0 m 28 ls []) := by
  obtain ⟨B, ⟨hlf, hT, hN, hX, hI⟩, hXs, hbl, hbA, hL⟩ := id C
  have hx := B.1
  have hb := B.2.1
  intro n_
  induction n_ with
  | zero =>
    intro t h1 h2 V T ag nP nH rN nf pn sp sk py pd th Ec Em o od H locs ls hC hM hW hS hl
    refine lv_iload hx hb dL_law_28 (lv_at hl 5 rfl) ?_
    refine lv_aload_n hx hb dL_law_30 rfl (lv_at hl 0 rfl) ?_
    refine va_slen hx hb hXs hbl hbA hS dL_law_31 ?_
    refine lv_iconst (v := 4) hx hb dL_law_32 (by decide) ?_
    refine lv_isub hx hb dL_law_33 ?_
    refine lv_icmp_gt (tgt := 2124) hx hb dL_law_34 (by decide) (fun c_34 => ?_) (fun c_34 => ?_)
    · refine lv_iconst (v := 1) hx hb dL_law_2124 (by decide) ?_
      refine va_forget (fun q hq => (hS.2.2 q hq).elim (fun ⟨k, hk, ek⟩ => by rw [← ek]; exact hge k hk) id) ?_
      refine W.widen (k := 603072) (n := 7194730) (by omega) (by omega) ?_
      refine W.base ?_
      exact lw_ret (Drawn.sameBut.refl s.drawn lw_cs) hx hb hr hlk dL_law_2125
    · exfalso
      refine c_34 ((fa_lt _ _).mpr ?_)
      have e4 : (4 : Int32).toInt = 4 := rfl
      have eL : (Int32.ofNat L).toInt = (L : Int) := nI_toInt (by omega)
      rw [fb_subI (by rw [eL, e4]; omega) (by rw [eL, e4]; omega), nI_toInt (by omega), eL, e4]
      omega
  | succ n_ ih =>
    intro t h1 h2 V T ag nP nH rN nf pn sp sk py pd th Ec Em o od H locs ls hC hM hW hS hl
    refine lv_iload hx hb dL_law_28 (lv_at hl 5 rfl) ?_
    refine lv_aload_n hx hb dL_law_30 rfl (lv_at hl 0 rfl) ?_
    refine va_slen hx hb hXs hbl hbA hS dL_law_31 ?_
    refine lv_iconst (v := 4) hx hb dL_law_32 (by decide) ?_
    refine lv_isub hx hb dL_law_33 ?_
    refine lv_icmp_gt (tgt := 2124) hx hb dL_law_34 (by decide) (fun c_34 => ?_) (fun c_34 => ?_)
    · refine lv_iconst (v := 1) hx hb dL_law_2124 (by decide) ?_
      refine va_forget (fun q hq => (hS.2.2 q hq).elim (fun ⟨k, hk, ek⟩ => by rw [← ek]; exact hge k hk) id) ?_
      refine W.widen (k := 603072) (n := 7194730) (by omega) (by omega) ?_
      refine W.base ?_
      exact lw_ret (Drawn.sameBut.refl s.drawn lw_cs) hx hb hr hlk dL_law_2125
    have hlt : 4 * t + 4 ≤ L := by
      have h9 : ¬ (Int32.ofNat L - 4).toInt < (nI (4 * t)).toInt := fun q => c_34 ((fa_lt _ _).mpr q)
      have e4 : (4 : Int32).toInt = 4 := rfl
      have eL : (Int32.ofNat L).toInt = (L : Int) := nI_toInt (by omega)
      rw [fb_subI (by rw [eL, e4]; omega) (by rw [eL, e4]; omega), nI_toInt (by omega), eL, e4] at h9
      omega
    have KK : LK p l e s m #[Value.ref b] below meth c (lw_Z below #[Value.ref b] s) D ad cI cZ cH cP cT cJ cF b t (124 + 8 * t + 8) (39652 + 48 * t + 48) := by
      intro V T ag nP nH rN nf pn sp sk py pd th Ec Em o od H locs ls hC hM hW hS hl
      refine lv_iinc (v := nI (4 * (t + 1))) (lv' := [(5, .int (nI (4 * (t + 1)))), (0, .ref b), (1, .ref (ad 0)), (2, .ref (ad 110)), (3, .ref (ad 109)), (4, .ref (ad 123))]) hx hb dL_law_2118 hl (k := 5) rfl (nI_add (4 * t) 4) (by decide) rfl (fun ls hl => ?_)
      refine lv_goto (tgt := 28) hx hb dL_law_2121 (by decide) ?_
      refine W.widen (k := 124 + 8 * (t + 1)) (n := 39652 + 48 * (t + 1)) (by omega) (by omega) ?_
      exact ih (t + 1) (by omega) (by omega) V T ag nP nH rN nf pn sp sk py pd th Ec Em o od H locs ls hC hM hW hS (lv_sub hl [1, 2, 3, 4, 5, 0] rfl)
    refine lv_aload_n hx hb dL_law_37 rfl (lv_at hl 0 rfl) ?_
    refine lv_iload hx hb dL_law_38 (lv_at hl 5 rfl) ?_
    refine va_sld hx hb hXs hbl hbA hS (vp_in_nI (by omega) (by omega)) dL_law_40 ?_
    refine lv_bipush (v := 31) hx hb dL_law_41 (by decide) ?_
    refine lv_iand hx hb dL_law_43 ?_
    obtain ⟨k, hk, hkx⟩ := and31 (xs (nI (4 * t)).toNatClampNeg)
    refine b_top (y := nI k) hkx ?_
    have h32 : k = 0 ∨ k = 1 ∨ k = 2 ∨ k = 3 ∨ k = 4 ∨ k = 5 ∨ k = 6 ∨ k = 7 ∨ k = 8 ∨ k = 9 ∨ k = 10 ∨ k = 11 ∨ k = 12 ∨ k = 13 ∨ k = 14 ∨ k = 15 ∨ k = 16 ∨ k = 17 ∨ k = 18 ∨ k = 19 ∨ k = 20 ∨ k = 21 ∨ k = 22 ∨ k = 23 ∨ k = 24 ∨ k = 25 ∨ k = 26 ∨ k = 27 ∨ k = 28 ∨ k = 29 ∨ k = 30 ∨ k = 31 := by omega
    rcases h32 with rfl | rfl | rfl | rfl | rfl | rfl | rfl | rfl | rfl | rfl | rfl | rfl | rfl | rfl | rfl | rfl | rfl | rfl | rfl | rfl | rfl | rfl | rfl | rfl | rfl | rfl | rfl | rfl | rfl | rfl | rfl | rfl
    · exact lv_tableIn (tgt := 188) hx hb dL_law_44 (by decide) (by decide) (off := 144) rfl (by decide) (lc_0 C hlt (by omega) (by omega) KK hC hM hW hS hl)
    · exact lv_tableIn (tgt := 244) hx hb dL_law_44 (by decide) (by decide) (off := 200) rfl (by decide) (lc_1 C hlt (by omega) (by omega) KK hC hM hW hS hl)
    · exact lv_tableIn (tgt := 288) hx hb dL_law_44 (by decide) (by decide) (off := 244) rfl (by decide) (lc_2 C hlt (by omega) (by omega) KK hC hM hW hS hl)
    · exact lv_tableIn (tgt := 368) hx hb dL_law_44 (by decide) (by decide) (off := 324) rfl (by decide) (lc_3 C hlt (by omega) (by omega) KK hC hM hW hS hl)
    · exact lv_tableIn (tgt := 448) hx hb dL_law_44 (by decide) (by decide) (off := 404) rfl (by decide) (lc_4 C hlt (by omega) (by omega) KK hC hM hW hS hl)
    · exact lv_tableIn (tgt := 528) hx hb dL_law_44 (by decide) (by decide) (off := 484) rfl (by decide) (lc_5 C hlt (by omega) (by omega) KK hC hM hW hS hl)
    · exact lv_tableIn (tgt := 610) hx hb dL_law_44 (by decide) (by decide) (off := 566) rfl (by decide) (lc_6 C hlt (by omega) (by omega) KK hC hM hW hS hl)
    · exact lv_tableIn (tgt := 678) hx hb dL_law_44 (by decide) (by decide) (off := 634) rfl (by decide) (lc_7 C hlt (by omega) (by omega) KK hC hM hW hS hl)
    · exact lv_tableIn (tgt := 746) hx hb dL_law_44 (by decide) (by decide) (off := 702) rfl (by decide) (lc_8 C hlt (by omega) (by omega) KK hC hM hW hS hl)
    · exact lv_tableIn (tgt := 816) hx hb dL_law_44 (by decide) (by decide) (off := 772) rfl (by decide) (lc_9 C hlt (by omega) (by omega) KK hC hM hW hS hl)
    · exact lv_tableIn (tgt := 860) hx hb dL_law_44 (by decide) (by decide) (off := 816) rfl (by decide) (lc_10 C hlt (by omega) (by omega) KK hC hM hW hS hl)
    · exact lv_tableIn (tgt := 873) hx hb dL_law_44 (by decide) (by decide) (off := 829) rfl (by decide) (lc_11 C hlt (by omega) (by omega) KK hC hM hW hS hl)
    · exact lv_tableIn (tgt := 941) hx hb dL_law_44 (by decide) (by decide) (off := 897) rfl (by decide) (lc_12 C hlt (by omega) (by omega) KK hC hM hW hS hl)
    · exact lv_tableIn (tgt := 1009) hx hb dL_law_44 (by decide) (by decide) (off := 965) rfl (by decide) (lc_13 C hlt (by omega) (by omega) KK hC hM hW hS hl)
    · exact lv_tableIn (tgt := 1065) hx hb dL_law_44 (by decide) (by decide) (off := 1021) rfl (by decide) (lc_14 C hlt (by omega) (by omega) KK hC hM hW hS hl)
    · exact lv_tableIn (tgt := 1128) hx hb dL_law_44 (by decide) (by decide) (off := 1084) rfl (by decide) (lc_15 C hlt (by omega) (by omega) KK hC hM hW hS hl)
    · exact lv_tableIn (tgt := 1142) hx hb dL_law_44 (by decide) (by decide) (off := 1098) rfl (by decide) (lc_16 C hlt (by omega) (by omega) KK hC hM hW hS hl)
    · exact lv_tableIn (tgt := 1156) hx hb dL_law_44 (by decide) (by decide) (off := 1112) rfl (by decide) (lc_17 C hlt (by omega) (by omega) KK hC hM hW hS hl)
    · exact lv_tableIn (tgt := 1224) hx hb dL_law_44 (by decide) (by decide) (off := 1180) rfl (by decide) (lc_18 C hlt (by omega) (by omega) KK hC hM hW hS hl)
    · exact lv_tableIn (tgt := 1294) hx hb dL_law_44 (by decide) (by decide) (off := 1250) rfl (by decide) (lc_19 C hlt (by omega) (by omega) KK hC hM hW hS hl)
    · exact lv_tableIn (tgt := 1362) hx hb dL_law_44 (by decide) (by decide) (off := 1318) rfl (by decide) (lc_20 C hlt (by omega) (by omega) KK hC hM hW hS hl)
    · exact lv_tableIn (tgt := 1430) hx hb dL_law_44 (by decide) (by decide) (off := 1386) rfl (by decide) (lc_21 C hlt (by omega) (by omega) KK hC hM hW hS hl)
    · exact lv_tableIn (tgt := 1498) hx hb dL_law_44 (by decide) (by decide) (off := 1454) rfl (by decide) (lc_22 C hlt (by omega) (by omega) KK hC hM hW hS hl)
    · exact lv_tableIn (tgt := 1566) hx hb dL_law_44 (by decide) (by decide) (off := 1522) rfl (by decide) (lc_23 C hlt (by omega) (by omega) KK hC hM hW hS hl)
    · exact lv_tableIn (tgt := 1634) hx hb dL_law_44 (by decide) (by decide) (off := 1590) rfl (by decide) (lc_24 C hlt (by omega) (by omega) KK hC hM hW hS hl)
    · exact lv_tableIn (tgt := 1702) hx hb dL_law_44 (by decide) (by decide) (off := 1658) rfl (by decide) (lc_25 C hlt (by omega) (by omega) KK hC hM hW hS hl)
    · exact lv_tableIn (tgt := 1770) hx hb dL_law_44 (by decide) (by decide) (off := 1726) rfl (by decide) (lc_26 C hlt (by omega) (by omega) KK hC hM hW hS hl)
    · exact lv_tableIn (tgt := 1838) hx hb dL_law_44 (by decide) (by decide) (off := 1794) rfl (by decide) (lc_27 C hlt (by omega) (by omega) KK hC hM hW hS hl)
    · exact lv_tableIn (tgt := 1906) hx hb dL_law_44 (by decide) (by decide) (off := 1862) rfl (by decide) (lc_28 C hlt (by omega) (by omega) KK hC hM hW hS hl)
    · exact lv_tableIn (tgt := 1974) hx hb dL_law_44 (by decide) (by decide) (off := 1930) rfl (by decide) (lc_29 C hlt (by omega) (by omega) KK hC hM hW hS hl)
    · exact lv_tableIn (tgt := 1987) hx hb dL_law_44 (by decide) (by decide) (off := 1943) rfl (by decide) (lc_30 C hlt (by omega) (by omega) KK hC hM hW hS hl)
    · exact lv_tableIn (tgt := 2053) hx hb dL_law_44 (by decide) (by decide) (off := 2009) rfl (by decide) (lc_31 C hlt (by omega) (by omega) KK hC hM hW hS hl)
