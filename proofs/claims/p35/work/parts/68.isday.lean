set_option maxHeartbeats 8000000 in
set_option maxRecDepth 100000 in
/-- isDay -/
theorem ow_isDay {l : Launch} (hlf : l.stackTraces = false) {D : va_G} {tys : List (ClassId × FieldType)} {ad : Nat → Nat} (hI : aI ad 109) {cI cZ cH cP cT : ClassId} {V T : Nat → Nat → Int32} {ag : Nat → Int32} {nP nH rN : Nat} {nf pn : Int32} {sp sk : Int64} {py pd : Nat → Nat → Int32} (hty : TY tys cI cZ cH cP cT) (h d : Nat) {E : Nat → va_E} (hC : CW cI cZ cH cP cT ad V T ag nP nH rN nf pn sp sk py pd E) (hh : h < nH) (hd : d < 360) (sz : Nat) : Met l yL_isDay (Cond.code yL_isDay cL_isDay 14 (some .boolean) :: wsL_law) (rmk 8 320 1920) (va_Pc [.ref (ad 0), .int (nI h), .int (nI d)] (PN D tys ad 109 E sz)) (Qi D ad 109 (fun r E1 => r = 1 ∧ CW cI cZ cH cP cT ad V T ag nP nH rN nf pn sp sk py pd E1) (cA ad 109 sz)) 320 1920 (cA ad 109 sz) := by
  obtain ⟨hP8, hH4, hR12⟩ := hC.bds
  obtain ⟨so9, hInv9⟩ := hC.inv
  obtain ⟨⟨s1, s2, s3, s4⟩, s5, s6, s7, s8, s9⟩ := day_spec hInv9 (show h < 4 by omega) hd
  clear hInv9 so9
  refine cn_of (own := RL) (Qc := Qi D ad 109 (fun r E1 => r = 1 ∧ CW cI cZ cH cP cT ad V T ag nP nH rN nf pn sp sk py pd E1)) rfl (by decide +kernel) (Nat.le_of_ble_eq_true rfl) ?_ sz
  intro p e s m args below meth c ls Q B hT hX hN hW hr hlk hl hS hA hQ
  have hx := B.1
  have hb := B.2.1
  have hl : lv_has ls 14 [(0, .ref (ad 0)), (1, .int (nI h)), (2, .int (nI d))] := hl
  have L_176 : ∀ (n_ : Nat) (i : Nat), (hi : i ≤ 8) → (hn : 8 < n_ + i) → ∀ (E : Nat → va_E) (H : Heap) (locs : List Loc) (ls : Array Slot), CW cI cZ cH cP cT ad V T ag nP nH rN nf pn sp sk py pd E → hH D ad 109 E H → va_S (cA ad 109 s.heap.size) s.heap H locs → lv_has ls 14 [(0, .ref (ad 0)), (1, .int (nI h)), (2, .int (nI d)), (3, .int ((amt V ag nP h d).1)), (4, .int ((amt V ag nP h d).2.1)), (5, .int ((amt V ag nP h d).2.2.1)), (8, .int 1), (9, .int (lvS V nP h d i)), (10, .int (nI i))] → W p l e (rmk 8 320 1920) s m args below meth c H locs (88 + 8 * i) (528 + 48 * i) Q (F0 m 176 ls []) := by
    intro n_
    induction n_ with
    | zero =>
      intro i hi hn
      omega
    | succ n_ ih =>
      intro i hi hn E H locs ls hC hW hS hl
      refine lv_iload hx hb dL_isDay_176 (lv_at hl 8 rfl) ?_
      refine lv_bipush (v := (nI 8)) hx hb dL_isDay_178 (by decide) ?_
      refine lv_icmp_ge (tgt := 210) hx hb dL_isDay_180 (by decide) (fun c_180 => ?_) (fun c_180 => ?_)
      · skip
        have ei : i = 8 := Nat.le_antisymm hi ((nI_leI (by omega) (by omega)).mp c_180)
        refine lv_aload_n hx hb dL_isDay_210 rfl (lv_at hl 0 rfl) ?_
        refine lv_iload_n hx hb dL_isDay_211 rfl (lv_at hl 1 rfl) ?_
        refine lv_iload_n hx hb dL_isDay_212 rfl (lv_at hl 2 rfl) ?_
        refine y_ci (b_runSW B hT hX hN hW hS (As := [.ref (ad 0), .int (nI h), .int (nI d)]) (rest := []) (fun sz => lv_nextChange hlf hI hty h d hh hd hC sz) (cwL_215 B.2.2.2.2.1 ⟨Nat.le_of_ble_eq_true rfl, Nat.le_of_ble_eq_true rfl⟩) rfl hl.1 (Nat.le_of_ble_eq_true rfl) dL_isDay_213 ⟨by show _ ≤ 320; omega, by show _ ≤ 1920; omega⟩) hI hW hS (fun k h => h) (fun _ _ => rfl) (fun E1 => E1) (fun _ _ _ => rfl) (fun E1 j hj hno => absurd rfl (hno j hj)) (fun r_213 E H locs hp hW hS => ?_)
        obtain ⟨hr_, hC⟩ := hp
        subst hr_
        obtain ⟨n1, n2, n3, n4⟩ := nxD_spec (V := V) (ag := ag) (nP := nP) (h := h) hd
        by_cases hq9 : nxD V ag nP h d < 360
        · skip
          refine b_top (y := nI (nxD V ag nP h d)) (if_pos hq9) ?_
          refine lv_istore (lv' := [(10, .int (nI (nxD V ag nP h d))), (0, .ref (ad 0)), (1, .int (nI h)), (2, .int (nI d)), (3, .int ((amt V ag nP h d).1)), (4, .int ((amt V ag nP h d).2.1)), (5, .int ((amt V ag nP h d).2.2.1)), (8, .int 1), (9, .int (lvS V nP h d i))]) hx hb dL_isDay_216 hl (by decide) rfl (fun ls hl => ?_)
          refine lv_iload hx hb dL_isDay_218 (lv_at hl 0 rfl) ?_
          refine lv_bipush (v := (-75)) hx hb dL_isDay_220 (by decide) ?_
          refine lv_icmp_ne (tgt := 231) hx hb dL_isDay_222 (by decide) (fun c_222 => ?_) (fun c_222 => ?_)
          · skip
            refine lv_iload hx hb dL_isDay_231 (lv_at hl 0 rfl) ?_
            refine lv_iconst (v := 1) hx hb dL_isDay_233 (by decide) ?_
            refine lv_isub hx hb dL_isDay_234 ?_
            refine b_top (y := nI (nxD V ag nP h d - 1)) (pk_sub (b := 1) (by omega)) ?_
            refine lv_istore (lv' := [(11, .int (nI (nxD V ag nP h d - 1))), (10, .int (nI (nxD V ag nP h d))), (0, .ref (ad 0)), (1, .int (nI h)), (2, .int (nI d)), (3, .int ((amt V ag nP h d).1)), (4, .int ((amt V ag nP h d).2.1)), (5, .int ((amt V ag nP h d).2.2.1)), (8, .int 1), (9, .int (lvS V nP h d i))]) hx hb dL_isDay_235 hl (by decide) rfl (fun ls hl => ?_)
            refine lv_aload_n hx hb dL_isDay_237 rfl (lv_at hl 2 rfl) ?_
            refine lv_iload_n hx hb dL_isDay_238 rfl (lv_at hl 3 rfl) ?_
            refine lv_iload hx hb dL_isDay_239 (lv_at hl 0 rfl) ?_
            refine y_ci (b_runSW B hT hX hN hW hS (As := [.ref (ad 0), .int (nI h), .int (nI (nxD V ag nP h d - 1))]) (rest := []) (fun sz => lv_adultAmount hlf hI hty h (nxD V ag nP h d - 1) hh (by omega) hC sz) (cwL_205 B.2.2.2.2.1 ⟨Nat.le_of_ble_eq_true rfl, Nat.le_of_ble_eq_true rfl⟩) rfl hl.1 (Nat.le_of_ble_eq_true rfl) dL_isDay_241 ⟨by show _ ≤ 320; omega, by show _ ≤ 1920; omega⟩) hI hW hS (fun k h => h) (fun _ _ => rfl) (fun E1 => E1) (fun _ _ _ => rfl) (fun E1 j hj hno => absurd rfl (hno j hj)) (fun r_241 E H locs hp hW hS => ?_)
            obtain ⟨hr_, hC⟩ := hp
            subst hr_
            refine lv_iload_n hx hb dL_isDay_244 rfl (lv_at hl 5 rfl) ?_
            refine lv_icmp_ne (tgt := 276) hx hb dL_isDay_245 (by decide) (fun c_245 => ?_) (fun c_245 => ?_)
            · exact absurd (congrArg (fun z => z.1) n3) c_245
            · skip
              refine lv_aload_n hx hb dL_isDay_248 rfl (lv_at hl 2 rfl) ?_
              refine lv_iload_n hx hb dL_isDay_249 rfl (lv_at hl 3 rfl) ?_
              refine lv_iload hx hb dL_isDay_250 (lv_at hl 0 rfl) ?_
              refine y_ci (b_runSW B hT hX hN hW hS (As := [.ref (ad 0), .int (nI h), .int (nI (nxD V ag nP h d - 1))]) (rest := []) (fun sz => lv_childAmount hlf hI hty h (nxD V ag nP h d - 1) hh (by omega) hC sz) (cwL_207 B.2.2.2.2.1 ⟨Nat.le_of_ble_eq_true rfl, Nat.le_of_ble_eq_true rfl⟩) rfl hl.1 (Nat.le_of_ble_eq_true rfl) dL_isDay_252 ⟨by show _ ≤ 320; omega, by show _ ≤ 1920; omega⟩) hI hW hS (fun k h => h) (fun _ _ => rfl) (fun E1 => E1) (fun _ _ _ => rfl) (fun E1 j hj hno => absurd rfl (hno j hj)) (fun r_252 E H locs hp hW hS => ?_)
              obtain ⟨hr_, hC⟩ := hp
              subst hr_
              refine lv_iload hx hb dL_isDay_255 (lv_at hl 6 rfl) ?_
              refine lv_icmp_ne (tgt := 276) hx hb dL_isDay_257 (by decide) (fun c_257 => ?_) (fun c_257 => ?_)
              · exact absurd (congrArg (fun z => z.2.1) n3) c_257
              · skip
                refine lv_aload_n hx hb dL_isDay_260 rfl (lv_at hl 2 rfl) ?_
                refine lv_iload_n hx hb dL_isDay_261 rfl (lv_at hl 3 rfl) ?_
                refine lv_iload hx hb dL_isDay_262 (lv_at hl 0 rfl) ?_
                refine y_ci (b_runSW B hT hX hN hW hS (As := [.ref (ad 0), .int (nI h), .int (nI (nxD V ag nP h d - 1))]) (rest := []) (fun sz => lv_housingAmount hlf hI hty h (nxD V ag nP h d - 1) hh (by omega) hC sz) (cwL_209 B.2.2.2.2.1 ⟨Nat.le_of_ble_eq_true rfl, Nat.le_of_ble_eq_true rfl⟩) rfl hl.1 (Nat.le_of_ble_eq_true rfl) dL_isDay_264 ⟨by show _ ≤ 320; omega, by show _ ≤ 1920; omega⟩) hI hW hS (fun k h => h) (fun _ _ => rfl) (fun E1 => E1) (fun _ _ _ => rfl) (fun E1 j hj hno => absurd rfl (hno j hj)) (fun r_264 E H locs hp hW hS => ?_)
                obtain ⟨hr_, hC⟩ := hp
                subst hr_
                refine lv_iload hx hb dL_isDay_267 (lv_at hl 7 rfl) ?_
                refine lv_icmp_ne (tgt := 276) hx hb dL_isDay_269 (by decide) (fun c_269 => ?_) (fun c_269 => ?_)
                · exact absurd (congrArg (fun z => z.2.2) n3) c_269
                · skip
                  refine lv_iconst (v := 1) hx hb dL_isDay_272 (by decide) ?_
                  refine lv_goto (tgt := 277) hx hb dL_isDay_273 (by decide) ?_
                  refine lv_istore (lv' := [(12, .int 1), (11, .int (nI (nxD V ag nP h d - 1))), (10, .int (nI (nxD V ag nP h d))), (0, .ref (ad 0)), (1, .int (nI h)), (2, .int (nI d)), (3, .int ((amt V ag nP h d).1)), (4, .int ((amt V ag nP h d).2.1)), (5, .int ((amt V ag nP h d).2.2.1)), (8, .int 1), (9, .int (lvS V nP h d i))]) hx hb dL_isDay_277 hl (by decide) rfl (fun ls hl => ?_)
                  refine lv_iload hx hb dL_isDay_279 (lv_at hl 2 rfl) ?_
                  refine lv_bipush (v := (-75)) hx hb dL_isDay_281 (by decide) ?_
                  refine lv_icmp_eq (tgt := 321) hx hb dL_isDay_283 (by decide) (fun c_283 => ?_) (fun c_283 => ?_)
                  · exact absurd c_283 (n75 (by omega))
                  · skip
                    refine lv_aload_n hx hb dL_isDay_286 rfl (lv_at hl 3 rfl) ?_
                    refine lv_iload_n hx hb dL_isDay_287 rfl (lv_at hl 4 rfl) ?_
                    refine lv_iload hx hb dL_isDay_288 (lv_at hl 2 rfl) ?_
                    refine y_ci (b_runSW B hT hX hN hW hS (As := [.ref (ad 0), .int (nI h), .int (nI (nxD V ag nP h d))]) (rest := []) (fun sz => lv_adultAmount hlf hI hty h (nxD V ag nP h d) hh hq9 hC sz) (cwL_205 B.2.2.2.2.1 ⟨Nat.le_of_ble_eq_true rfl, Nat.le_of_ble_eq_true rfl⟩) rfl hl.1 (Nat.le_of_ble_eq_true rfl) dL_isDay_290 ⟨by show _ ≤ 320; omega, by show _ ≤ 1920; omega⟩) hI hW hS (fun k h => h) (fun _ _ => rfl) (fun E1 => E1) (fun _ _ _ => rfl) (fun E1 j hj hno => absurd rfl (hno j hj)) (fun r_290 E H locs hp hW hS => ?_)
                    obtain ⟨hr_, hC⟩ := hp
                    subst hr_
                    refine lv_iload_n hx hb dL_isDay_293 rfl (lv_at hl 6 rfl) ?_
                    refine lv_icmp_ne (tgt := 321) hx hb dL_isDay_294 (by decide) (fun c_294 => ?_) (fun c_294 => ?_)
                    · skip
                      refine lv_iconst (v := 1) hx hb dL_isDay_321 (by decide) ?_
                      refine lv_goto (tgt := 326) hx hb dL_isDay_322 (by decide) ?_
                      refine lv_istore (lv' := [(13, .int 1), (12, .int 1), (11, .int (nI (nxD V ag nP h d - 1))), (10, .int (nI (nxD V ag nP h d))), (0, .ref (ad 0)), (1, .int (nI h)), (2, .int (nI d)), (3, .int ((amt V ag nP h d).1)), (4, .int ((amt V ag nP h d).2.1)), (5, .int ((amt V ag nP h d).2.2.1)), (8, .int 1), (9, .int (lvS V nP h d i))]) hx hb dL_isDay_326 hl (by decide) rfl (fun ls hl => ?_)
                      refine lv_iload hx hb dL_isDay_328 (lv_at hl 10 rfl) ?_
                      refine lv_if_eq (tgt := 365) hx hb dL_isDay_330 (by decide) (fun c_330 => ?_) (fun c_330 => ?_)
                      · exact absurd c_330 (by decide)
                      · skip
                        refine lv_iload hx hb dL_isDay_333 (lv_at hl 11 rfl) ?_
                        refine lv_aload_n hx hb dL_isDay_335 rfl (lv_at hl 4 rfl) ?_
                        refine lv_iload_n hx hb dL_isDay_336 rfl (lv_at hl 5 rfl) ?_
                        refine lv_iload_n hx hb dL_isDay_337 rfl (lv_at hl 6 rfl) ?_
                        refine y_ci (b_runSW B hT hX hN hW hS (As := [.ref (ad 0), .int (nI h), .int (nI d)]) (rest := [.int (lvS V nP h d i)]) (fun sz => lv_adults hlf hI hty h d hh hd hC sz) (cwL_213 B.2.2.2.2.1 ⟨Nat.le_of_ble_eq_true rfl, Nat.le_of_ble_eq_true rfl⟩) rfl hl.1 (Nat.le_of_ble_eq_true rfl) dL_isDay_338 ⟨by show _ ≤ 320; omega, by show _ ≤ 1920; omega⟩) hI hW hS (fun k h => h) (fun _ _ => rfl) (fun E1 => E1) (fun _ _ _ => rfl) (fun E1 j hj hno => absurd rfl (hno j hj)) (fun r_338 E H locs hp hW hS => ?_)
                        obtain ⟨hr_, hC⟩ := hp
                        subst hr_
                        refine lv_aload_n hx hb dL_isDay_341 rfl (lv_at hl 4 rfl) ?_
                        refine lv_iload_n hx hb dL_isDay_342 rfl (lv_at hl 5 rfl) ?_
                        refine lv_iload_n hx hb dL_isDay_343 rfl (lv_at hl 6 rfl) ?_
                        refine y_ci (b_runSW B hT hX hN hW hS (As := [.ref (ad 0), .int (nI h), .int (nI d)]) (rest := [.int ((cnt V ag (nI h) d nP).1), .int (lvS V nP h d i)]) (fun sz => lv_children hlf hI hty h d hh hd hC sz) (cwL_217 B.2.2.2.2.1 ⟨Nat.le_of_ble_eq_true rfl, Nat.le_of_ble_eq_true rfl⟩) rfl hl.1 (Nat.le_of_ble_eq_true rfl) dL_isDay_344 ⟨by show _ ≤ 320; omega, by show _ ≤ 1920; omega⟩) hI hW hS (fun k h => h) (fun _ _ => rfl) (fun E1 => E1) (fun _ _ _ => rfl) (fun E1 j hj hno => absurd rfl (hno j hj)) (fun r_344 E H locs hp hW hS => ?_)
                        obtain ⟨hr_, hC⟩ := hp
                        subst hr_
                        refine lv_iadd hx hb dL_isDay_347 ?_
                        refine lv_icmp_ne (tgt := 365) hx hb dL_isDay_348 (by decide) (fun c_348 => ?_) (fun c_348 => ?_)
                        · exact absurd (by rw [ei, lvS_8 hP8 (by omega)]) c_348
                        · skip
                          refine lv_iload hx hb dL_isDay_351 (lv_at hl 1 rfl) ?_
                          refine lv_if_eq (tgt := 365) hx hb dL_isDay_353 (by decide) (fun c_353 => ?_) (fun c_353 => ?_)
                          · exact absurd c_353 (by decide)
                          · skip
                            refine lv_iload hx hb dL_isDay_356 (lv_at hl 0 rfl) ?_
                            refine lv_if_eq (tgt := 365) hx hb dL_isDay_358 (by decide) (fun c_358 => ?_) (fun c_358 => ?_)
                            · exact absurd c_358 (by decide)
                            · skip
                              refine lv_iconst (v := 1) hx hb dL_isDay_361 (by decide) ?_
                              refine lv_goto (tgt := 366) hx hb dL_isDay_362 (by decide) ?_
                              exact e_n hQ B hr hlk hS (by first | rfl | decide) hW dL_isDay_366 (by omega) (by omega) (⟨rfl, hC⟩)
                    · skip
                      refine lv_aload_n hx hb dL_isDay_297 rfl (lv_at hl 3 rfl) ?_
                      refine lv_iload_n hx hb dL_isDay_298 rfl (lv_at hl 4 rfl) ?_
                      refine lv_iload hx hb dL_isDay_299 (lv_at hl 2 rfl) ?_
                      refine y_ci (b_runSW B hT hX hN hW hS (As := [.ref (ad 0), .int (nI h), .int (nI (nxD V ag nP h d))]) (rest := []) (fun sz => lv_childAmount hlf hI hty h (nxD V ag nP h d) hh hq9 hC sz) (cwL_207 B.2.2.2.2.1 ⟨Nat.le_of_ble_eq_true rfl, Nat.le_of_ble_eq_true rfl⟩) rfl hl.1 (Nat.le_of_ble_eq_true rfl) dL_isDay_301 ⟨by show _ ≤ 320; omega, by show _ ≤ 1920; omega⟩) hI hW hS (fun k h => h) (fun _ _ => rfl) (fun E1 => E1) (fun _ _ _ => rfl) (fun E1 j hj hno => absurd rfl (hno j hj)) (fun r_301 E H locs hp hW hS => ?_)
                      obtain ⟨hr_, hC⟩ := hp
                      subst hr_
                      refine lv_iload hx hb dL_isDay_304 (lv_at hl 7 rfl) ?_
                      refine lv_icmp_ne (tgt := 321) hx hb dL_isDay_306 (by decide) (fun c_306 => ?_) (fun c_306 => ?_)
                      · skip
                        refine lv_iconst (v := 1) hx hb dL_isDay_321 (by decide) ?_
                        refine lv_goto (tgt := 326) hx hb dL_isDay_322 (by decide) ?_
                        refine lv_istore (lv' := [(13, .int 1), (12, .int 1), (11, .int (nI (nxD V ag nP h d - 1))), (10, .int (nI (nxD V ag nP h d))), (0, .ref (ad 0)), (1, .int (nI h)), (2, .int (nI d)), (3, .int ((amt V ag nP h d).1)), (4, .int ((amt V ag nP h d).2.1)), (5, .int ((amt V ag nP h d).2.2.1)), (8, .int 1), (9, .int (lvS V nP h d i))]) hx hb dL_isDay_326 hl (by decide) rfl (fun ls hl => ?_)
                        refine lv_iload hx hb dL_isDay_328 (lv_at hl 10 rfl) ?_
                        refine lv_if_eq (tgt := 365) hx hb dL_isDay_330 (by decide) (fun c_330 => ?_) (fun c_330 => ?_)
                        · exact absurd c_330 (by decide)
                        · skip
                          refine lv_iload hx hb dL_isDay_333 (lv_at hl 11 rfl) ?_
                          refine lv_aload_n hx hb dL_isDay_335 rfl (lv_at hl 4 rfl) ?_
                          refine lv_iload_n hx hb dL_isDay_336 rfl (lv_at hl 5 rfl) ?_
                          refine lv_iload_n hx hb dL_isDay_337 rfl (lv_at hl 6 rfl) ?_
                          refine y_ci (b_runSW B hT hX hN hW hS (As := [.ref (ad 0), .int (nI h), .int (nI d)]) (rest := [.int (lvS V nP h d i)]) (fun sz => lv_adults hlf hI hty h d hh hd hC sz) (cwL_213 B.2.2.2.2.1 ⟨Nat.le_of_ble_eq_true rfl, Nat.le_of_ble_eq_true rfl⟩) rfl hl.1 (Nat.le_of_ble_eq_true rfl) dL_isDay_338 ⟨by show _ ≤ 320; omega, by show _ ≤ 1920; omega⟩) hI hW hS (fun k h => h) (fun _ _ => rfl) (fun E1 => E1) (fun _ _ _ => rfl) (fun E1 j hj hno => absurd rfl (hno j hj)) (fun r_338 E H locs hp hW hS => ?_)
                          obtain ⟨hr_, hC⟩ := hp
                          subst hr_
                          refine lv_aload_n hx hb dL_isDay_341 rfl (lv_at hl 4 rfl) ?_
                          refine lv_iload_n hx hb dL_isDay_342 rfl (lv_at hl 5 rfl) ?_
                          refine lv_iload_n hx hb dL_isDay_343 rfl (lv_at hl 6 rfl) ?_
                          refine y_ci (b_runSW B hT hX hN hW hS (As := [.ref (ad 0), .int (nI h), .int (nI d)]) (rest := [.int ((cnt V ag (nI h) d nP).1), .int (lvS V nP h d i)]) (fun sz => lv_children hlf hI hty h d hh hd hC sz) (cwL_217 B.2.2.2.2.1 ⟨Nat.le_of_ble_eq_true rfl, Nat.le_of_ble_eq_true rfl⟩) rfl hl.1 (Nat.le_of_ble_eq_true rfl) dL_isDay_344 ⟨by show _ ≤ 320; omega, by show _ ≤ 1920; omega⟩) hI hW hS (fun k h => h) (fun _ _ => rfl) (fun E1 => E1) (fun _ _ _ => rfl) (fun E1 j hj hno => absurd rfl (hno j hj)) (fun r_344 E H locs hp hW hS => ?_)
                          obtain ⟨hr_, hC⟩ := hp
                          subst hr_
                          refine lv_iadd hx hb dL_isDay_347 ?_
                          refine lv_icmp_ne (tgt := 365) hx hb dL_isDay_348 (by decide) (fun c_348 => ?_) (fun c_348 => ?_)
                          · exact absurd (by rw [ei, lvS_8 hP8 (by omega)]) c_348
                          · skip
                            refine lv_iload hx hb dL_isDay_351 (lv_at hl 1 rfl) ?_
                            refine lv_if_eq (tgt := 365) hx hb dL_isDay_353 (by decide) (fun c_353 => ?_) (fun c_353 => ?_)
                            · exact absurd c_353 (by decide)
                            · skip
                              refine lv_iload hx hb dL_isDay_356 (lv_at hl 0 rfl) ?_
                              refine lv_if_eq (tgt := 365) hx hb dL_isDay_358 (by decide) (fun c_358 => ?_) (fun c_358 => ?_)
                              · exact absurd c_358 (by decide)
                              · skip
                                refine lv_iconst (v := 1) hx hb dL_isDay_361 (by decide) ?_
                                refine lv_goto (tgt := 366) hx hb dL_isDay_362 (by decide) ?_
                                exact e_n hQ B hr hlk hS (by first | rfl | decide) hW dL_isDay_366 (by omega) (by omega) (⟨rfl, hC⟩)
                      · skip
                        refine lv_aload_n hx hb dL_isDay_309 rfl (lv_at hl 3 rfl) ?_
                        refine lv_iload_n hx hb dL_isDay_310 rfl (lv_at hl 4 rfl) ?_
                        refine lv_iload hx hb dL_isDay_311 (lv_at hl 2 rfl) ?_
                        refine y_ci (b_runSW B hT hX hN hW hS (As := [.ref (ad 0), .int (nI h), .int (nI (nxD V ag nP h d))]) (rest := []) (fun sz => lv_housingAmount hlf hI hty h (nxD V ag nP h d) hh hq9 hC sz) (cwL_209 B.2.2.2.2.1 ⟨Nat.le_of_ble_eq_true rfl, Nat.le_of_ble_eq_true rfl⟩) rfl hl.1 (Nat.le_of_ble_eq_true rfl) dL_isDay_313 ⟨by show _ ≤ 320; omega, by show _ ≤ 1920; omega⟩) hI hW hS (fun k h => h) (fun _ _ => rfl) (fun E1 => E1) (fun _ _ _ => rfl) (fun E1 j hj hno => absurd rfl (hno j hj)) (fun r_313 E H locs hp hW hS => ?_)
                        obtain ⟨hr_, hC⟩ := hp
                        subst hr_
                        refine lv_iload hx hb dL_isDay_316 (lv_at hl 8 rfl) ?_
                        refine lv_icmp_eq (tgt := 325) hx hb dL_isDay_318 (by decide) (fun c_318 => ?_) (fun c_318 => ?_)
                        · exact absurd (show am3 V ag nP h (nxD V ag nP h d) = am3 V ag nP h d from by unfold am3; rw [c_294, c_306, c_318]) (n4 hq9)
                        · skip
                          refine lv_iconst (v := 1) hx hb dL_isDay_321 (by decide) ?_
                          refine lv_goto (tgt := 326) hx hb dL_isDay_322 (by decide) ?_
                          refine lv_istore (lv' := [(13, .int 1), (12, .int 1), (11, .int (nI (nxD V ag nP h d - 1))), (10, .int (nI (nxD V ag nP h d))), (0, .ref (ad 0)), (1, .int (nI h)), (2, .int (nI d)), (3, .int ((amt V ag nP h d).1)), (4, .int ((amt V ag nP h d).2.1)), (5, .int ((amt V ag nP h d).2.2.1)), (8, .int 1), (9, .int (lvS V nP h d i))]) hx hb dL_isDay_326 hl (by decide) rfl (fun ls hl => ?_)
                          refine lv_iload hx hb dL_isDay_328 (lv_at hl 10 rfl) ?_
                          refine lv_if_eq (tgt := 365) hx hb dL_isDay_330 (by decide) (fun c_330 => ?_) (fun c_330 => ?_)
                          · exact absurd c_330 (by decide)
                          · skip
                            refine lv_iload hx hb dL_isDay_333 (lv_at hl 11 rfl) ?_
                            refine lv_aload_n hx hb dL_isDay_335 rfl (lv_at hl 4 rfl) ?_
                            refine lv_iload_n hx hb dL_isDay_336 rfl (lv_at hl 5 rfl) ?_
                            refine lv_iload_n hx hb dL_isDay_337 rfl (lv_at hl 6 rfl) ?_
                            refine y_ci (b_runSW B hT hX hN hW hS (As := [.ref (ad 0), .int (nI h), .int (nI d)]) (rest := [.int (lvS V nP h d i)]) (fun sz => lv_adults hlf hI hty h d hh hd hC sz) (cwL_213 B.2.2.2.2.1 ⟨Nat.le_of_ble_eq_true rfl, Nat.le_of_ble_eq_true rfl⟩) rfl hl.1 (Nat.le_of_ble_eq_true rfl) dL_isDay_338 ⟨by show _ ≤ 320; omega, by show _ ≤ 1920; omega⟩) hI hW hS (fun k h => h) (fun _ _ => rfl) (fun E1 => E1) (fun _ _ _ => rfl) (fun E1 j hj hno => absurd rfl (hno j hj)) (fun r_338 E H locs hp hW hS => ?_)
                            obtain ⟨hr_, hC⟩ := hp
                            subst hr_
                            refine lv_aload_n hx hb dL_isDay_341 rfl (lv_at hl 4 rfl) ?_
                            refine lv_iload_n hx hb dL_isDay_342 rfl (lv_at hl 5 rfl) ?_
                            refine lv_iload_n hx hb dL_isDay_343 rfl (lv_at hl 6 rfl) ?_
                            refine y_ci (b_runSW B hT hX hN hW hS (As := [.ref (ad 0), .int (nI h), .int (nI d)]) (rest := [.int ((cnt V ag (nI h) d nP).1), .int (lvS V nP h d i)]) (fun sz => lv_children hlf hI hty h d hh hd hC sz) (cwL_217 B.2.2.2.2.1 ⟨Nat.le_of_ble_eq_true rfl, Nat.le_of_ble_eq_true rfl⟩) rfl hl.1 (Nat.le_of_ble_eq_true rfl) dL_isDay_344 ⟨by show _ ≤ 320; omega, by show _ ≤ 1920; omega⟩) hI hW hS (fun k h => h) (fun _ _ => rfl) (fun E1 => E1) (fun _ _ _ => rfl) (fun E1 j hj hno => absurd rfl (hno j hj)) (fun r_344 E H locs hp hW hS => ?_)
                            obtain ⟨hr_, hC⟩ := hp
                            subst hr_
                            refine lv_iadd hx hb dL_isDay_347 ?_
                            refine lv_icmp_ne (tgt := 365) hx hb dL_isDay_348 (by decide) (fun c_348 => ?_) (fun c_348 => ?_)
                            · exact absurd (by rw [ei, lvS_8 hP8 (by omega)]) c_348
                            · skip
                              refine lv_iload hx hb dL_isDay_351 (lv_at hl 1 rfl) ?_
                              refine lv_if_eq (tgt := 365) hx hb dL_isDay_353 (by decide) (fun c_353 => ?_) (fun c_353 => ?_)
                              · exact absurd c_353 (by decide)
                              · skip
                                refine lv_iload hx hb dL_isDay_356 (lv_at hl 0 rfl) ?_
                                refine lv_if_eq (tgt := 365) hx hb dL_isDay_358 (by decide) (fun c_358 => ?_) (fun c_358 => ?_)
                                · exact absurd c_358 (by decide)
                                · skip
                                  refine lv_iconst (v := 1) hx hb dL_isDay_361 (by decide) ?_
                                  refine lv_goto (tgt := 366) hx hb dL_isDay_362 (by decide) ?_
                                  exact e_n hQ B hr hlk hS (by first | rfl | decide) hW dL_isDay_366 (by omega) (by omega) (⟨rfl, hC⟩)
          · exact absurd c_222 (n75 (by omega))
        · skip
          have e9 : nxD V ag nP h d - 1 = 359 := by omega
          rw [e9] at n3
          refine b_top (y := -75) (if_neg hq9) ?_
          refine lv_istore (lv' := [(10, .int (-75)), (0, .ref (ad 0)), (1, .int (nI h)), (2, .int (nI d)), (3, .int ((amt V ag nP h d).1)), (4, .int ((amt V ag nP h d).2.1)), (5, .int ((amt V ag nP h d).2.2.1)), (8, .int 1), (9, .int (lvS V nP h d i))]) hx hb dL_isDay_216 hl (by decide) rfl (fun ls hl => ?_)
          refine lv_iload hx hb dL_isDay_218 (lv_at hl 0 rfl) ?_
          refine lv_bipush (v := (-75)) hx hb dL_isDay_220 (by decide) ?_
          refine lv_icmp_ne (tgt := 231) hx hb dL_isDay_222 (by decide) (fun c_222 => ?_) (fun c_222 => ?_)
          · exact absurd rfl c_222
          · skip
            refine lv_sipush (v := (nI 359)) hx hb dL_isDay_225 (by decide) ?_
            refine lv_goto (tgt := 235) hx hb dL_isDay_228 (by decide) ?_
            refine lv_istore (lv' := [(11, .int (nI 359)), (10, .int (-75)), (0, .ref (ad 0)), (1, .int (nI h)), (2, .int (nI d)), (3, .int ((amt V ag nP h d).1)), (4, .int ((amt V ag nP h d).2.1)), (5, .int ((amt V ag nP h d).2.2.1)), (8, .int 1), (9, .int (lvS V nP h d i))]) hx hb dL_isDay_235 hl (by decide) rfl (fun ls hl => ?_)
            refine lv_aload_n hx hb dL_isDay_237 rfl (lv_at hl 2 rfl) ?_
            refine lv_iload_n hx hb dL_isDay_238 rfl (lv_at hl 3 rfl) ?_
            refine lv_iload hx hb dL_isDay_239 (lv_at hl 0 rfl) ?_
            refine y_ci (b_runSW B hT hX hN hW hS (As := [.ref (ad 0), .int (nI h), .int (nI 359)]) (rest := []) (fun sz => lv_adultAmount hlf hI hty h 359 hh (by omega) hC sz) (cwL_205 B.2.2.2.2.1 ⟨Nat.le_of_ble_eq_true rfl, Nat.le_of_ble_eq_true rfl⟩) rfl hl.1 (Nat.le_of_ble_eq_true rfl) dL_isDay_241 ⟨by show _ ≤ 320; omega, by show _ ≤ 1920; omega⟩) hI hW hS (fun k h => h) (fun _ _ => rfl) (fun E1 => E1) (fun _ _ _ => rfl) (fun E1 j hj hno => absurd rfl (hno j hj)) (fun r_241 E H locs hp hW hS => ?_)
            obtain ⟨hr_, hC⟩ := hp
            subst hr_
            refine lv_iload_n hx hb dL_isDay_244 rfl (lv_at hl 5 rfl) ?_
            refine lv_icmp_ne (tgt := 276) hx hb dL_isDay_245 (by decide) (fun c_245 => ?_) (fun c_245 => ?_)
            · exact absurd (congrArg (fun z => z.1) n3) c_245
            · skip
              refine lv_aload_n hx hb dL_isDay_248 rfl (lv_at hl 2 rfl) ?_
              refine lv_iload_n hx hb dL_isDay_249 rfl (lv_at hl 3 rfl) ?_
              refine lv_iload hx hb dL_isDay_250 (lv_at hl 0 rfl) ?_
              refine y_ci (b_runSW B hT hX hN hW hS (As := [.ref (ad 0), .int (nI h), .int (nI 359)]) (rest := []) (fun sz => lv_childAmount hlf hI hty h 359 hh (by omega) hC sz) (cwL_207 B.2.2.2.2.1 ⟨Nat.le_of_ble_eq_true rfl, Nat.le_of_ble_eq_true rfl⟩) rfl hl.1 (Nat.le_of_ble_eq_true rfl) dL_isDay_252 ⟨by show _ ≤ 320; omega, by show _ ≤ 1920; omega⟩) hI hW hS (fun k h => h) (fun _ _ => rfl) (fun E1 => E1) (fun _ _ _ => rfl) (fun E1 j hj hno => absurd rfl (hno j hj)) (fun r_252 E H locs hp hW hS => ?_)
              obtain ⟨hr_, hC⟩ := hp
              subst hr_
              refine lv_iload hx hb dL_isDay_255 (lv_at hl 6 rfl) ?_
              refine lv_icmp_ne (tgt := 276) hx hb dL_isDay_257 (by decide) (fun c_257 => ?_) (fun c_257 => ?_)
              · exact absurd (congrArg (fun z => z.2.1) n3) c_257
              · skip
                refine lv_aload_n hx hb dL_isDay_260 rfl (lv_at hl 2 rfl) ?_
                refine lv_iload_n hx hb dL_isDay_261 rfl (lv_at hl 3 rfl) ?_
                refine lv_iload hx hb dL_isDay_262 (lv_at hl 0 rfl) ?_
                refine y_ci (b_runSW B hT hX hN hW hS (As := [.ref (ad 0), .int (nI h), .int (nI 359)]) (rest := []) (fun sz => lv_housingAmount hlf hI hty h 359 hh (by omega) hC sz) (cwL_209 B.2.2.2.2.1 ⟨Nat.le_of_ble_eq_true rfl, Nat.le_of_ble_eq_true rfl⟩) rfl hl.1 (Nat.le_of_ble_eq_true rfl) dL_isDay_264 ⟨by show _ ≤ 320; omega, by show _ ≤ 1920; omega⟩) hI hW hS (fun k h => h) (fun _ _ => rfl) (fun E1 => E1) (fun _ _ _ => rfl) (fun E1 j hj hno => absurd rfl (hno j hj)) (fun r_264 E H locs hp hW hS => ?_)
                obtain ⟨hr_, hC⟩ := hp
                subst hr_
                refine lv_iload hx hb dL_isDay_267 (lv_at hl 7 rfl) ?_
                refine lv_icmp_ne (tgt := 276) hx hb dL_isDay_269 (by decide) (fun c_269 => ?_) (fun c_269 => ?_)
                · exact absurd (congrArg (fun z => z.2.2) n3) c_269
                · skip
                  refine lv_iconst (v := 1) hx hb dL_isDay_272 (by decide) ?_
                  refine lv_goto (tgt := 277) hx hb dL_isDay_273 (by decide) ?_
                  refine lv_istore (lv' := [(12, .int 1), (11, .int (nI 359)), (10, .int (-75)), (0, .ref (ad 0)), (1, .int (nI h)), (2, .int (nI d)), (3, .int ((amt V ag nP h d).1)), (4, .int ((amt V ag nP h d).2.1)), (5, .int ((amt V ag nP h d).2.2.1)), (8, .int 1), (9, .int (lvS V nP h d i))]) hx hb dL_isDay_277 hl (by decide) rfl (fun ls hl => ?_)
                  refine lv_iload hx hb dL_isDay_279 (lv_at hl 2 rfl) ?_
                  refine lv_bipush (v := (-75)) hx hb dL_isDay_281 (by decide) ?_
                  refine lv_icmp_eq (tgt := 321) hx hb dL_isDay_283 (by decide) (fun c_283 => ?_) (fun c_283 => ?_)
                  · skip
                    refine lv_iconst (v := 1) hx hb dL_isDay_321 (by decide) ?_
                    refine lv_goto (tgt := 326) hx hb dL_isDay_322 (by decide) ?_
                    refine lv_istore (lv' := [(13, .int 1), (12, .int 1), (11, .int (nI 359)), (10, .int (-75)), (0, .ref (ad 0)), (1, .int (nI h)), (2, .int (nI d)), (3, .int ((amt V ag nP h d).1)), (4, .int ((amt V ag nP h d).2.1)), (5, .int ((amt V ag nP h d).2.2.1)), (8, .int 1), (9, .int (lvS V nP h d i))]) hx hb dL_isDay_326 hl (by decide) rfl (fun ls hl => ?_)
                    refine lv_iload hx hb dL_isDay_328 (lv_at hl 10 rfl) ?_
                    refine lv_if_eq (tgt := 365) hx hb dL_isDay_330 (by decide) (fun c_330 => ?_) (fun c_330 => ?_)
                    · exact absurd c_330 (by decide)
                    · skip
                      refine lv_iload hx hb dL_isDay_333 (lv_at hl 11 rfl) ?_
                      refine lv_aload_n hx hb dL_isDay_335 rfl (lv_at hl 4 rfl) ?_
                      refine lv_iload_n hx hb dL_isDay_336 rfl (lv_at hl 5 rfl) ?_
                      refine lv_iload_n hx hb dL_isDay_337 rfl (lv_at hl 6 rfl) ?_
                      refine y_ci (b_runSW B hT hX hN hW hS (As := [.ref (ad 0), .int (nI h), .int (nI d)]) (rest := [.int (lvS V nP h d i)]) (fun sz => lv_adults hlf hI hty h d hh hd hC sz) (cwL_213 B.2.2.2.2.1 ⟨Nat.le_of_ble_eq_true rfl, Nat.le_of_ble_eq_true rfl⟩) rfl hl.1 (Nat.le_of_ble_eq_true rfl) dL_isDay_338 ⟨by show _ ≤ 320; omega, by show _ ≤ 1920; omega⟩) hI hW hS (fun k h => h) (fun _ _ => rfl) (fun E1 => E1) (fun _ _ _ => rfl) (fun E1 j hj hno => absurd rfl (hno j hj)) (fun r_338 E H locs hp hW hS => ?_)
                      obtain ⟨hr_, hC⟩ := hp
                      subst hr_
                      refine lv_aload_n hx hb dL_isDay_341 rfl (lv_at hl 4 rfl) ?_
                      refine lv_iload_n hx hb dL_isDay_342 rfl (lv_at hl 5 rfl) ?_
                      refine lv_iload_n hx hb dL_isDay_343 rfl (lv_at hl 6 rfl) ?_
                      refine y_ci (b_runSW B hT hX hN hW hS (As := [.ref (ad 0), .int (nI h), .int (nI d)]) (rest := [.int ((cnt V ag (nI h) d nP).1), .int (lvS V nP h d i)]) (fun sz => lv_children hlf hI hty h d hh hd hC sz) (cwL_217 B.2.2.2.2.1 ⟨Nat.le_of_ble_eq_true rfl, Nat.le_of_ble_eq_true rfl⟩) rfl hl.1 (Nat.le_of_ble_eq_true rfl) dL_isDay_344 ⟨by show _ ≤ 320; omega, by show _ ≤ 1920; omega⟩) hI hW hS (fun k h => h) (fun _ _ => rfl) (fun E1 => E1) (fun _ _ _ => rfl) (fun E1 j hj hno => absurd rfl (hno j hj)) (fun r_344 E H locs hp hW hS => ?_)
                      obtain ⟨hr_, hC⟩ := hp
                      subst hr_
                      refine lv_iadd hx hb dL_isDay_347 ?_
                      refine lv_icmp_ne (tgt := 365) hx hb dL_isDay_348 (by decide) (fun c_348 => ?_) (fun c_348 => ?_)
                      · exact absurd (by rw [ei, lvS_8 hP8 (by omega)]) c_348
                      · skip
                        refine lv_iload hx hb dL_isDay_351 (lv_at hl 1 rfl) ?_
                        refine lv_if_eq (tgt := 365) hx hb dL_isDay_353 (by decide) (fun c_353 => ?_) (fun c_353 => ?_)
                        · exact absurd c_353 (by decide)
                        · skip
                          refine lv_iload hx hb dL_isDay_356 (lv_at hl 0 rfl) ?_
                          refine lv_if_eq (tgt := 365) hx hb dL_isDay_358 (by decide) (fun c_358 => ?_) (fun c_358 => ?_)
                          · exact absurd c_358 (by decide)
                          · skip
                            refine lv_iconst (v := 1) hx hb dL_isDay_361 (by decide) ?_
                            refine lv_goto (tgt := 366) hx hb dL_isDay_362 (by decide) ?_
                            exact e_n hQ B hr hlk hS (by first | rfl | decide) hW dL_isDay_366 (by omega) (by omega) (⟨rfl, hC⟩)
                  · exact absurd rfl c_283
      · skip
        have q180 : i < 8 := Nat.lt_of_not_le (fun q => c_180 ((nI_leI (by omega) (by omega)).mpr q))
        refine lv_iload hx hb dL_isDay_183 (lv_at hl 7 rfl) ?_
        refine lv_aload_n hx hb dL_isDay_185 rfl (lv_at hl 0 rfl) ?_
        refine lv_iload hx hb dL_isDay_186 (lv_at hl 8 rfl) ?_
        refine lv_iload_n hx hb dL_isDay_188 rfl (lv_at hl 2 rfl) ?_
        refine y_ci (b_runSW B hT hX hN hW hS (As := [.ref (ad 0), .int (nI i), .int (nI d)]) (rest := [.int (lvS V nP h d i)]) (fun sz => lv_homeOf hlf hI hty i d (by omega) hd hC sz) (cwL_143 B.2.2.2.2.1 ⟨Nat.le_of_ble_eq_true rfl, Nat.le_of_ble_eq_true rfl⟩) rfl hl.1 (Nat.le_of_ble_eq_true rfl) dL_isDay_189 ⟨by show _ ≤ 320; omega, by show _ ≤ 1920; omega⟩) hI hW hS (fun k h => h) (fun _ _ => rfl) (fun E1 => E1) (fun _ _ _ => rfl) (fun E1 j hj hno => absurd rfl (hno j hj)) (fun r_189 E H locs hp hW hS => ?_)
        obtain ⟨hr_, hC⟩ := hp
        subst hr_
        refine lv_iload_n hx hb dL_isDay_192 rfl (lv_at hl 1 rfl) ?_
        refine lv_icmp_ne (tgt := 200) hx hb dL_isDay_193 (by decide) (fun c_193 => ?_) (fun c_193 => ?_)
        · skip
          refine lv_iconst (v := 0) hx hb dL_isDay_200 (by decide) ?_
          refine lv_iadd hx hb dL_isDay_201 ?_
          refine b_top (y := lvS V nP h d (i + 1)) (by rw [lvS, if_neg c_193]) ?_
          refine lv_istore (lv' := [(9, .int (lvS V nP h d (i + 1))), (0, .ref (ad 0)), (1, .int (nI h)), (2, .int (nI d)), (3, .int ((amt V ag nP h d).1)), (4, .int ((amt V ag nP h d).2.1)), (5, .int ((amt V ag nP h d).2.2.1)), (8, .int 1), (10, .int (nI i))]) hx hb dL_isDay_202 hl (by decide) rfl (fun ls hl => ?_)
          refine lv_iinc (v := (nI (i + 1))) (lv' := [(10, .int (nI (i + 1))), (9, .int (lvS V nP h d (i + 1))), (0, .ref (ad 0)), (1, .int (nI h)), (2, .int (nI d)), (3, .int ((amt V ag nP h d).1)), (4, .int ((amt V ag nP h d).2.1)), (5, .int ((amt V ag nP h d).2.2.1)), (8, .int 1)]) hx hb dL_isDay_204 hl (k := 8) rfl (nI_1 i) (by decide) rfl (fun ls hl => ?_)
          refine lv_goto (tgt := 176) hx hb dL_isDay_207 (by decide) ?_
          refine W.widen (k := 88 + 8 * (i + 1)) (n := 528 + 48 * (i + 1)) (by omega) (by omega) ?_
          exact ih (i + 1) (by omega) (by omega) _ _ _ _ hC hW hS (lv_sub hl [2, 3, 4, 5, 6, 7, 8, 1, 0] rfl)
        · skip
          refine lv_iconst (v := 1) hx hb dL_isDay_196 (by decide) ?_
          refine lv_goto (tgt := 201) hx hb dL_isDay_197 (by decide) ?_
          refine lv_iadd hx hb dL_isDay_201 ?_
          refine b_top (y := lvS V nP h d (i + 1)) (by rw [lvS, if_pos c_193]) ?_
          refine lv_istore (lv' := [(9, .int (lvS V nP h d (i + 1))), (0, .ref (ad 0)), (1, .int (nI h)), (2, .int (nI d)), (3, .int ((amt V ag nP h d).1)), (4, .int ((amt V ag nP h d).2.1)), (5, .int ((amt V ag nP h d).2.2.1)), (8, .int 1), (10, .int (nI i))]) hx hb dL_isDay_202 hl (by decide) rfl (fun ls hl => ?_)
          refine lv_iinc (v := (nI (i + 1))) (lv' := [(10, .int (nI (i + 1))), (9, .int (lvS V nP h d (i + 1))), (0, .ref (ad 0)), (1, .int (nI h)), (2, .int (nI d)), (3, .int ((amt V ag nP h d).1)), (4, .int ((amt V ag nP h d).2.1)), (5, .int ((amt V ag nP h d).2.2.1)), (8, .int 1)]) hx hb dL_isDay_204 hl (k := 8) rfl (nI_1 i) (by decide) rfl (fun ls hl => ?_)
          refine lv_goto (tgt := 176) hx hb dL_isDay_207 (by decide) ?_
          refine W.widen (k := 88 + 8 * (i + 1)) (n := 528 + 48 * (i + 1)) (by omega) (by omega) ?_
          exact ih (i + 1) (by omega) (by omega) _ _ _ _ hC hW hS (lv_sub hl [2, 3, 4, 5, 6, 7, 8, 1, 0] rfl)
  have L_170 : ∀ (_u : Nat) , ∀ (E : Nat → va_E) (H : Heap) (locs : List Loc) (ls : Array Slot), CW cI cZ cH cP cT ad V T ag nP nH rN nf pn sp sk py pd E → hH D ad 109 E H → va_S (cA ad 109 s.heap.size) s.heap H locs → lv_has ls 14 [(0, .ref (ad 0)), (1, .int (nI h)), (2, .int (nI d)), (3, .int ((amt V ag nP h d).1)), (4, .int ((amt V ag nP h d).2.1)), (5, .int ((amt V ag nP h d).2.2.1)), (8, .int 1)] → W p l e (rmk 8 320 1920) s m args below meth c H locs (88) (528) Q (F0 m 170 ls []) := by
    intro _u   E H locs ls hC hW hS hl
    refine lv_iconst (v := 0) hx hb dL_isDay_170 (by decide) ?_
    refine lv_istore (lv' := [(9, .int 0), (0, .ref (ad 0)), (1, .int (nI h)), (2, .int (nI d)), (3, .int ((amt V ag nP h d).1)), (4, .int ((amt V ag nP h d).2.1)), (5, .int ((amt V ag nP h d).2.2.1)), (8, .int 1)]) hx hb dL_isDay_171 hl (by decide) rfl (fun ls hl => ?_)
    refine lv_iconst (v := 0) hx hb dL_isDay_173 (by decide) ?_
    refine lv_istore (lv' := [(10, .int 0), (9, .int 0), (0, .ref (ad 0)), (1, .int (nI h)), (2, .int (nI d)), (3, .int ((amt V ag nP h d).1)), (4, .int ((amt V ag nP h d).2.1)), (5, .int ((amt V ag nP h d).2.2.1)), (8, .int 1)]) hx hb dL_isDay_174 hl (by decide) rfl (fun ls hl => ?_)
    refine W.widen (k := 88 + 8 * 0) (n := 528 + 48 * 0) (by omega) (by omega) ?_
    exact L_176 9 0 (Nat.zero_le _) (by omega) _ _ _ _ hC hW hS (lv_sub hl [2, 3, 4, 5, 6, 7, 8, 1, 0] rfl)
  refine lv_aload_n hx hb dL_isDay_0 rfl (lv_at hl 0 rfl) ?_
  refine lv_iload_n hx hb dL_isDay_1 rfl (lv_at hl 1 rfl) ?_
  refine lv_iload_n hx hb dL_isDay_2 rfl (lv_at hl 2 rfl) ?_
  refine y_ci (b_runSW B hT hX hN hW hS (As := [.ref (ad 0), .int (nI h), .int (nI d)]) (rest := []) (fun sz => lv_adultAmount hlf hI hty h d hh hd hC sz) (cwL_205 B.2.2.2.2.1 ⟨Nat.le_of_ble_eq_true rfl, Nat.le_of_ble_eq_true rfl⟩) rfl hl.1 (Nat.le_of_ble_eq_true rfl) dL_isDay_3 ⟨by show _ ≤ 320; omega, by show _ ≤ 1920; omega⟩) hI hW hS (fun k h => h) (fun _ _ => rfl) (fun E1 => E1) (fun _ _ _ => rfl) (fun E1 j hj hno => absurd rfl (hno j hj)) (fun r_3 E H locs hp hW hS => ?_)
  obtain ⟨hr_, hC⟩ := hp
  subst hr_
  refine lv_istore_n (lv' := [(3, .int ((amt V ag nP h d).1)), (0, .ref (ad 0)), (1, .int (nI h)), (2, .int (nI d))]) hx hb dL_isDay_6 rfl hl (by decide) rfl (fun ls hl => ?_)
  refine lv_aload_n hx hb dL_isDay_7 rfl (lv_at hl 1 rfl) ?_
  refine lv_iload_n hx hb dL_isDay_8 rfl (lv_at hl 2 rfl) ?_
  refine lv_iload_n hx hb dL_isDay_9 rfl (lv_at hl 3 rfl) ?_
  refine y_ci (b_runSW B hT hX hN hW hS (As := [.ref (ad 0), .int (nI h), .int (nI d)]) (rest := []) (fun sz => lv_childAmount hlf hI hty h d hh hd hC sz) (cwL_207 B.2.2.2.2.1 ⟨Nat.le_of_ble_eq_true rfl, Nat.le_of_ble_eq_true rfl⟩) rfl hl.1 (Nat.le_of_ble_eq_true rfl) dL_isDay_10 ⟨by show _ ≤ 320; omega, by show _ ≤ 1920; omega⟩) hI hW hS (fun k h => h) (fun _ _ => rfl) (fun E1 => E1) (fun _ _ _ => rfl) (fun E1 j hj hno => absurd rfl (hno j hj)) (fun r_10 E H locs hp hW hS => ?_)
  obtain ⟨hr_, hC⟩ := hp
  subst hr_
  refine lv_istore (lv' := [(4, .int ((amt V ag nP h d).2.1)), (3, .int ((amt V ag nP h d).1)), (0, .ref (ad 0)), (1, .int (nI h)), (2, .int (nI d))]) hx hb dL_isDay_13 hl (by decide) rfl (fun ls hl => ?_)
  refine lv_aload_n hx hb dL_isDay_15 rfl (lv_at hl 2 rfl) ?_
  refine lv_iload_n hx hb dL_isDay_16 rfl (lv_at hl 3 rfl) ?_
  refine lv_iload_n hx hb dL_isDay_17 rfl (lv_at hl 4 rfl) ?_
  refine y_ci (b_runSW B hT hX hN hW hS (As := [.ref (ad 0), .int (nI h), .int (nI d)]) (rest := []) (fun sz => lv_housingAmount hlf hI hty h d hh hd hC sz) (cwL_209 B.2.2.2.2.1 ⟨Nat.le_of_ble_eq_true rfl, Nat.le_of_ble_eq_true rfl⟩) rfl hl.1 (Nat.le_of_ble_eq_true rfl) dL_isDay_18 ⟨by show _ ≤ 320; omega, by show _ ≤ 1920; omega⟩) hI hW hS (fun k h => h) (fun _ _ => rfl) (fun E1 => E1) (fun _ _ _ => rfl) (fun E1 j hj hno => absurd rfl (hno j hj)) (fun r_18 E H locs hp hW hS => ?_)
  obtain ⟨hr_, hC⟩ := hp
  subst hr_
  refine lv_istore (lv' := [(5, .int ((amt V ag nP h d).2.2.1)), (4, .int ((amt V ag nP h d).2.1)), (3, .int ((amt V ag nP h d).1)), (0, .ref (ad 0)), (1, .int (nI h)), (2, .int (nI d))]) hx hb dL_isDay_21 hl (by decide) rfl (fun ls hl => ?_)
  refine lv_iload_n hx hb dL_isDay_23 rfl (lv_at hl 2 rfl) ?_
  refine lv_iload hx hb dL_isDay_24 (lv_at hl 1 rfl) ?_
  refine lv_iadd hx hb dL_isDay_26 ?_
  refine lv_iload hx hb dL_isDay_27 (lv_at hl 0 rfl) ?_
  refine lv_iadd hx hb dL_isDay_29 ?_
  refine b_top (y := tot V ag nP h d) (rfl) ?_
  refine lv_istore (lv' := [(6, .int (tot V ag nP h d)), (5, .int ((amt V ag nP h d).2.2.1)), (4, .int ((amt V ag nP h d).2.1)), (3, .int ((amt V ag nP h d).1)), (0, .ref (ad 0)), (1, .int (nI h)), (2, .int (nI d))]) hx hb dL_isDay_30 hl (by decide) rfl (fun ls hl => ?_)
  refine lv_aload_n hx hb dL_isDay_32 rfl (lv_at hl 4 rfl) ?_
  refine lv_iload_n hx hb dL_isDay_33 rfl (lv_at hl 5 rfl) ?_
  refine lv_iload_n hx hb dL_isDay_34 rfl (lv_at hl 6 rfl) ?_
  refine y_ci (b_runSW B hT hX hN hW hS (As := [.ref (ad 0), .int (nI h), .int (nI d)]) (rest := []) (fun sz => lv_reason hlf hI hty h d hh hd hC sz) (cwL_211 B.2.2.2.2.1 ⟨Nat.le_of_ble_eq_true rfl, Nat.le_of_ble_eq_true rfl⟩) rfl hl.1 (Nat.le_of_ble_eq_true rfl) dL_isDay_35 ⟨by show _ ≤ 320; omega, by show _ ≤ 1920; omega⟩) hI hW hS (fun k h => h) (fun _ _ => rfl) (fun E1 => E1) (fun _ _ _ => rfl) (fun E1 j hj hno => absurd rfl (hno j hj)) (fun r_35 E H locs hp hW hS => ?_)
  obtain ⟨hr_, hC⟩ := hp
  subst hr_
  refine lv_istore (lv' := [(7, .int (rsn (cnt V ag (nI h) d nP).1 (amt V ag nP h d).2.2.2.1 (amt V ag nP h d).2.2.2.2)), (6, .int (tot V ag nP h d)), (5, .int ((amt V ag nP h d).2.2.1)), (4, .int ((amt V ag nP h d).2.1)), (3, .int ((amt V ag nP h d).1)), (0, .ref (ad 0)), (1, .int (nI h)), (2, .int (nI d))]) hx hb dL_isDay_38 hl (by decide) rfl (fun ls hl => ?_)
  refine lv_iload_n hx hb dL_isDay_40 rfl (lv_at hl 4 rfl) ?_
  refine lv_if_lt (tgt := 167) hx hb dL_isDay_41 (by decide) (fun c_41 => ?_) (fun c_41 => ?_)
  · exact absurd c_41 (nneg s1)
  · skip
    refine lv_iload hx hb dL_isDay_44 (lv_at hl 3 rfl) ?_
    refine lv_if_lt (tgt := 167) hx hb dL_isDay_46 (by decide) (fun c_46 => ?_) (fun c_46 => ?_)
    · exact absurd c_46 (nneg s2)
    · skip
      refine lv_iload hx hb dL_isDay_49 (lv_at hl 2 rfl) ?_
      refine lv_if_lt (tgt := 167) hx hb dL_isDay_51 (by decide) (fun c_51 => ?_) (fun c_51 => ?_)
      · exact absurd c_51 (nneg s3)
      · skip
        refine lv_iload hx hb dL_isDay_54 (lv_at hl 1 rfl) ?_
        refine lv_aload_n hx hb dL_isDay_56 rfl (lv_at hl 5 rfl) ?_
        refine lv_bipush (v := 109) hx hb dL_isDay_57 (by decide) ?_
        refine lv_iload_n hx hb dL_isDay_59 rfl (lv_at hl 7 rfl) ?_
        refine y_ci (b_runSW B hT hX hN hW hS (As := [.ref (ad 0), .int 109, .int (nI d)]) (rest := [.int (tot V ag nP h d)]) (fun sz => lv_ruleAt109 hlf hI hty d hd hC sz) (cwL_150 B.2.2.2.2.1 ⟨Nat.le_of_ble_eq_true rfl, Nat.le_of_ble_eq_true rfl⟩) rfl hl.1 (Nat.le_of_ble_eq_true rfl) dL_isDay_60 ⟨by show _ ≤ 320; omega, by show _ ≤ 1920; omega⟩) hI hW hS (fun k h => h) (fun _ _ => rfl) (fun E1 => E1) (fun _ _ _ => rfl) (fun E1 j hj hno => absurd rfl (hno j hj)) (fun r_60 E H locs hp hW hS => ?_)
        obtain ⟨hr_, hC⟩ := hp
        subst hr_
        refine lv_icmp_gt (tgt := 167) hx hb dL_isDay_63 (by decide) (fun c_63 => ?_) (fun c_63 => ?_)
        · exact absurd c_63 (nlt_of s4)
        · skip
          refine lv_iload hx hb dL_isDay_66 (lv_at hl 2 rfl) ?_
          refine lv_aload_n hx hb dL_isDay_68 rfl (lv_at hl 5 rfl) ?_
          refine lv_bipush (v := 114) hx hb dL_isDay_69 (by decide) ?_
          refine lv_iload_n hx hb dL_isDay_71 rfl (lv_at hl 7 rfl) ?_
          refine y_ci (b_runSW B hT hX hN hW hS (As := [.ref (ad 0), .int 114, .int (nI d)]) (rest := [.int ((amt V ag nP h d).2.2.1)]) (fun sz => lv_ruleAt114 hlf hI hty d hd hC sz) (cwL_150 B.2.2.2.2.1 ⟨Nat.le_of_ble_eq_true rfl, Nat.le_of_ble_eq_true rfl⟩) rfl hl.1 (Nat.le_of_ble_eq_true rfl) dL_isDay_72 ⟨by show _ ≤ 320; omega, by show _ ≤ 1920; omega⟩) hI hW hS (fun k h => h) (fun _ _ => rfl) (fun E1 => E1) (fun _ _ _ => rfl) (fun E1 j hj hno => absurd rfl (hno j hj)) (fun r_72 E H locs hp hW hS => ?_)
          obtain ⟨hr_, hC⟩ := hp
          subst hr_
          refine lv_icmp_gt (tgt := 167) hx hb dL_isDay_75 (by decide) (fun c_75 => ?_) (fun c_75 => ?_)
          · exact absurd c_75 (nlt_of s5)
          · skip
            refine lv_iload_n hx hb dL_isDay_78 rfl (lv_at hl 4 rfl) ?_
            refine lv_aload_n hx hb dL_isDay_79 rfl (lv_at hl 5 rfl) ?_
            refine lv_iload_n hx hb dL_isDay_80 rfl (lv_at hl 6 rfl) ?_
            refine lv_iload_n hx hb dL_isDay_81 rfl (lv_at hl 7 rfl) ?_
            refine y_ci (b_runSW B hT hX hN hW hS (As := [.ref (ad 0), .int (nI h), .int (nI d)]) (rest := [.int ((amt V ag nP h d).1)]) (fun sz => lv_adults hlf hI hty h d hh hd hC sz) (cwL_213 B.2.2.2.2.1 ⟨Nat.le_of_ble_eq_true rfl, Nat.le_of_ble_eq_true rfl⟩) rfl hl.1 (Nat.le_of_ble_eq_true rfl) dL_isDay_82 ⟨by show _ ≤ 320; omega, by show _ ≤ 1920; omega⟩) hI hW hS (fun k h => h) (fun _ _ => rfl) (fun E1 => E1) (fun _ _ _ => rfl) (fun E1 j hj hno => absurd rfl (hno j hj)) (fun r_82 E H locs hp hW hS => ?_)
            obtain ⟨hr_, hC⟩ := hp
            subst hr_
            refine lv_aload_n hx hb dL_isDay_85 rfl (lv_at hl 5 rfl) ?_
            refine lv_bipush (v := 97) hx hb dL_isDay_86 (by decide) ?_
            refine lv_iload_n hx hb dL_isDay_88 rfl (lv_at hl 7 rfl) ?_
            refine y_ci (b_runSW B hT hX hN hW hS (As := [.ref (ad 0), .int 97, .int (nI d)]) (rest := [.int ((cnt V ag (nI h) d nP).1), .int ((amt V ag nP h d).1)]) (fun sz => lv_ruleAt97 hlf hI hty d hd hC sz) (cwL_150 B.2.2.2.2.1 ⟨Nat.le_of_ble_eq_true rfl, Nat.le_of_ble_eq_true rfl⟩) rfl hl.1 (Nat.le_of_ble_eq_true rfl) dL_isDay_89 ⟨by show _ ≤ 320; omega, by show _ ≤ 1920; omega⟩) hI hW hS (fun k h => h) (fun _ _ => rfl) (fun E1 => E1) (fun _ _ _ => rfl) (fun E1 j hj hno => absurd rfl (hno j hj)) (fun r_89 E H locs hp hW hS => ?_)
            obtain ⟨hr_, hC⟩ := hp
            subst hr_
            refine lv_imul hx hb dL_isDay_92 ?_
            refine lv_icmp_gt (tgt := 167) hx hb dL_isDay_93 (by decide) (fun c_93 => ?_) (fun c_93 => ?_)
            · exact absurd c_93 (nlt_of s6)
            · skip
              refine lv_aload_n hx hb dL_isDay_96 rfl (lv_at hl 5 rfl) ?_
              refine lv_iload_n hx hb dL_isDay_97 rfl (lv_at hl 6 rfl) ?_
              refine lv_iload_n hx hb dL_isDay_98 rfl (lv_at hl 7 rfl) ?_
              refine y_ci (b_runSW B hT hX hN hW hS (As := [.ref (ad 0), .int (nI h), .int (nI d)]) (rest := []) (fun sz => lv_adults hlf hI hty h d hh hd hC sz) (cwL_213 B.2.2.2.2.1 ⟨Nat.le_of_ble_eq_true rfl, Nat.le_of_ble_eq_true rfl⟩) rfl hl.1 (Nat.le_of_ble_eq_true rfl) dL_isDay_99 ⟨by show _ ≤ 320; omega, by show _ ≤ 1920; omega⟩) hI hW hS (fun k h => h) (fun _ _ => rfl) (fun E1 => E1) (fun _ _ _ => rfl) (fun E1 j hj hno => absurd rfl (hno j hj)) (fun r_99 E H locs hp hW hS => ?_)
              obtain ⟨hr_, hC⟩ := hp
              subst hr_
              refine lv_if_le (tgt := 109) hx hb dL_isDay_102 (by decide) (fun c_102 => ?_) (fun c_102 => ?_)
              · skip
                refine lv_iconst (v := 0) hx hb dL_isDay_109 (by decide) ?_
                refine lv_iload hx hb dL_isDay_110 (lv_at hl 0 rfl) ?_
                refine lv_bipush (v := 110) hx hb dL_isDay_112 (by decide) ?_
                refine lv_icmp_eq (tgt := 121) hx hb dL_isDay_114 (by decide) (fun c_114 => ?_) (fun c_114 => ?_)
                · skip
                  refine lv_iconst (v := 0) hx hb dL_isDay_121 (by decide) ?_
                  refine lv_icmp_ne (tgt := 167) hx hb dL_isDay_122 (by decide) (fun c_122 => ?_) (fun c_122 => ?_)
                  · exact absurd rfl c_122
                  · skip
                    refine lv_iload hx hb dL_isDay_125 (lv_at hl 0 rfl) ?_
                    refine lv_bipush (v := 110) hx hb dL_isDay_127 (by decide) ?_
                    refine lv_icmp_ne (tgt := 137) hx hb dL_isDay_129 (by decide) (fun c_129 => ?_) (fun c_129 => ?_)
                    · exact absurd (rsn_110 (le0 s7 c_102)) c_129
                    · skip
                      refine lv_iload hx hb dL_isDay_132 (lv_at hl 1 rfl) ?_
                      refine lv_if_ne (tgt := 167) hx hb dL_isDay_134 (by decide) (fun c_134 => ?_) (fun c_134 => ?_)
                      · exact absurd (s8 (le0 s7 c_102)).1 c_134
                      · skip
                        refine lv_iload hx hb dL_isDay_137 (lv_at hl 0 rfl) ?_
                        refine lv_bipush (v := 109) hx hb dL_isDay_139 (by decide) ?_
                        refine lv_icmp_eq (tgt := 151) hx hb dL_isDay_141 (by decide) (fun c_141 => ?_) (fun c_141 => ?_)
                        · exact absurd c_141 (by rw [rsn_110 (le0 s7 c_102)]; decide)
                        · skip
                          refine lv_iload hx hb dL_isDay_144 (lv_at hl 0 rfl) ?_
                          refine lv_bipush (v := 98) hx hb dL_isDay_146 (by decide) ?_
                          refine lv_icmp_ne (tgt := 163) hx hb dL_isDay_148 (by decide) (fun c_148 => ?_) (fun c_148 => ?_)
                          · skip
                            refine lv_iconst (v := 1) hx hb dL_isDay_163 (by decide) ?_
                            refine lv_goto (tgt := 168) hx hb dL_isDay_164 (by decide) ?_
                            refine lv_istore (lv' := [(8, .int 1), (7, .int (rsn (cnt V ag (nI h) d nP).1 (amt V ag nP h d).2.2.2.1 (amt V ag nP h d).2.2.2.2)), (6, .int (tot V ag nP h d)), (5, .int ((amt V ag nP h d).2.2.1)), (4, .int ((amt V ag nP h d).2.1)), (3, .int ((amt V ag nP h d).1)), (0, .ref (ad 0)), (1, .int (nI h)), (2, .int (nI d))]) hx hb dL_isDay_168 hl (by decide) rfl (fun ls hl => ?_)
                            refine W.widen (k := 88) (n := 528) (by omega) (by omega) ?_
                            exact L_170 0   _ _ _ _ hC hW hS (lv_sub hl [6, 7, 8, 5, 4, 3, 0] rfl)
                          · exact absurd c_148 (by rw [rsn_110 (le0 s7 c_102)]; decide)
                · exact absurd (rsn_110 (le0 s7 c_102)) c_114
              · skip
                refine lv_iconst (v := 1) hx hb dL_isDay_105 (by decide) ?_
                refine lv_goto (tgt := 110) hx hb dL_isDay_106 (by decide) ?_
                refine lv_iload hx hb dL_isDay_110 (lv_at hl 0 rfl) ?_
                refine lv_bipush (v := 110) hx hb dL_isDay_112 (by decide) ?_
                refine lv_icmp_eq (tgt := 121) hx hb dL_isDay_114 (by decide) (fun c_114 => ?_) (fun c_114 => ?_)
                · exact absurd c_114 (rsn_no (fun q => c_102 (by rw [q]; decide)))
                · skip
                  refine lv_iconst (v := 1) hx hb dL_isDay_117 (by decide) ?_
                  refine lv_goto (tgt := 122) hx hb dL_isDay_118 (by decide) ?_
                  refine lv_icmp_ne (tgt := 167) hx hb dL_isDay_122 (by decide) (fun c_122 => ?_) (fun c_122 => ?_)
                  · exact absurd rfl c_122
                  · skip
                    refine lv_iload hx hb dL_isDay_125 (lv_at hl 0 rfl) ?_
                    refine lv_bipush (v := 110) hx hb dL_isDay_127 (by decide) ?_
                    refine lv_icmp_ne (tgt := 137) hx hb dL_isDay_129 (by decide) (fun c_129 => ?_) (fun c_129 => ?_)
                    · skip
                      refine lv_iload hx hb dL_isDay_137 (lv_at hl 0 rfl) ?_
                      refine lv_bipush (v := 109) hx hb dL_isDay_139 (by decide) ?_
                      refine lv_icmp_eq (tgt := 151) hx hb dL_isDay_141 (by decide) (fun c_141 => ?_) (fun c_141 => ?_)
                      · skip
                        refine lv_iload hx hb dL_isDay_151 (lv_at hl 1 rfl) ?_
                        refine lv_aload_n hx hb dL_isDay_153 rfl (lv_at hl 5 rfl) ?_
                        refine lv_bipush (v := 109) hx hb dL_isDay_154 (by decide) ?_
                        refine lv_iload_n hx hb dL_isDay_156 rfl (lv_at hl 7 rfl) ?_
                        refine y_ci (b_runSW B hT hX hN hW hS (As := [.ref (ad 0), .int 109, .int (nI d)]) (rest := [.int (tot V ag nP h d)]) (fun sz => lv_ruleAt109 hlf hI hty d hd hC sz) (cwL_150 B.2.2.2.2.1 ⟨Nat.le_of_ble_eq_true rfl, Nat.le_of_ble_eq_true rfl⟩) rfl hl.1 (Nat.le_of_ble_eq_true rfl) dL_isDay_157 ⟨by show _ ≤ 320; omega, by show _ ≤ 1920; omega⟩) hI hW hS (fun k h => h) (fun _ _ => rfl) (fun E1 => E1) (fun _ _ _ => rfl) (fun E1 j hj hno => absurd rfl (hno j hj)) (fun r_157 E H locs hp hW hS => ?_)
                        obtain ⟨hr_, hC⟩ := hp
                        subst hr_
                        refine lv_icmp_ne (tgt := 167) hx hb dL_isDay_160 (by decide) (fun c_160 => ?_) (fun c_160 => ?_)
                        · exact absurd (s9 (rsn_cap (Or.inl c_141))) c_160
                        · skip
                          refine lv_iconst (v := 1) hx hb dL_isDay_163 (by decide) ?_
                          refine lv_goto (tgt := 168) hx hb dL_isDay_164 (by decide) ?_
                          refine lv_istore (lv' := [(8, .int 1), (7, .int (rsn (cnt V ag (nI h) d nP).1 (amt V ag nP h d).2.2.2.1 (amt V ag nP h d).2.2.2.2)), (6, .int (tot V ag nP h d)), (5, .int ((amt V ag nP h d).2.2.1)), (4, .int ((amt V ag nP h d).2.1)), (3, .int ((amt V ag nP h d).1)), (0, .ref (ad 0)), (1, .int (nI h)), (2, .int (nI d))]) hx hb dL_isDay_168 hl (by decide) rfl (fun ls hl => ?_)
                          refine W.widen (k := 88) (n := 528) (by omega) (by omega) ?_
                          exact L_170 0   _ _ _ _ hC hW hS (lv_sub hl [6, 7, 8, 5, 4, 3, 0] rfl)
                      · skip
                        refine lv_iload hx hb dL_isDay_144 (lv_at hl 0 rfl) ?_
                        refine lv_bipush (v := 98) hx hb dL_isDay_146 (by decide) ?_
                        refine lv_icmp_ne (tgt := 163) hx hb dL_isDay_148 (by decide) (fun c_148 => ?_) (fun c_148 => ?_)
                        · skip
                          refine lv_iconst (v := 1) hx hb dL_isDay_163 (by decide) ?_
                          refine lv_goto (tgt := 168) hx hb dL_isDay_164 (by decide) ?_
                          refine lv_istore (lv' := [(8, .int 1), (7, .int (rsn (cnt V ag (nI h) d nP).1 (amt V ag nP h d).2.2.2.1 (amt V ag nP h d).2.2.2.2)), (6, .int (tot V ag nP h d)), (5, .int ((amt V ag nP h d).2.2.1)), (4, .int ((amt V ag nP h d).2.1)), (3, .int ((amt V ag nP h d).1)), (0, .ref (ad 0)), (1, .int (nI h)), (2, .int (nI d))]) hx hb dL_isDay_168 hl (by decide) rfl (fun ls hl => ?_)
                          refine W.widen (k := 88) (n := 528) (by omega) (by omega) ?_
                          exact L_170 0   _ _ _ _ hC hW hS (lv_sub hl [6, 7, 8, 5, 4, 3, 0] rfl)
                        · skip
                          refine lv_iload hx hb dL_isDay_151 (lv_at hl 1 rfl) ?_
                          refine lv_aload_n hx hb dL_isDay_153 rfl (lv_at hl 5 rfl) ?_
                          refine lv_bipush (v := 109) hx hb dL_isDay_154 (by decide) ?_
                          refine lv_iload_n hx hb dL_isDay_156 rfl (lv_at hl 7 rfl) ?_
                          refine y_ci (b_runSW B hT hX hN hW hS (As := [.ref (ad 0), .int 109, .int (nI d)]) (rest := [.int (tot V ag nP h d)]) (fun sz => lv_ruleAt109 hlf hI hty d hd hC sz) (cwL_150 B.2.2.2.2.1 ⟨Nat.le_of_ble_eq_true rfl, Nat.le_of_ble_eq_true rfl⟩) rfl hl.1 (Nat.le_of_ble_eq_true rfl) dL_isDay_157 ⟨by show _ ≤ 320; omega, by show _ ≤ 1920; omega⟩) hI hW hS (fun k h => h) (fun _ _ => rfl) (fun E1 => E1) (fun _ _ _ => rfl) (fun E1 j hj hno => absurd rfl (hno j hj)) (fun r_157 E H locs hp hW hS => ?_)
                          obtain ⟨hr_, hC⟩ := hp
                          subst hr_
                          refine lv_icmp_ne (tgt := 167) hx hb dL_isDay_160 (by decide) (fun c_160 => ?_) (fun c_160 => ?_)
                          · exact absurd (s9 (rsn_cap (Or.inr c_148))) c_160
                          · skip
                            refine lv_iconst (v := 1) hx hb dL_isDay_163 (by decide) ?_
                            refine lv_goto (tgt := 168) hx hb dL_isDay_164 (by decide) ?_
                            refine lv_istore (lv' := [(8, .int 1), (7, .int (rsn (cnt V ag (nI h) d nP).1 (amt V ag nP h d).2.2.2.1 (amt V ag nP h d).2.2.2.2)), (6, .int (tot V ag nP h d)), (5, .int ((amt V ag nP h d).2.2.1)), (4, .int ((amt V ag nP h d).2.1)), (3, .int ((amt V ag nP h d).1)), (0, .ref (ad 0)), (1, .int (nI h)), (2, .int (nI d))]) hx hb dL_isDay_168 hl (by decide) rfl (fun ls hl => ?_)
                            refine W.widen (k := 88) (n := 528) (by omega) (by omega) ?_
                            exact L_170 0   _ _ _ _ hC hW hS (lv_sub hl [6, 7, 8, 5, 4, 3, 0] rfl)
                    · exact absurd c_129 (rsn_no (fun q => c_102 (by rw [q]; decide)))
