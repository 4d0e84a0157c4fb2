theorem cwL_136 {R : Room} {s : State} {args : Array Value} {rm : Room} (hts : ∀ w ∈ wsL_law, w.before args s = true) (hR : rm.frames + 1 ≤ R.frames ∧ 8 + (5 + 11) + rm.locals ≤ R.locals) : CWS R s args RL 136 yL_sum cL_sum 5 (some .long) rm rm.cells rm.slots 2 :=
  va_cwS 2 hts (gi_S (r7_in _ (List.mem_of_getElem? (i := 0) rfl)) (r7_in _ (List.mem_of_getElem? (i := 1) rfl)) (r4_in _ (List.mem_of_getElem? (i := 20) rfl)) (r7_in _ (List.mem_of_getElem? (i := 2) rfl))) rfl rfl rfl (by decide +kernel) hR
theorem cwL_123 {R : Room} {s : State} {args : Array Value} {rm : Room} (hts : ∀ w ∈ wsL_law, w.before args s = true) (hR : rm.frames + 1 ≤ R.frames ∧ 8 + (3 + 11) + rm.locals ≤ R.locals) : CWS R s args RL 123 yL_pick cL_pick 3 (some .int) rm rm.cells rm.slots 3 :=
  va_cwS 3 hts (gi_S (r4_in _ (List.mem_of_getElem? (i := 18) rfl)) (r4_in _ (List.mem_of_getElem? (i := 19) rfl)) (r4_in _ (List.mem_of_getElem? (i := 20) rfl)) (r4_in _ (List.mem_of_getElem? (i := 21) rfl))) rfl rfl rfl (by decide +kernel) hR
theorem cwL_178 {R : Room} {s : State} {args : Array Value} {rm : Room} (hts : ∀ w ∈ wsL_law, w.before args s = true) (hR : rm.frames + 1 ≤ R.frames ∧ 8 + (14 + 11) + rm.locals ≤ R.locals) : CWS R s args RL 178 yL_isDay cL_isDay 14 (some .boolean) rm rm.cells rm.slots 3 :=
  va_cwS 3 hts (gi_S (r16_in _ (List.mem_of_getElem? (i := 11) rfl)) (r16_in _ (List.mem_of_getElem? (i := 12) rfl)) (r4_in _ (List.mem_of_getElem? (i := 20) rfl)) (r16_in _ (List.mem_of_getElem? (i := 13) rfl))) rfl rfl rfl (by decide +kernel) hR
theorem cwL_182 {R : Room} {s : State} {args : Array Value} {rm : Room} (hts : ∀ w ∈ wsL_law, w.before args s = true) (hR : rm.frames + 1 ≤ R.frames ∧ 8 + (17 + 11) + rm.locals ≤ R.locals) : CWS R s args RL 182 yL_areMonths cL_areMonths 17 (some .boolean) rm rm.cells rm.slots 2 :=
  va_cwS 2 hts (gi_S (r18_in _ (List.mem_of_getElem? (i := 15) rfl)) (r18_in _ (List.mem_of_getElem? (i := 16) rfl)) (r4_in _ (List.mem_of_getElem? (i := 20) rfl)) (r18_in _ (List.mem_of_getElem? (i := 17) rfl))) rfl rfl rfl (by decide +kernel) hR
theorem cwL_130 {R : Room} {s : State} {args : Array Value} {rm : Room} (hts : ∀ w ∈ wsL_law, w.before args s = true) (hR : rm.frames + 1 ≤ R.frames ∧ 8 + (2 + 11) + rm.locals ≤ R.locals) : vx_CSW R s args RL 130 yL_addHousehold cL_addHousehold 2 (some .int) [(0, 4, 5, 22)] (Cond.codeWith yL_addHousehold cL_addHousehold 2 (some .int) [(0, 4, 5, 22)] :: wsL_law) rm rm.cells rm.slots 1 :=
  vx_cwSW 1 hts (gi_S (r5_in _ (List.mem_of_getElem? (i := 19) rfl)) (r5_in _ (List.mem_of_getElem? (i := 20) rfl)) (r4_in _ (List.mem_of_getElem? (i := 20) rfl)) (r5_in _ (List.mem_of_getElem? (i := 21) rfl))) rfl rfl rfl (by decide +kernel) hR
theorem cwL_127 {R : Room} {s : State} {args : Array Value} {rm : Room} (hts : ∀ w ∈ wsL_law, w.before args s = true) (hR : rm.frames + 1 ≤ R.frames ∧ 8 + (3 + 11) + rm.locals ≤ R.locals) : vx_CSW R s args RL 127 yL_addPerson cL_addPerson 3 (some .int) [(0, 5, 6, 20), (0, 5, 10, 22)] (Cond.codeWith yL_addPerson cL_addPerson 3 (some .int) [(0, 5, 6, 20), (0, 5, 10, 22)] :: wsL_law) rm rm.cells rm.slots 2 :=
  vx_cwSW 2 hts (gi_S (r5_in _ (List.mem_of_getElem? (i := 2) rfl)) (r5_in _ (List.mem_of_getElem? (i := 3) rfl)) (r4_in _ (List.mem_of_getElem? (i := 20) rfl)) (r5_in _ (List.mem_of_getElem? (i := 4) rfl))) rfl rfl rfl (by decide +kernel) hR
/-- the way on behind the last turn -/
def LE35 (p : Program) (l : Launch) (e : Env) (s : State) (m : MethodId) (args : Array Value) (below : List Frame) (meth : Method) (c : Code) (Q : State → Prop) (D : va_G) (ad : Nat → Nat) (cI cH cP cT : ClassId) (b : Nat) : Prop :=
  ∀ (ag : Nat → Int32) (P9 G9 : Nat) (V T : Nat → Nat → Int32) (rN : Nat) (nf pn : Int32) (sp sk : Int64) (py pd : Nat → Nat → Int32), ST35 V G9 rN pn sp py pd → ∀ (E : Nat → va_E) (H : Heap) (locs : List Loc) (ls : Array Slot), CW cI cI cH cP cT ad V T ag P9 G9 rN nf pn sp sk py pd E → hH D ad 109 E H → va_S (cA ad 109 s.heap.size) s.heap H locs → lv_has ls 20 [(0, .ref b), (1, .ref (ad 0)), (3, .int (nI G9)), (4, .int 1)] → W p l e room_1 s m args below meth c H locs (272944) (1647264) Q (F0 m 924 ls [])
theorem nI_p5 {a n : Nat} : nI (a + 5 * n) + 5 = nI (a + 5 * (n + 1)) := by
  rw [show a + 5 * (n + 1) = a + 5 * n + 5 by omega]
  exact nI_add _ 5
theorem nI_p2 {n : Nat} : nI (2 + 2 * n) + 2 = nI (2 + 2 * (n + 1)) := by
  rw [show 2 + 2 * (n + 1) = 2 + 2 * n + 2 by omega]
  exact nI_add _ 2
theorem r10 {n : Nat} (h : n < 60) : nI n - nI n / 10 * 10 = nI (n % 10) := (by decide +kernel : ∀ n, n < 60 → nI n - nI n / 10 * 10 = nI (n % 10)) n h
theorem one_add_nI (n : Nat) : 1 + nI n = nI (1 + n) := nI_add 1 n
theorem two_add_nI (n : Nat) : 2 + nI n = nI (2 + n) := nI_add 2 n
set_option maxHeartbeats 8000000 in
set_option maxRecDepth 100000 in
theorem lm_loop {p : Program} {l : Launch} {e : Env} {s : State} {m : MethodId} {args : Array Value} {below : List Frame} {meth : Method} {c : Code} {Q : State → Prop} {D : va_G} {ad : Nat → Nat} {cI cZ cH cP cT cJ cF : ClassId} {b L : Nat} {xs : Nat → Int32} (C : LC35 p l s m args c D ad cI cZ cH cP cT cJ cF b L xs) {V T : Nat → Nat → Int32} {ag : Nat → Int32} {P9 G9 rN : Nat} {nf pn : Int32} {sp sk : Int64} {py pd : Nat → Nat → Int32} {E : Nat → va_E} {H : Heap} {locs : List Loc} {ls : Array Slot} (h2P : 2 ≤ P9) (h1G : 1 ≤ G9) (hST : ST35 V G9 rN pn sp py pd) (KE : LE35 p l e s m args below meth c Q D ad cI cH cP cT b) (hC : CW cI cI cH cP cT ad V T ag P9 G9 rN nf pn sp sk py pd E) (hW : hH D ad 109 E H) (hS : va_S (cA ad 109 s.heap.size) s.heap H locs) (hl : lv_has ls 20 [(0, .ref b), (1, .ref (ad 0)), (2, .int (nI P9)), (3, .int (nI G9)), (4, .int 1), (5, .int (nI (2 + 3 * P9 + 5 * 0))), (6, .int (nI 0))]) : W p l e room_1 s m args below meth c H locs (400) (12000) Q (F0 m 178 ls []) := by
  obtain ⟨B, ⟨hlf, hT, hN, hX, hI⟩, hXs, hbl, hbA, hL⟩ := id C
  have hx := B.1
  have hb := B.2.1
  have hty : TY [(cI, .int), (cZ, .int), (cH, .object RX1), (cP, .object RX2), (cT, .object RX4), (cJ, .int), (cF, .int)] cI cI cH cP cT := ⟨rfl, rfl, rfl, rfl, rfl⟩
  obtain ⟨hP8, hH4, hR12⟩ := hC.bds
  have L_178 : ∀ (n_ : Nat) (nx : Nat) (V T : Nat → Nat → Int32) (rN : Nat) (nf pn : Int32) (sp sk : Int64) (py pd : Nat → Nat → Int32), (hST : ST35 V G9 rN pn sp py pd) → (hnx : nx ≤ 60) → (hn : 60 < n_ + nx) → ∀ (E : Nat → va_E) (H : Heap) (locs : List Loc) (ls : Array Slot), CW cI cI cH cP cT ad V T ag P9 G9 rN nf pn sp sk py pd E → hH D ad 109 E H → va_S (cA ad 109 s.heap.size) s.heap H locs → lv_has ls 20 [(0, .ref b), (1, .ref (ad 0)), (2, .int (nI P9)), (3, .int (nI G9)), (4, .int 1), (5, .int (nI (2 + 3 * P9 + 5 * nx))), (6, .int (nI nx))] → W p l e room_1 s m args below meth c H locs (400 + 848 * nx + 36944 * (nx / 10)) (12000 + 5088 * nx + 221664 * (nx / 10)) Q (F0 m 178 ls []) := by
    intro n_
    induction n_ with
    | zero =>
      intro nx V T rN nf pn sp sk py pd hST hnx hn
      omega
    | succ n_ ih =>
      intro nx V T rN nf pn sp sk py pd hST hnx hn E H locs ls hC hW hS hl
      obtain ⟨hP8, hH4, hR12⟩ := hC.bds
      refine lv_iload hx hb dL_law_178 (lv_at hl 6 rfl) ?_
      refine lv_bipush (v := (nI 60)) hx hb dL_law_180 (by decide) ?_
      refine lv_icmp_ge (tgt := 924) hx hb dL_law_182 (by decide) (fun c_182 => ?_) (fun c_182 => ?_)
      · skip
        refine W.widen (k := 272944) (n := 1647264) (by omega) (by omega) ?_
        exact KE _ _ _ _ _ _ _ _ _ _ _ _ hST _ _ _ _ hC hW hS (lv_sub hl [0, 1, 3, 4] rfl)
      · skip
        have q182 : nx < 60 := Nat.lt_of_not_le (fun q => c_182 ((nI_leI (by omega) (by omega)).mpr q))
        refine lv_iload hx hb dL_law_185 (lv_at hl 4 rfl) ?_
        refine lv_if_eq (tgt := 924) hx hb dL_law_187 (by decide) (fun c_187 => ?_) (fun c_187 => ?_)
        · exact absurd c_187 (by decide)
        · skip
          refine lv_aload_n hx hb dL_law_190 rfl (lv_at hl 1 rfl) ?_
          refine lv_iload_n hx hb dL_law_191 rfl (lv_at hl 3 rfl) ?_
          refine y_cl (b_runSN B hT hX hN hW hS (As := [.ref (ad 0), .int (nI G9)]) (rest := []) (fun sz => ow_sum hlf hI hty hC sz) (cwL_136 B.2.2.2.2.1 ⟨Nat.le_of_ble_eq_true rfl, Nat.le_of_ble_eq_true rfl⟩) rfl hl.1 (Nat.le_of_ble_eq_true rfl) dL_law_192 ⟨by show _ ≤ 600390; omega, by show _ ≤ 7288600; omega⟩) hI hW hS (fun k h => h) (fun _ _ => rfl) (fun E1 => E1) (fun _ _ _ => rfl) (fun E1 j hj hno => absurd rfl (hno j hj)) (fun r_192 E H locs hp hW hS => ?_)
          obtain ⟨hr_, hC⟩ := hp
          subst hr_
          obtain ⟨bef, hbf⟩ : ∃ z, sL nf sp sk (due V ag P9) pd rN G9 = z := ⟨_, rfl⟩
          refine b_ltop (y := bef) hbf ?_
          refine lv_lstore (lv' := [(7, .long bef), (0, .ref b), (1, .ref (ad 0)), (2, .int (nI P9)), (3, .int (nI G9)), (4, .int 1), (5, .int (nI (2 + 3 * P9 + 5 * nx))), (6, .int (nI nx))]) hx hb dL_law_195 hl (by decide) rfl (fun ls hl => ?_)
          refine lv_aload_n hx hb dL_law_197 rfl (lv_at hl 1 rfl) ?_
          refine lv_iload hx hb dL_law_198 (lv_at hl 6 rfl) ?_
          refine lv_bipush (v := (nI 20)) hx hb dL_law_200 (by decide) ?_
          refine b_ci0 (b_runSX (E := fun _ => .inl (cI, 0, .inl (fun _ => 0))) B hT hX hXs hbl hbA hS (As := [.ref b, .int (nI (2 + 3 * P9 + 5 * nx)), .int (nI 20)]) (rest := []) (fun sz => ow_pick (ad := ad) (2 + 3 * P9 + 5 * nx) 20 (by omega) (by omega) (by omega) hL sz) (cwL_123 B.2.2.2.2.1 ⟨Nat.le_of_ble_eq_true rfl, Nat.le_of_ble_eq_true rfl⟩) rfl hl.1 (Nat.le_of_ble_eq_true rfl) dL_law_202 ⟨by show _ ≤ 600390; omega, by show _ ≤ 7288600; omega⟩) hW hS (fun r_202 H locs hp hW hS => ?_)
          obtain ⟨_, j202, hj202, hr_⟩ := hp
          subst hr_
          refine lv_istore (lv' := [(9, .int (nI j202)), (7, .long bef), (0, .ref b), (1, .ref (ad 0)), (2, .int (nI P9)), (3, .int (nI G9)), (4, .int 1), (5, .int (nI (2 + 3 * P9 + 5 * nx))), (6, .int (nI nx))]) hx hb dL_law_205 hl (by decide) rfl (fun ls hl => ?_)
          have L_845 : ∀ (_u : Nat) (V T : Nat → Nat → Int32) (rN : Nat) (nf pn : Int32) (sp sk : Int64) (py pd : Nat → Nat → Int32) (told : Int32), (hST : ST35 V G9 rN pn sp py pd) → (hB : -1 ≤ told.toInt ∨ sL nf sp sk (due V ag P9) pd rN G9 = bef) → ∀ (E : Nat → va_E) (H : Heap) (locs : List Loc) (ls : Array Slot), CW cI cI cH cP cT ad V T ag P9 G9 rN nf pn sp sk py pd E → hH D ad 109 E H → va_S (cA ad 109 s.heap.size) s.heap H locs → lv_has ls 20 [(0, .ref b), (1, .ref (ad 0)), (2, .int (nI P9)), (3, .int (nI G9)), (4, .int 1), (5, .int (nI (2 + 3 * P9 + 5 * nx))), (6, .int (nI nx)), (7, .long bef), (15, .int told)] → W p l e room_1 s m args below meth c H locs (400 + 848 * nx + 36944 * (nx / 10) + 464) (12000 + 5088 * nx + 221664 * (nx / 10) + 2784) Q (F0 m 845 ls []) := by
            intro _u V T rN nf pn sp sk py pd told hST hB E H locs ls hC hW hS hl
            obtain ⟨hP8, hH4, hR12⟩ := hC.bds
            refine lv_iinc (v := (nI (2 + 3 * P9 + 5 * (nx + 1)))) (lv' := [(5, .int (nI (2 + 3 * P9 + 5 * (nx + 1)))), (0, .ref b), (1, .ref (ad 0)), (2, .int (nI P9)), (3, .int (nI G9)), (4, .int 1), (6, .int (nI nx)), (7, .long bef), (15, .int told)]) hx hb dL_law_845 hl (k := 5) rfl nI_p5 (by decide) rfl (fun ls hl => ?_)
            refine lv_iload hx hb dL_law_848 (lv_at hl 5 rfl) ?_
            refine lv_iload hx hb dL_law_850 (lv_at hl 8 rfl) ?_
            refine lv_iconst (v := (-1)) hx hb dL_law_852 (by decide) ?_
            refine lv_icmp_ge (tgt := 867) hx hb dL_law_853 (by decide) (fun c_853 => ?_) (fun c_853 => ?_)
            · skip
              refine lv_aload_n hx hb dL_law_867 rfl (lv_at hl 2 rfl) ?_
              refine lv_aload_n hx hb dL_law_868 rfl (lv_at hl 1 rfl) ?_
              refine lv_iload hx hb dL_law_869 (lv_at hl 0 rfl) ?_
              refine lv_iload_n hx hb dL_law_871 rfl (lv_at hl 4 rfl) ?_
              refine b_ci0 (b_runSX (E := fun _ => .inl (cI, 0, .inl (fun _ => 0))) B hT hX hXs hbl hbA hS (As := [.ref b, .int (nI (2 + 3 * P9 + 5 * (nx + 1))), .int (nI G9)]) (rest := [.ref (ad 0), .int 1]) (fun sz => ow_pick (ad := ad) (2 + 3 * P9 + 5 * (nx + 1)) G9 (by omega) (by omega) (by omega) hL sz) (cwL_123 B.2.2.2.2.1 ⟨Nat.le_of_ble_eq_true rfl, Nat.le_of_ble_eq_true rfl⟩) rfl hl.1 (Nat.le_of_ble_eq_true rfl) dL_law_872 ⟨by show _ ≤ 600390; omega, by show _ ≤ 7288600; omega⟩) hW hS (fun r_872 H locs hp hW hS => ?_)
              obtain ⟨_, j872, hj872, hr_⟩ := hp
              subst hr_
              refine lv_aload_n hx hb dL_law_875 rfl (lv_at hl 1 rfl) ?_
              refine lv_iload hx hb dL_law_876 (lv_at hl 0 rfl) ?_
              refine lv_iconst (v := 1) hx hb dL_law_878 (by decide) ?_
              refine lv_iadd hx hb dL_law_879 ?_
              refine b_top (y := nI (2 + 3 * P9 + 5 * (nx + 1) + 1)) (nI_add _ 1) ?_
              refine lv_sipush (v := (nI 360)) hx hb dL_law_880 (by decide) ?_
              refine b_ci0 (b_runSX (E := fun _ => .inl (cI, 0, .inl (fun _ => 0))) B hT hX hXs hbl hbA hS (As := [.ref b, .int (nI (2 + 3 * P9 + 5 * (nx + 1) + 1)), .int (nI 360)]) (rest := [.int (nI j872), .ref (ad 0), .int 1]) (fun sz => ow_pick (ad := ad) (2 + 3 * P9 + 5 * (nx + 1) + 1) 360 (by omega) (by omega) (by omega) hL sz) (cwL_123 B.2.2.2.2.1 ⟨Nat.le_of_ble_eq_true rfl, Nat.le_of_ble_eq_true rfl⟩) rfl hl.1 (Nat.le_of_ble_eq_true rfl) dL_law_883 ⟨by show _ ≤ 600390; omega, by show _ ≤ 7288600; omega⟩) hW hS (fun r_883 H locs hp hW hS => ?_)
              obtain ⟨_, j883, hj883, hr_⟩ := hp
              subst hr_
              refine y_ci (b_runSN B hT hX hN hW hS (As := [.ref (ad 0), .int (nI j872), .int (nI j883)]) (rest := [.int 1]) (fun sz => ow_isDay hlf hI hty j872 j883 hC hj872 hj883 sz) (cwL_178 B.2.2.2.2.1 ⟨Nat.le_of_ble_eq_true rfl, Nat.le_of_ble_eq_true rfl⟩) rfl hl.1 (Nat.le_of_ble_eq_true rfl) dL_law_886 ⟨by show _ ≤ 600390; omega, by show _ ≤ 7288600; omega⟩) hI hW hS (fun k h => h) (fun _ _ => rfl) (fun E1 => E1) (fun _ _ _ => rfl) (fun E1 j hj hno => absurd rfl (hno j hj)) (fun r_886 E H locs hp hW hS => ?_)
              obtain ⟨hr_, hC⟩ := hp
              subst hr_
              refine lv_if_eq (tgt := 914) hx hb dL_law_889 (by decide) (fun c_889 => ?_) (fun c_889 => ?_)
              · exact absurd c_889 (by decide)
              · skip
                refine lv_iload hx hb dL_law_892 (lv_at hl 6 rfl) ?_
                refine lv_bipush (v := 10) hx hb dL_law_894 (by decide) ?_
                refine lv_irem hx hb dL_law_896 (by decide) ?_
                refine b_top (y := nI (nx % 10)) (r10 q182) ?_
                refine lv_bipush (v := (nI 9)) hx hb dL_law_897 (by decide) ?_
                refine lv_icmp_lt (tgt := 910) hx hb dL_law_899 (by decide) (fun c_899 => ?_) (fun c_899 => ?_)
                · skip
                  refine lv_iconst (v := 1) hx hb dL_law_910 (by decide) ?_
                  refine lv_goto (tgt := 915) hx hb dL_law_911 (by decide) ?_
                  refine lv_iand hx hb dL_law_915 ?_
                  refine b_top (y := 1) (by decide) ?_
                  refine lv_istore (lv' := [(4, .int 1), (5, .int (nI (2 + 3 * P9 + 5 * (nx + 1)))), (0, .ref b), (1, .ref (ad 0)), (2, .int (nI P9)), (3, .int (nI G9)), (6, .int (nI nx)), (7, .long bef), (15, .int told)]) hx hb dL_law_916 hl (by decide) rfl (fun ls hl => ?_)
                  refine lv_iinc (v := (nI (nx + 1))) (lv' := [(6, .int (nI (nx + 1))), (4, .int 1), (5, .int (nI (2 + 3 * P9 + 5 * (nx + 1)))), (0, .ref b), (1, .ref (ad 0)), (2, .int (nI P9)), (3, .int (nI G9)), (7, .long bef), (15, .int told)]) hx hb dL_law_918 hl (k := 6) rfl (nI_1 nx) (by decide) rfl (fun ls hl => ?_)
                  refine lv_goto (tgt := 178) hx hb dL_law_921 (by decide) ?_
                  refine W.widen (k := 400 + 848 * (nx + 1) + 36944 * ((nx + 1) / 10)) (n := 12000 + 5088 * (nx + 1) + 221664 * ((nx + 1) / 10)) (by omega) (by omega) ?_
                  exact ih (nx + 1) _ _ _ _ _ _ _ _ _ hST (by omega) (by omega) _ _ _ _ hC hW hS (lv_sub hl [3, 4, 5, 6, 1, 2, 0] rfl)
                · skip
                  have q899 : 9 ≤ nx % 10 := Nat.le_of_not_lt (fun q => c_899 ((nI_ltI (by omega) (by omega)).mpr q))
                  refine lv_aload_n hx hb dL_law_902 rfl (lv_at hl 2 rfl) ?_
                  refine lv_iload_n hx hb dL_law_903 rfl (lv_at hl 4 rfl) ?_
                  refine y_ci (b_runSN B hT hX hN hW hS (As := [.ref (ad 0), .int (nI G9)]) (rest := [.int 1]) (fun sz => ow_areMonths hlf hI hty hC hST.2 sz) (cwL_182 B.2.2.2.2.1 ⟨Nat.le_of_ble_eq_true rfl, Nat.le_of_ble_eq_true rfl⟩) rfl hl.1 (Nat.le_of_ble_eq_true rfl) dL_law_904 ⟨by show _ ≤ 600390; omega, by show _ ≤ 7288600; omega⟩) hI hW hS (fun k h => h) (fun _ _ => rfl) (fun E1 => E1) (fun _ _ _ => rfl) (fun E1 j hj hno => absurd rfl (hno j hj)) (fun r_904 E H locs hp hW hS => ?_)
                  obtain ⟨hr_, hC⟩ := hp
                  subst hr_
                  refine lv_if_eq (tgt := 914) hx hb dL_law_907 (by decide) (fun c_907 => ?_) (fun c_907 => ?_)
                  · exact absurd c_907 (by decide)
                  · skip
                    refine lv_iconst (v := 1) hx hb dL_law_910 (by decide) ?_
                    refine lv_goto (tgt := 915) hx hb dL_law_911 (by decide) ?_
                    refine lv_iand hx hb dL_law_915 ?_
                    refine b_top (y := 1) (by decide) ?_
                    refine lv_istore (lv' := [(4, .int 1), (5, .int (nI (2 + 3 * P9 + 5 * (nx + 1)))), (0, .ref b), (1, .ref (ad 0)), (2, .int (nI P9)), (3, .int (nI G9)), (6, .int (nI nx)), (7, .long bef), (15, .int told)]) hx hb dL_law_916 hl (by decide) rfl (fun ls hl => ?_)
                    refine lv_iinc (v := (nI (nx + 1))) (lv' := [(6, .int (nI (nx + 1))), (4, .int 1), (5, .int (nI (2 + 3 * P9 + 5 * (nx + 1)))), (0, .ref b), (1, .ref (ad 0)), (2, .int (nI P9)), (3, .int (nI G9)), (7, .long bef), (15, .int told)]) hx hb dL_law_918 hl (k := 6) rfl (nI_1 nx) (by decide) rfl (fun ls hl => ?_)
                    refine lv_goto (tgt := 178) hx hb dL_law_921 (by decide) ?_
                    refine W.widen (k := 400 + 848 * (nx + 1) + 36944 * ((nx + 1) / 10)) (n := 12000 + 5088 * (nx + 1) + 221664 * ((nx + 1) / 10)) (by omega) (by omega) ?_
                    exact ih (nx + 1) _ _ _ _ _ _ _ _ _ hST (by omega) (by omega) _ _ _ _ hC hW hS (lv_sub hl [3, 4, 5, 6, 1, 2, 0] rfl)
            · skip
              refine lv_aload_n hx hb dL_law_856 rfl (lv_at hl 2 rfl) ?_
              refine lv_iload_n hx hb dL_law_857 rfl (lv_at hl 4 rfl) ?_
              refine y_cl (b_runSN B hT hX hN hW hS (As := [.ref (ad 0), .int (nI G9)]) (rest := [.int 1]) (fun sz => ow_sum hlf hI hty hC sz) (cwL_136 B.2.2.2.2.1 ⟨Nat.le_of_ble_eq_true rfl, Nat.le_of_ble_eq_true rfl⟩) rfl hl.1 (Nat.le_of_ble_eq_true rfl) dL_law_858 ⟨by show _ ≤ 600390; omega, by show _ ≤ 7288600; omega⟩) hI hW hS (fun k h => h) (fun _ _ => rfl) (fun E1 => E1) (fun _ _ _ => rfl) (fun E1 j hj hno => absurd rfl (hno j hj)) (fun r_858 E H locs hp hW hS => ?_)
              obtain ⟨hr_, hC⟩ := hp
              subst hr_
              refine lv_lload hx hb dL_law_861 (lv_at hl 7 rfl) ?_
              refine b_lcmp hx hb dL_law_863 ?_
              refine lv_if_ne (tgt := 914) hx hb dL_law_864 (by decide) (fun c_864 => ?_) (fun c_864 => ?_)
              · exact absurd (lcm_0.mpr (hB.resolve_left (fun q => c_853 ((fa_le _ _).mpr q)))) c_864
              · skip
                refine lv_aload_n hx hb dL_law_867 rfl (lv_at hl 2 rfl) ?_
                refine lv_aload_n hx hb dL_law_868 rfl (lv_at hl 1 rfl) ?_
                refine lv_iload hx hb dL_law_869 (lv_at hl 0 rfl) ?_
                refine lv_iload_n hx hb dL_law_871 rfl (lv_at hl 4 rfl) ?_
                refine b_ci0 (b_runSX (E := fun _ => .inl (cI, 0, .inl (fun _ => 0))) B hT hX hXs hbl hbA hS (As := [.ref b, .int (nI (2 + 3 * P9 + 5 * (nx + 1))), .int (nI G9)]) (rest := [.ref (ad 0), .int 1]) (fun sz => ow_pick (ad := ad) (2 + 3 * P9 + 5 * (nx + 1)) G9 (by omega) (by omega) (by omega) hL sz) (cwL_123 B.2.2.2.2.1 ⟨Nat.le_of_ble_eq_true rfl, Nat.le_of_ble_eq_true rfl⟩) rfl hl.1 (Nat.le_of_ble_eq_true rfl) dL_law_872 ⟨by show _ ≤ 600390; omega, by show _ ≤ 7288600; omega⟩) hW hS (fun r_872 H locs hp hW hS => ?_)
                obtain ⟨_, j872, hj872, hr_⟩ := hp
                subst hr_
                refine lv_aload_n hx hb dL_law_875 rfl (lv_at hl 1 rfl) ?_
                refine lv_iload hx hb dL_law_876 (lv_at hl 0 rfl) ?_
                refine lv_iconst (v := 1) hx hb dL_law_878 (by decide) ?_
                refine lv_iadd hx hb dL_law_879 ?_
                refine b_top (y := nI (2 + 3 * P9 + 5 * (nx + 1) + 1)) (nI_add _ 1) ?_
                refine lv_sipush (v := (nI 360)) hx hb dL_law_880 (by decide) ?_
                refine b_ci0 (b_runSX (E := fun _ => .inl (cI, 0, .inl (fun _ => 0))) B hT hX hXs hbl hbA hS (As := [.ref b, .int (nI (2 + 3 * P9 + 5 * (nx + 1) + 1)), .int (nI 360)]) (rest := [.int (nI j872), .ref (ad 0), .int 1]) (fun sz => ow_pick (ad := ad) (2 + 3 * P9 + 5 * (nx + 1) + 1) 360 (by omega) (by omega) (by omega) hL sz) (cwL_123 B.2.2.2.2.1 ⟨Nat.le_of_ble_eq_true rfl, Nat.le_of_ble_eq_true rfl⟩) rfl hl.1 (Nat.le_of_ble_eq_true rfl) dL_law_883 ⟨by show _ ≤ 600390; omega, by show _ ≤ 7288600; omega⟩) hW hS (fun r_883 H locs hp hW hS => ?_)
                obtain ⟨_, j883, hj883, hr_⟩ := hp
                subst hr_
                refine y_ci (b_runSN B hT hX hN hW hS (As := [.ref (ad 0), .int (nI j872), .int (nI j883)]) (rest := [.int 1]) (fun sz => ow_isDay hlf hI hty j872 j883 hC hj872 hj883 sz) (cwL_178 B.2.2.2.2.1 ⟨Nat.le_of_ble_eq_true rfl, Nat.le_of_ble_eq_true rfl⟩) rfl hl.1 (Nat.le_of_ble_eq_true rfl) dL_law_886 ⟨by show _ ≤ 600390; omega, by show _ ≤ 7288600; omega⟩) hI hW hS (fun k h => h) (fun _ _ => rfl) (fun E1 => E1) (fun _ _ _ => rfl) (fun E1 j hj hno => absurd rfl (hno j hj)) (fun r_886 E H locs hp hW hS => ?_)
                obtain ⟨hr_, hC⟩ := hp
                subst hr_
                refine lv_if_eq (tgt := 914) hx hb dL_law_889 (by decide) (fun c_889 => ?_) (fun c_889 => ?_)
                · exact absurd c_889 (by decide)
                · skip
                  refine lv_iload hx hb dL_law_892 (lv_at hl 6 rfl) ?_
                  refine lv_bipush (v := 10) hx hb dL_law_894 (by decide) ?_
                  refine lv_irem hx hb dL_law_896 (by decide) ?_
                  refine b_top (y := nI (nx % 10)) (r10 q182) ?_
                  refine lv_bipush (v := (nI 9)) hx hb dL_law_897 (by decide) ?_
                  refine lv_icmp_lt (tgt := 910) hx hb dL_law_899 (by decide) (fun c_899 => ?_) (fun c_899 => ?_)
                  · skip
                    refine lv_iconst (v := 1) hx hb dL_law_910 (by decide) ?_
                    refine lv_goto (tgt := 915) hx hb dL_law_911 (by decide) ?_
                    refine lv_iand hx hb dL_law_915 ?_
                    refine b_top (y := 1) (by decide) ?_
                    refine lv_istore (lv' := [(4, .int 1), (5, .int (nI (2 + 3 * P9 + 5 * (nx + 1)))), (0, .ref b), (1, .ref (ad 0)), (2, .int (nI P9)), (3, .int (nI G9)), (6, .int (nI nx)), (7, .long bef), (15, .int told)]) hx hb dL_law_916 hl (by decide) rfl (fun ls hl => ?_)
                    refine lv_iinc (v := (nI (nx + 1))) (lv' := [(6, .int (nI (nx + 1))), (4, .int 1), (5, .int (nI (2 + 3 * P9 + 5 * (nx + 1)))), (0, .ref b), (1, .ref (ad 0)), (2, .int (nI P9)), (3, .int (nI G9)), (7, .long bef), (15, .int told)]) hx hb dL_law_918 hl (k := 6) rfl (nI_1 nx) (by decide) rfl (fun ls hl => ?_)
                    refine lv_goto (tgt := 178) hx hb dL_law_921 (by decide) ?_
                    refine W.widen (k := 400 + 848 * (nx + 1) + 36944 * ((nx + 1) / 10)) (n := 12000 + 5088 * (nx + 1) + 221664 * ((nx + 1) / 10)) (by omega) (by omega) ?_
                    exact ih (nx + 1) _ _ _ _ _ _ _ _ _ hST (by omega) (by omega) _ _ _ _ hC hW hS (lv_sub hl [3, 4, 5, 6, 1, 2, 0] rfl)
                  · skip
                    have q899 : 9 ≤ nx % 10 := Nat.le_of_not_lt (fun q => c_899 ((nI_ltI (by omega) (by omega)).mpr q))
                    refine lv_aload_n hx hb dL_law_902 rfl (lv_at hl 2 rfl) ?_
                    refine lv_iload_n hx hb dL_law_903 rfl (lv_at hl 4 rfl) ?_
                    refine y_ci (b_runSN B hT hX hN hW hS (As := [.ref (ad 0), .int (nI G9)]) (rest := [.int 1]) (fun sz => ow_areMonths hlf hI hty hC hST.2 sz) (cwL_182 B.2.2.2.2.1 ⟨Nat.le_of_ble_eq_true rfl, Nat.le_of_ble_eq_true rfl⟩) rfl hl.1 (Nat.le_of_ble_eq_true rfl) dL_law_904 ⟨by show _ ≤ 600390; omega, by show _ ≤ 7288600; omega⟩) hI hW hS (fun k h => h) (fun _ _ => rfl) (fun E1 => E1) (fun _ _ _ => rfl) (fun E1 j hj hno => absurd rfl (hno j hj)) (fun r_904 E H locs hp hW hS => ?_)
                    obtain ⟨hr_, hC⟩ := hp
                    subst hr_
                    refine lv_if_eq (tgt := 914) hx hb dL_law_907 (by decide) (fun c_907 => ?_) (fun c_907 => ?_)
                    · exact absurd c_907 (by decide)
                    · skip
                      refine lv_iconst (v := 1) hx hb dL_law_910 (by decide) ?_
                      refine lv_goto (tgt := 915) hx hb dL_law_911 (by decide) ?_
                      refine lv_iand hx hb dL_law_915 ?_
                      refine b_top (y := 1) (by decide) ?_
                      refine lv_istore (lv' := [(4, .int 1), (5, .int (nI (2 + 3 * P9 + 5 * (nx + 1)))), (0, .ref b), (1, .ref (ad 0)), (2, .int (nI P9)), (3, .int (nI G9)), (6, .int (nI nx)), (7, .long bef), (15, .int told)]) hx hb dL_law_916 hl (by decide) rfl (fun ls hl => ?_)
                      refine lv_iinc (v := (nI (nx + 1))) (lv' := [(6, .int (nI (nx + 1))), (4, .int 1), (5, .int (nI (2 + 3 * P9 + 5 * (nx + 1)))), (0, .ref b), (1, .ref (ad 0)), (2, .int (nI P9)), (3, .int (nI G9)), (7, .long bef), (15, .int told)]) hx hb dL_law_918 hl (k := 6) rfl (nI_1 nx) (by decide) rfl (fun ls hl => ?_)
                      refine lv_goto (tgt := 178) hx hb dL_law_921 (by decide) ?_
                      refine W.widen (k := 400 + 848 * (nx + 1) + 36944 * ((nx + 1) / 10)) (n := 12000 + 5088 * (nx + 1) + 221664 * ((nx + 1) / 10)) (by omega) (by omega) ?_
                      exact ih (nx + 1) _ _ _ _ _ _ _ _ _ hST (by omega) (by omega) _ _ _ _ hC hW hS (lv_sub hl [3, 4, 5, 6, 1, 2, 0] rfl)
          have L_295 : ∀ (_u : Nat) (jp jh jd : Nat), (hjp : jp ≤ P9) → (hjh : jh ≤ G9) → (hjd : jd ≤ 360) → ∀ (E : Nat → va_E) (H : Heap) (locs : List Loc) (ls : Array Slot), CW cI cI cH cP cT ad V T ag P9 G9 rN nf pn sp sk py pd E → hH D ad 109 E H → va_S (cA ad 109 s.heap.size) s.heap H locs → lv_has ls 20 [(0, .ref b), (1, .ref (ad 0)), (2, .int (nI P9)), (3, .int (nI G9)), (4, .int 1), (5, .int (nI (2 + 3 * P9 + 5 * nx))), (6, .int (nI nx)), (7, .long bef), (9, .int (nI j202)), (10, .int (nI jp)), (11, .int (nI jh)), (12, .int (nI jd))] → W p l e room_1 s m args below meth c H locs (400 + 848 * nx + 36944 * (nx / 10) + 64) (12000 + 5088 * nx + 221664 * (nx / 10) + 384) Q (F0 m 295 ls []) := by
            intro _u jp jh jd hjp hjh hjd E H locs ls hC hW hS hl
            refine lv_aload_n hx hb dL_law_295 rfl (lv_at hl 0 rfl) ?_
            refine lv_iload hx hb dL_law_296 (lv_at hl 5 rfl) ?_
            refine lv_iconst (v := 4) hx hb dL_law_298 (by decide) ?_
            refine lv_iadd hx hb dL_law_299 ?_
            refine b_top (y := nI (2 + 3 * P9 + 5 * nx + 4)) (nI_add _ 4) ?_
            refine lv_sipush (v := (nI 1000)) hx hb dL_law_300 (by decide) ?_
            refine b_ci0 (b_runSX (E := fun _ => .inl (cI, 0, .inl (fun _ => 0))) B hT hX hXs hbl hbA hS (As := [.ref b, .int (nI (2 + 3 * P9 + 5 * nx + 4)), .int (nI 1000)]) (rest := []) (fun sz => ow_pick (ad := ad) (2 + 3 * P9 + 5 * nx + 4) 1000 (by omega) (by omega) (by omega) hL sz) (cwL_123 B.2.2.2.2.1 ⟨Nat.le_of_ble_eq_true rfl, Nat.le_of_ble_eq_true rfl⟩) rfl hl.1 (Nat.le_of_ble_eq_true rfl) dL_law_303 ⟨by show _ ≤ 600390; omega, by show _ ≤ 7288600; omega⟩) hW hS (fun r_303 H locs hp hW hS => ?_)
            obtain ⟨_, j303, hj303, hr_⟩ := hp
            subst hr_
            refine lv_istore (lv' := [(13, .int (nI j303)), (0, .ref b), (1, .ref (ad 0)), (2, .int (nI P9)), (3, .int (nI G9)), (4, .int 1), (5, .int (nI (2 + 3 * P9 + 5 * nx))), (6, .int (nI nx)), (7, .long bef), (9, .int (nI j202)), (10, .int (nI jp)), (11, .int (nI jh)), (12, .int (nI jd))]) hx hb dL_law_306 hl (by decide) rfl (fun ls hl => ?_)
            refine lv_aload_n hx hb dL_law_308 rfl (lv_at hl 2 rfl) ?_
            refine y_ci (b_runV B hT hX hW hS (As := []) (rest := []) (fun sz => mw_facts hI hty hC sz) (cwL_140 B.2.2.2.2.1 ⟨Nat.le_of_ble_eq_true rfl, Nat.le_of_ble_eq_true rfl⟩) (cw_recv B hW hC) rfl hl.1 (Nat.le_of_ble_eq_true rfl) dL_law_309 ⟨by show _ ≤ 600390; omega, by show _ ≤ 7288600; omega⟩) hI hW hS (fun k h => h) (fun _ _ => rfl) (fun E1 => E1) (fun _ _ _ => rfl) (fun E1 j hj hno => absurd rfl (hno j hj)) (fun r_309 E H locs hp hW hS => ?_)
            obtain ⟨hr_, hC⟩ := hp
            rw [hr_]
            refine lv_istore (lv' := [(14, .int nf), (13, .int (nI j303)), (0, .ref b), (1, .ref (ad 0)), (2, .int (nI P9)), (3, .int (nI G9)), (4, .int 1), (5, .int (nI (2 + 3 * P9 + 5 * nx))), (6, .int (nI nx)), (7, .long bef), (9, .int (nI j202)), (10, .int (nI jp)), (11, .int (nI jh)), (12, .int (nI jd))]) hx hb dL_law_312 hl (by decide) rfl (fun ls hl => ?_)
            refine lv_iconst (v := 0) hx hb dL_law_314 (by decide) ?_
            refine lv_istore (lv' := [(15, .int 0), (14, .int nf), (13, .int (nI j303)), (0, .ref b), (1, .ref (ad 0)), (2, .int (nI P9)), (3, .int (nI G9)), (4, .int 1), (5, .int (nI (2 + 3 * P9 + 5 * nx))), (6, .int (nI nx)), (7, .long bef), (9, .int (nI j202)), (10, .int (nI jp)), (11, .int (nI jh)), (12, .int (nI jd))]) hx hb dL_law_315 hl (by decide) rfl (fun ls hl => ?_)
            refine lv_iload hx hb dL_law_317 (lv_at hl 11 rfl) ?_
            refine lv_iconst (v := 4) hx hb dL_law_319 (by decide) ?_
            refine lv_icmp_ge (tgt := 396) hx hb dL_law_320 (by decide) (fun c_320 => ?_) (fun c_320 => ?_)
            · skip
              refine lv_iload hx hb dL_law_396 (lv_at hl 11 rfl) ?_
              refine lv_bipush (v := 7) hx hb dL_law_398 (by decide) ?_
              refine lv_icmp_ge (tgt := 435) hx hb dL_law_400 (by decide) (fun c_400 => ?_) (fun c_400 => ?_)
              · skip
                refine lv_iload hx hb dL_law_435 (lv_at hl 11 rfl) ?_
                refine lv_bipush (v := 9) hx hb dL_law_437 (by decide) ?_
                refine lv_icmp_ge (tgt := 474) hx hb dL_law_439 (by decide) (fun c_439 => ?_) (fun c_439 => ?_)
                · skip
                  refine lv_iload hx hb dL_law_474 (lv_at hl 11 rfl) ?_
                  refine lv_bipush (v := 12) hx hb dL_law_476 (by decide) ?_
                  refine lv_icmp_ge (tgt := 632) hx hb dL_law_478 (by decide) (fun c_478 => ?_) (fun c_478 => ?_)
                  · skip
                    refine lv_iload hx hb dL_law_632 (lv_at hl 11 rfl) ?_
                    refine lv_bipush (v := 12) hx hb dL_law_634 (by decide) ?_
                    refine lv_icmp_ne (tgt := 687) hx hb dL_law_636 (by decide) (fun c_636 => ?_) (fun c_636 => ?_)
                    · skip
                      refine lv_iload hx hb dL_law_687 (lv_at hl 11 rfl) ?_
                      refine lv_bipush (v := 13) hx hb dL_law_689 (by decide) ?_
                      refine lv_icmp_ne (tgt := 730) hx hb dL_law_691 (by decide) (fun c_691 => ?_) (fun c_691 => ?_)
                      · skip
                        refine lv_iload hx hb dL_law_730 (lv_at hl 11 rfl) ?_
                        refine lv_bipush (v := 14) hx hb dL_law_732 (by decide) ?_
                        refine lv_icmp_ne (tgt := 773) hx hb dL_law_734 (by decide) (fun c_734 => ?_) (fun c_734 => ?_)
                        · skip
                          exact lk_pay (kx := 2 + 3 * P9 + 5 * nx) (nx := nx) (C0 := 400 + 848 * nx + 36944 * (nx / 10) + 464) (S0 := 12000 + 5088 * nx + 221664 * (nx / 10) + 2784) C hjp hjh hjd hj303 hST hbf (by omega) (by omega) (by omega) (by omega) (L_845 0) hC hW hS (lv_sub hl [3, 4, 5, 6, 7, 8, 9, 10, 12, 13, 14, 2, 1, 0] rfl)
                        · skip
                          exact lk_tbrule (kx := 2 + 3 * P9 + 5 * nx) (nx := nx) (C0 := 400 + 848 * nx + 36944 * (nx / 10) + 464) (S0 := 12000 + 5088 * nx + 221664 * (nx / 10) + 2784) C hjp hjh hjd hj303 hST hbf (by omega) (by omega) (by omega) (by omega) (L_845 0) hC hW hS (lv_sub hl [3, 4, 5, 6, 7, 8, 9, 10, 12, 13, 14, 2, 1, 0] rfl)
                      · skip
                        exact lk_tbincome (kx := 2 + 3 * P9 + 5 * nx) (nx := nx) (C0 := 400 + 848 * nx + 36944 * (nx / 10) + 464) (S0 := 12000 + 5088 * nx + 221664 * (nx / 10) + 2784) C hjp hjh hjd hj303 hST hbf (by omega) (by omega) (by omega) (by omega) (L_845 0) hC hW hS (lv_sub hl [3, 4, 5, 6, 7, 8, 9, 10, 12, 13, 14, 2, 1, 0] rfl)
                    · skip
                      exact lk_tbmove (kx := 2 + 3 * P9 + 5 * nx) (nx := nx) (C0 := 400 + 848 * nx + 36944 * (nx / 10) + 464) (S0 := 12000 + 5088 * nx + 221664 * (nx / 10) + 2784) C hjp hjh hjd hj303 hST hbf (by omega) (by omega) (by omega) (by omega) (L_845 0) hC hW hS (lv_sub hl [3, 4, 5, 6, 7, 8, 9, 10, 12, 13, 14, 2, 1, 0] rfl)
                  · skip
                    exact lk_rule (kx := 2 + 3 * P9 + 5 * nx) (nx := nx) (C0 := 400 + 848 * nx + 36944 * (nx / 10) + 464) (S0 := 12000 + 5088 * nx + 221664 * (nx / 10) + 2784) C hjp hjh hjd hj303 hST hbf (by omega) (by omega) (by omega) (by omega) (L_845 0) hC hW hS (lv_sub hl [3, 4, 5, 6, 7, 8, 9, 10, 12, 13, 14, 2, 1, 0] rfl)
                · skip
                  exact lk_rent (kx := 2 + 3 * P9 + 5 * nx) (nx := nx) (C0 := 400 + 848 * nx + 36944 * (nx / 10) + 464) (S0 := 12000 + 5088 * nx + 221664 * (nx / 10) + 2784) C hjp hjh hjd hj303 hST hbf (by omega) (by omega) (by omega) (by omega) (L_845 0) hC hW hS (lv_sub hl [3, 4, 5, 6, 7, 8, 9, 10, 12, 13, 14, 2, 1, 0] rfl)
              · skip
                exact lk_income (kx := 2 + 3 * P9 + 5 * nx) (nx := nx) (C0 := 400 + 848 * nx + 36944 * (nx / 10) + 464) (S0 := 12000 + 5088 * nx + 221664 * (nx / 10) + 2784) C hjp hjh hjd hj303 hST hbf (by omega) (by omega) (by omega) (by omega) (L_845 0) hC hW hS (lv_sub hl [3, 4, 5, 6, 7, 8, 9, 10, 12, 13, 14, 2, 1, 0] rfl)
            · skip
              exact lk_move (kx := 2 + 3 * P9 + 5 * nx) (nx := nx) (C0 := 400 + 848 * nx + 36944 * (nx / 10) + 464) (S0 := 12000 + 5088 * nx + 221664 * (nx / 10) + 2784) C hjp hjh hjd hj303 hST hbf (by omega) (by omega) (by omega) (by omega) (L_845 0) hC hW hS (lv_sub hl [3, 4, 5, 6, 7, 8, 9, 10, 12, 13, 14, 2, 1, 0] rfl)
          have L_263 : ∀ (_u : Nat) (jp jh : Nat), (hjp : jp ≤ P9) → (hjh : jh ≤ G9) → ∀ (E : Nat → va_E) (H : Heap) (locs : List Loc) (ls : Array Slot), CW cI cI cH cP cT ad V T ag P9 G9 rN nf pn sp sk py pd E → hH D ad 109 E H → va_S (cA ad 109 s.heap.size) s.heap H locs → lv_has ls 20 [(0, .ref b), (1, .ref (ad 0)), (2, .int (nI P9)), (3, .int (nI G9)), (4, .int 1), (5, .int (nI (2 + 3 * P9 + 5 * nx))), (6, .int (nI nx)), (7, .long bef), (9, .int (nI j202)), (10, .int (nI jp)), (11, .int (nI jh))] → W p l e room_1 s m args below meth c H locs (400 + 848 * nx + 36944 * (nx / 10) + 64) (12000 + 5088 * nx + 221664 * (nx / 10) + 384) Q (F0 m 263 ls []) := by
            intro _u jp jh hjp hjh E H locs ls hC hW hS hl
            refine lv_aload_n hx hb dL_law_263 rfl (lv_at hl 0 rfl) ?_
            refine lv_iload hx hb dL_law_264 (lv_at hl 5 rfl) ?_
            refine lv_iconst (v := 3) hx hb dL_law_266 (by decide) ?_
            refine lv_iadd hx hb dL_law_267 ?_
            refine b_top (y := nI (2 + 3 * P9 + 5 * nx + 3)) (nI_add _ 3) ?_
            refine lv_bipush (v := (nI 40)) hx hb dL_law_268 (by decide) ?_
            refine b_ci0 (b_runSX (E := fun _ => .inl (cI, 0, .inl (fun _ => 0))) B hT hX hXs hbl hbA hS (As := [.ref b, .int (nI (2 + 3 * P9 + 5 * nx + 3)), .int (nI 40)]) (rest := []) (fun sz => ow_pick (ad := ad) (2 + 3 * P9 + 5 * nx + 3) 40 (by omega) (by omega) (by omega) hL sz) (cwL_123 B.2.2.2.2.1 ⟨Nat.le_of_ble_eq_true rfl, Nat.le_of_ble_eq_true rfl⟩) rfl hl.1 (Nat.le_of_ble_eq_true rfl) dL_law_270 ⟨by show _ ≤ 600390; omega, by show _ ≤ 7288600; omega⟩) hW hS (fun r_270 H locs hp hW hS => ?_)
            obtain ⟨_, j270, hj270, hr_⟩ := hp
            subst hr_
            refine lv_if_ne (tgt := 282) hx hb dL_law_273 (by decide) (fun c_273 => ?_) (fun c_273 => ?_)
            · skip
              refine lv_aload_n hx hb dL_law_282 rfl (lv_at hl 0 rfl) ?_
              refine lv_iload hx hb dL_law_283 (lv_at hl 5 rfl) ?_
              refine lv_iconst (v := 3) hx hb dL_law_285 (by decide) ?_
              refine lv_iadd hx hb dL_law_286 ?_
              refine b_top (y := nI (2 + 3 * P9 + 5 * nx + 3)) (nI_add _ 3) ?_
              refine lv_sipush (v := (nI 360)) hx hb dL_law_287 (by decide) ?_
              refine b_ci0 (b_runSX (E := fun _ => .inl (cI, 0, .inl (fun _ => 0))) B hT hX hXs hbl hbA hS (As := [.ref b, .int (nI (2 + 3 * P9 + 5 * nx + 3)), .int (nI 360)]) (rest := []) (fun sz => ow_pick (ad := ad) (2 + 3 * P9 + 5 * nx + 3) 360 (by omega) (by omega) (by omega) hL sz) (cwL_123 B.2.2.2.2.1 ⟨Nat.le_of_ble_eq_true rfl, Nat.le_of_ble_eq_true rfl⟩) rfl hl.1 (Nat.le_of_ble_eq_true rfl) dL_law_290 ⟨by show _ ≤ 600390; omega, by show _ ≤ 7288600; omega⟩) hW hS (fun r_290 H locs hp hW hS => ?_)
              obtain ⟨_, j290, hj290, hr_⟩ := hp
              subst hr_
              refine lv_istore (lv' := [(12, .int (nI j290)), (0, .ref b), (1, .ref (ad 0)), (2, .int (nI P9)), (3, .int (nI G9)), (4, .int 1), (5, .int (nI (2 + 3 * P9 + 5 * nx))), (6, .int (nI nx)), (7, .long bef), (9, .int (nI j202)), (10, .int (nI jp)), (11, .int (nI jh))]) hx hb dL_law_293 hl (by decide) rfl (fun ls hl => ?_)
              exact L_295 0 jp jh j290 hjp hjh (by omega) _ _ _ _ hC hW hS (lv_sub hl [1, 2, 3, 4, 5, 6, 7, 8, 9, 10, 11, 0] rfl)
            · skip
              refine lv_sipush (v := (nI 360)) hx hb dL_law_276 (by decide) ?_
              refine lv_goto (tgt := 293) hx hb dL_law_279 (by decide) ?_
              refine lv_istore (lv' := [(12, .int (nI 360)), (0, .ref b), (1, .ref (ad 0)), (2, .int (nI P9)), (3, .int (nI G9)), (4, .int 1), (5, .int (nI (2 + 3 * P9 + 5 * nx))), (6, .int (nI nx)), (7, .long bef), (9, .int (nI j202)), (10, .int (nI jp)), (11, .int (nI jh))]) hx hb dL_law_293 hl (by decide) rfl (fun ls hl => ?_)
              exact L_295 0 jp jh 360 hjp hjh (by omega) _ _ _ _ hC hW hS (lv_sub hl [1, 2, 3, 4, 5, 6, 7, 8, 9, 10, 11, 0] rfl)
          have L_235 : ∀ (_u : Nat) (jp : Nat), (hjp : jp ≤ P9) → ∀ (E : Nat → va_E) (H : Heap) (locs : List Loc) (ls : Array Slot), CW cI cI cH cP cT ad V T ag P9 G9 rN nf pn sp sk py pd E → hH D ad 109 E H → va_S (cA ad 109 s.heap.size) s.heap H locs → lv_has ls 20 [(0, .ref b), (1, .ref (ad 0)), (2, .int (nI P9)), (3, .int (nI G9)), (4, .int 1), (5, .int (nI (2 + 3 * P9 + 5 * nx))), (6, .int (nI nx)), (7, .long bef), (9, .int (nI j202)), (10, .int (nI jp))] → W p l e room_1 s m args below meth c H locs (400 + 848 * nx + 36944 * (nx / 10) + 64) (12000 + 5088 * nx + 221664 * (nx / 10) + 384) Q (F0 m 235 ls []) := by
            intro _u jp hjp E H locs ls hC hW hS hl
            refine lv_aload_n hx hb dL_law_235 rfl (lv_at hl 0 rfl) ?_
            refine lv_iload hx hb dL_law_236 (lv_at hl 5 rfl) ?_
            refine lv_iconst (v := 2) hx hb dL_law_238 (by decide) ?_
            refine lv_iadd hx hb dL_law_239 ?_
            refine b_top (y := nI (2 + 3 * P9 + 5 * nx + 2)) (nI_add _ 2) ?_
            refine lv_bipush (v := (nI 30)) hx hb dL_law_240 (by decide) ?_
            refine b_ci0 (b_runSX (E := fun _ => .inl (cI, 0, .inl (fun _ => 0))) B hT hX hXs hbl hbA hS (As := [.ref b, .int (nI (2 + 3 * P9 + 5 * nx + 2)), .int (nI 30)]) (rest := []) (fun sz => ow_pick (ad := ad) (2 + 3 * P9 + 5 * nx + 2) 30 (by omega) (by omega) (by omega) hL sz) (cwL_123 B.2.2.2.2.1 ⟨Nat.le_of_ble_eq_true rfl, Nat.le_of_ble_eq_true rfl⟩) rfl hl.1 (Nat.le_of_ble_eq_true rfl) dL_law_242 ⟨by show _ ≤ 600390; omega, by show _ ≤ 7288600; omega⟩) hW hS (fun r_242 H locs hp hW hS => ?_)
            obtain ⟨_, j242, hj242, hr_⟩ := hp
            subst hr_
            refine lv_if_ne (tgt := 252) hx hb dL_law_245 (by decide) (fun c_245 => ?_) (fun c_245 => ?_)
            · skip
              refine lv_aload_n hx hb dL_law_252 rfl (lv_at hl 0 rfl) ?_
              refine lv_iload hx hb dL_law_253 (lv_at hl 5 rfl) ?_
              refine lv_iconst (v := 2) hx hb dL_law_255 (by decide) ?_
              refine lv_iadd hx hb dL_law_256 ?_
              refine b_top (y := nI (2 + 3 * P9 + 5 * nx + 2)) (nI_add _ 2) ?_
              refine lv_iload_n hx hb dL_law_257 rfl (lv_at hl 3 rfl) ?_
              refine b_ci0 (b_runSX (E := fun _ => .inl (cI, 0, .inl (fun _ => 0))) B hT hX hXs hbl hbA hS (As := [.ref b, .int (nI (2 + 3 * P9 + 5 * nx + 2)), .int (nI G9)]) (rest := []) (fun sz => ow_pick (ad := ad) (2 + 3 * P9 + 5 * nx + 2) G9 (by omega) (by omega) (by omega) hL sz) (cwL_123 B.2.2.2.2.1 ⟨Nat.le_of_ble_eq_true rfl, Nat.le_of_ble_eq_true rfl⟩) rfl hl.1 (Nat.le_of_ble_eq_true rfl) dL_law_258 ⟨by show _ ≤ 600390; omega, by show _ ≤ 7288600; omega⟩) hW hS (fun r_258 H locs hp hW hS => ?_)
              obtain ⟨_, j258, hj258, hr_⟩ := hp
              subst hr_
              refine lv_istore (lv' := [(11, .int (nI j258)), (0, .ref b), (1, .ref (ad 0)), (2, .int (nI P9)), (3, .int (nI G9)), (4, .int 1), (5, .int (nI (2 + 3 * P9 + 5 * nx))), (6, .int (nI nx)), (7, .long bef), (9, .int (nI j202)), (10, .int (nI jp))]) hx hb dL_law_261 hl (by decide) rfl (fun ls hl => ?_)
              exact L_263 0 jp j258 hjp (by omega) _ _ _ _ hC hW hS (lv_sub hl [1, 2, 3, 4, 5, 6, 7, 8, 9, 10, 0] rfl)
            · skip
              refine lv_iload_n hx hb dL_law_248 rfl (lv_at hl 3 rfl) ?_
              refine lv_goto (tgt := 261) hx hb dL_law_249 (by decide) ?_
              refine lv_istore (lv' := [(11, .int (nI G9)), (0, .ref b), (1, .ref (ad 0)), (2, .int (nI P9)), (3, .int (nI G9)), (4, .int 1), (5, .int (nI (2 + 3 * P9 + 5 * nx))), (6, .int (nI nx)), (7, .long bef), (9, .int (nI j202)), (10, .int (nI jp))]) hx hb dL_law_261 hl (by decide) rfl (fun ls hl => ?_)
              exact L_263 0 jp G9 hjp (by omega) _ _ _ _ hC hW hS (lv_sub hl [1, 2, 3, 4, 5, 6, 7, 8, 9, 10, 0] rfl)
          refine lv_aload_n hx hb dL_law_207 rfl (lv_at hl 2 rfl) ?_
          refine lv_iload hx hb dL_law_208 (lv_at hl 7 rfl) ?_
          refine lv_iconst (v := 1) hx hb dL_law_210 (by decide) ?_
          refine lv_iadd hx hb dL_law_211 ?_
          refine b_top (y := nI (2 + 3 * P9 + 5 * nx + 1)) (nI_add _ 1) ?_
          refine lv_bipush (v := (nI 30)) hx hb dL_law_212 (by decide) ?_
          refine b_ci0 (b_runSX (E := fun _ => .inl (cI, 0, .inl (fun _ => 0))) B hT hX hXs hbl hbA hS (As := [.ref b, .int (nI (2 + 3 * P9 + 5 * nx + 1)), .int (nI 30)]) (rest := []) (fun sz => ow_pick (ad := ad) (2 + 3 * P9 + 5 * nx + 1) 30 (by omega) (by omega) (by omega) hL sz) (cwL_123 B.2.2.2.2.1 ⟨Nat.le_of_ble_eq_true rfl, Nat.le_of_ble_eq_true rfl⟩) rfl hl.1 (Nat.le_of_ble_eq_true rfl) dL_law_214 ⟨by show _ ≤ 600390; omega, by show _ ≤ 7288600; omega⟩) hW hS (fun r_214 H locs hp hW hS => ?_)
          obtain ⟨_, j214, hj214, hr_⟩ := hp
          subst hr_
          refine lv_if_ne (tgt := 224) hx hb dL_law_217 (by decide) (fun c_217 => ?_) (fun c_217 => ?_)
          · skip
            refine lv_aload_n hx hb dL_law_224 rfl (lv_at hl 2 rfl) ?_
            refine lv_iload hx hb dL_law_225 (lv_at hl 7 rfl) ?_
            refine lv_iconst (v := 1) hx hb dL_law_227 (by decide) ?_
            refine lv_iadd hx hb dL_law_228 ?_
            refine b_top (y := nI (2 + 3 * P9 + 5 * nx + 1)) (nI_add _ 1) ?_
            refine lv_iload_n hx hb dL_law_229 rfl (lv_at hl 4 rfl) ?_
            refine b_ci0 (b_runSX (E := fun _ => .inl (cI, 0, .inl (fun _ => 0))) B hT hX hXs hbl hbA hS (As := [.ref b, .int (nI (2 + 3 * P9 + 5 * nx + 1)), .int (nI P9)]) (rest := []) (fun sz => ow_pick (ad := ad) (2 + 3 * P9 + 5 * nx + 1) P9 (by omega) (by omega) (by omega) hL sz) (cwL_123 B.2.2.2.2.1 ⟨Nat.le_of_ble_eq_true rfl, Nat.le_of_ble_eq_true rfl⟩) rfl hl.1 (Nat.le_of_ble_eq_true rfl) dL_law_230 ⟨by show _ ≤ 600390; omega, by show _ ≤ 7288600; omega⟩) hW hS (fun r_230 H locs hp hW hS => ?_)
            obtain ⟨_, j230, hj230, hr_⟩ := hp
            subst hr_
            refine lv_istore (lv' := [(10, .int (nI j230)), (9, .int (nI j202)), (7, .long bef), (0, .ref b), (1, .ref (ad 0)), (2, .int (nI P9)), (3, .int (nI G9)), (4, .int 1), (5, .int (nI (2 + 3 * P9 + 5 * nx))), (6, .int (nI nx))]) hx hb dL_law_233 hl (by decide) rfl (fun ls hl => ?_)
            exact L_235 0 j230 (by omega) _ _ _ _ hC hW hS (lv_sub hl [3, 4, 5, 6, 7, 8, 9, 2, 1, 0] rfl)
          · skip
            refine lv_iload_n hx hb dL_law_220 rfl (lv_at hl 4 rfl) ?_
            refine lv_goto (tgt := 233) hx hb dL_law_221 (by decide) ?_
            refine lv_istore (lv' := [(10, .int (nI P9)), (9, .int (nI j202)), (7, .long bef), (0, .ref b), (1, .ref (ad 0)), (2, .int (nI P9)), (3, .int (nI G9)), (4, .int 1), (5, .int (nI (2 + 3 * P9 + 5 * nx))), (6, .int (nI nx))]) hx hb dL_law_233 hl (by decide) rfl (fun ls hl => ?_)
            exact L_235 0 P9 (by omega) _ _ _ _ hC hW hS (lv_sub hl [3, 4, 5, 6, 7, 8, 9, 2, 1, 0] rfl)
  refine W.widen (k := 400 + 848 * 0 + 36944 * (0 / 10)) (n := 12000 + 5088 * 0 + 221664 * (0 / 10)) (by omega) (by omega) ?_
  exact L_178 61 0 _ _ _ _ _ _ _ _ _ hST (by omega) (by omega) _ _ _ _ hC hW hS (lv_sub hl [0, 1, 2, 3, 4, 5, 6] rfl)
