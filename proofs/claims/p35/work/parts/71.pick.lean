theorem cwL_8 {R : Room} {s : State} {args : Array Value} {rm : Room} (hts : ∀ w ∈ wsL_law, w.before args s = true) (hR : rm.frames + 1 ≤ R.frames ∧ 8 + (2 + 11) + rm.locals ≤ R.locals) : CWS R s args RL 8 yL_cell cL_cell 2 (some .int) rm rm.cells rm.slots 2 :=
  va_cwS 2 hts (gi_S (r4_in _ (List.mem_of_getElem? (i := 22) rfl)) (r4_in _ (List.mem_of_getElem? (i := 23) rfl)) (r4_in _ (List.mem_of_getElem? (i := 20) rfl)) (r5_in _ (List.mem_of_getElem? (i := 0) rfl))) rfl rfl rfl (by decide +kernel) hR
set_option maxHeartbeats 4000000 in
set_option maxRecDepth 100000 in
theorem ow_cell {l : Launch} {D : va_G} {tys : List (ClassId × FieldType)} {ad : Nat → Nat} {E : Nat → va_E} {b L : Nat} {xs : Nat → Int32} (k : Nat) (hk : k < 100000) (hL : L ≤ 260) (sz : Nat) : Met l yL_cell (Cond.code yL_cell cL_cell 2 (some .int) :: wsL_law) (rmk 0 0 0) (va_Pc [.ref b, .int (nI k)] (PXs D tys b L xs ad E sz)) (Qi D ad 0 (fun _ _ => True) (cA ad 0 sz)) 0 0 (cA ad 0 sz) := by
  refine cs_of (own := RL) (Qc := Qi D ad 0 (fun _ _ => True)) rfl (by decide +kernel) (Nat.le_of_ble_eq_true rfl) ?_ sz
  intro p e s m args below meth c ls Q B hT hX hXs hbl hbA hW hr hlk hl hS hQ
  have hx := B.1
  have hb := B.2.1
  have hl : lv_has ls 2 [(0, .ref b), (1, .int (nI k))] := hl
  refine lv_iload_n hx hb dL_cell_0 rfl (lv_at hl 1 rfl) ?_
  refine lv_aload_n hx hb dL_cell_1 rfl (lv_at hl 0 rfl) ?_
  refine va_slen hx hb hXs hbl hbA hS dL_cell_2 ?_
  refine lv_icmp_ge (tgt := 12) hx hb dL_cell_3 (by decide) (fun c_3 => ?_) (fun c_3 => ?_)
  · refine lv_ldc (v := 40503) hx hb B.2.2.2.1 (B.2.2.2.2.1 _ (r5_in _ (List.mem_of_getElem? (i := 1) rfl))) dL_cell_12 ?_
    refine lv_iload_n hx hb dL_cell_14 rfl (lv_at hl 1 rfl) ?_
    refine lv_imul hx hb dL_cell_15 ?_
    exact e_i hQ B hr hlk hS hW dL_cell_16 (Nat.le_refl _) (Nat.le_refl _) trivial
  · have q3 : k < L := Nat.lt_of_not_le (fun q => c_3 ((nI_leI (by omega) (by omega)).mpr q))
    refine lv_aload_n hx hb dL_cell_6 rfl (lv_at hl 0 rfl) ?_
    refine lv_iload_n hx hb dL_cell_7 rfl (lv_at hl 1 rfl) ?_
    refine va_sld hx hb hXs hbl hbA hS (vp_in_nI q3 (by omega)) dL_cell_8 ?_
    refine lv_goto (tgt := 16) hx hb dL_cell_9 (by decide) ?_
    exact e_i hQ B hr hlk hS hW dL_cell_16 (Nat.le_refl _) (Nat.le_refl _) trivial
set_option maxHeartbeats 4000000 in
set_option maxRecDepth 100000 in
theorem ow_pick {l : Launch} {D : va_G} {tys : List (ClassId × FieldType)} {ad : Nat → Nat} {E : Nat → va_E} {b L : Nat} {xs : Nat → Int32} (k n : Nat) (hk : k < 100000) (hn : 0 < n) (hn2 : n < 10000) (hL : L ≤ 260) (sz : Nat) : Met l yL_pick (Cond.code yL_pick cL_pick 3 (some .int) :: wsL_law) (rmk 1 0 0) (va_Pc [.ref b, .int (nI k), .int (nI n)] (PXs D tys b L xs ad E sz)) (Qi D ad 0 (fun r _ => ∃ j, j < n ∧ r = nI j) (cA ad 0 sz)) 0 0 (cA ad 0 sz) := by
  refine cs_of (own := RL) (Qc := Qi D ad 0 (fun r _ => ∃ j, j < n ∧ r = nI j)) rfl (by decide +kernel) (Nat.le_of_ble_eq_true rfl) ?_ sz
  intro p e s m args below meth c ls Q B hT hX hXs hbl hbA hW hr hlk hl hS hQ
  have hx := B.1
  have hb := B.2.1
  have hl : lv_has ls 3 [(0, .ref b), (1, .int (nI k)), (2, .int (nI n))] := hl
  refine lv_aload_n hx hb dL_pick_0 rfl (lv_at hl 0 rfl) ?_
  refine lv_iload_n hx hb dL_pick_1 rfl (lv_at hl 1 rfl) ?_
  refine b_ci0 (b_runSX (E := E) B hT hX hXs hbl hbA hS (As := [.ref b, .int (nI k)]) (rest := []) (fun sz => ow_cell (ad := ad) k hk hL sz) (cwL_8 B.2.2.2.2.1 ⟨Nat.le_of_ble_eq_true rfl, Nat.le_of_ble_eq_true rfl⟩) rfl hl.1 (Nat.le_of_ble_eq_true rfl) dL_pick_2 ⟨Nat.le_of_ble_eq_true rfl, Nat.le_of_ble_eq_true rfl⟩) hW hS (fun r H locs hp hW hS => ?_)
  refine lv_iconst (v := 1) hx hb dL_pick_5 (by decide) ?_
  refine lv_iushr hx hb dL_pick_6 rfl ?_
  refine lv_iload_n hx hb dL_pick_7 rfl (lv_at hl 2 rfl) ?_
  refine lv_irem hx hb dL_pick_8 (fun q => by have := (nI_eq (a := n) (b := 0) (by omega) (by omega)).mp q; omega) ?_
  exact e_i hQ B hr hlk hS hW dL_pick_9 (Nat.le_refl _) (Nat.le_refl _) (pick_n hn (by omega))
