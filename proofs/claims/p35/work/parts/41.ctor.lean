theorem cwX4_22 {R : Room} {s : State} {args : Array Value} {rm : Room} (hts : ∀ w ∈ wsL_law, w.before args s = true) (hR : rm.frames + 1 ≤ R.frames ∧ 8 + (4 + 11) + rm.locals ≤ R.locals) : CWS R s args RX4 22 yJ7_fill_53178 cJ7_fill_53178 4 none rm rm.cells rm.slots 2 :=
  va_cwS 2 hts (gi_S (r3_in _ (List.mem_of_getElem? (i := 4) rfl)) (r3_in _ (List.mem_of_getElem? (i := 5) rfl)) (r3_in _ (List.mem_of_getElem? (i := 6) rfl)) (r3_in _ (List.mem_of_getElem? (i := 7) rfl))) rfl rfl rfl (by decide +kernel) hR
theorem ciX2_11 {R : Room} {s : State} {args : Array Value} {rm : Room} (hts : ∀ w ∈ wsL_law, w.before args s = true) (hR : rm.frames + 1 ≤ R.frames ∧ 8 + (2 + 11) + rm.locals ≤ R.locals) : CallB R s args RX2 11 yX4_init cX4_init 2 none (Cond.code yX4_init cX4_init 2 none :: wsL_law) rm rm.cells rm.slots 1 ∧ yX4_init.name = "<init>" ∧ (Cond.instanceMethod yX4_init).before args s = true :=
  cwI 1 hts (gi_self (r2_in _ (List.mem_of_getElem? (i := 23) rfl))) rfl rfl rfl (hts _ (r2_in _ (List.mem_of_getElem? (i := 7) rfl))) (hts _ (r2_in _ (List.mem_of_getElem? (i := 21) rfl))) (hts _ (r2_in _ (List.mem_of_getElem? (i := 22) rfl))) rfl (by decide +kernel) hR
theorem ciX1_11 {R : Room} {s : State} {args : Array Value} {rm : Room} (hts : ∀ w ∈ wsL_law, w.before args s = true) (hR : rm.frames + 1 ≤ R.frames ∧ 8 + (2 + 11) + rm.locals ≤ R.locals) : CallB R s args RX1 11 yX4_init cX4_init 2 none (Cond.code yX4_init cX4_init 2 none :: wsL_law) rm rm.cells rm.slots 1 ∧ yX4_init.name = "<init>" ∧ (Cond.instanceMethod yX4_init).before args s = true :=
  cwI 1 hts (gi_self (r2_in _ (List.mem_of_getElem? (i := 23) rfl))) rfl rfl rfl (hts _ (r2_in _ (List.mem_of_getElem? (i := 7) rfl))) (hts _ (r3_in _ (List.mem_of_getElem? (i := 15) rfl))) (hts _ (r2_in _ (List.mem_of_getElem? (i := 22) rfl))) rfl (by decide +kernel) hR
def tlP (cI cZ : ClassId) (v : Int32) (ad : Nat → Nat) (E : Nat → va_E) : Prop := E 0 = .inr (4, [.int v, .ref (ad 1), .ref (ad 2)]) ∧ (∃ f : Nat → Int32, (∀ j, j < 360 → f j = v) ∧ E 1 = .inl (cI, 360, .inl f)) ∧ E 2 = .inl (cI, 12, .inl (pkb (fun _ => 0)))
def perP (cI cZ : ClassId) (ad : Nat → Nat) (E : Nat → va_E) : Prop := E 0 = .inr (2, [.int 0, .ref (ad 1), .ref (ad 4)]) ∧ tlP cI cZ (-1) (fun k => ad (1 + k)) (fun k => E (1 + k)) ∧ tlP cI cZ 0 (fun k => ad (4 + k)) (fun k => E (4 + k))
def hhP (cI cZ : ClassId) (ad : Nat → Nat) (E : Nat → va_E) : Prop := E 0 = .inr (1, [.ref (ad 1), .ref (ad 4), .ref (ad 5)]) ∧ tlP cI cZ 0 (fun k => ad (1 + k)) (fun k => E (1 + k)) ∧ E 4 = .inl (cI, 12, .inl (fun _ => 0)) ∧ E 5 = .inl (cI, 12, .inl (fun _ => 0))
theorem tlP.cong {cI cZ : ClassId} {v : Int32} {ad ad2 : Nat → Nat} {E E2 : Nat → va_E} (ha : ∀ k, k < 3 → ad2 k = ad k) (hE : ∀ k, k < 3 → E2 k = E k) (h : tlP cI cZ v ad E) : tlP cI cZ v ad2 E2 := by
  obtain ⟨h1, ⟨f, hf, h2⟩, h3⟩ := h
  exact ⟨by rw [hE 0 (by omega), ha 1 (by omega), ha 2 (by omega)]; exact h1, ⟨f, hf, (hE 1 (by omega)).trans h2⟩, (hE 2 (by omega)).trans h3⟩
theorem perP.cong {cI cZ : ClassId} {ad ad2 : Nat → Nat} {E E2 : Nat → va_E} (ha : ∀ k, k < 7 → ad2 k = ad k) (hE : ∀ k, k < 7 → E2 k = E k) (h : perP cI cZ ad E) : perP cI cZ ad2 E2 := by
  obtain ⟨h1, h2, h3⟩ := h
  exact ⟨by rw [hE 0 (by omega), ha 1 (by omega), ha 4 (by omega)]; exact h1, h2.cong (fun k hk => ha _ (by omega)) (fun k hk => hE _ (by omega)), h3.cong (fun k hk => ha _ (by omega)) (fun k hk => hE _ (by omega))⟩
theorem hhP.cong {cI cZ : ClassId} {ad ad2 : Nat → Nat} {E E2 : Nat → va_E} (ha : ∀ k, k < 6 → ad2 k = ad k) (hE : ∀ k, k < 6 → E2 k = E k) (h : hhP cI cZ ad E) : hhP cI cZ ad2 E2 := by
  obtain ⟨h1, h2, h3, h4⟩ := h
  exact ⟨by rw [hE 0 (by omega), ha 1 (by omega), ha 4 (by omega), ha 5 (by omega)]; exact h1, h2.cong (fun k hk => ha _ (by omega)) (fun k hk => hE _ (by omega)), (hE 4 (by omega)).trans h3, (hE 5 (by omega)).trans h4⟩
set_option maxHeartbeats 4000000 in
set_option maxRecDepth 100000 in
theorem mt_fill {l : Launch} {D : va_G} {tys : List (ClassId × FieldType)} {ad : Nat → Nat} {N : Nat} (hI : aI ad N) {E : Nat → va_E} {cI : ClassId} (k : Nat) (f : Nat → Int32) (v : Int32) (hti : tys[0]? = some (cI, .int)) (hk : k < N) (he : E k = .inl (cI, 360, .inl f)) (sz : Nat) : Met l yJ7_fill_53178 (Cond.code yJ7_fill_53178 cJ7_fill_53178 4 none :: wsL_law) (rmk 0 0 0) (va_Pc [.ref (ad k), .int v] (PC D tys ad N E sz)) (Qv D ad N (fun E1 => ∃ f1 : Nat → Int32, (∀ j, j < 360 → f1 j = v) ∧ E1 = va_up E k (.inl (cI, 360, .inl f1))) (cA ad N sz)) 0 0 (cA ad N sz) := by
  refine cm_of (own := RJ7) (Qc := Qv D ad N (fun E1 => ∃ f1 : Nat → Int32, (∀ j, j < 360 → f1 j = v) ∧ E1 = va_up E k (.inl (cI, 360, .inl f1)))) rfl (by decide +kernel) (Nat.le_of_ble_eq_true rfl) ?_ sz
  intro p e s m args below meth c ls Q B hT hX hW hr hlk hnm hl hS hA hQ
  have hx := B.1
  have hb := B.2.1
  have hl : lv_has ls 4 [(0, .ref (ad k)), (1, .int v)] := hl
  have L_5 : ∀ (n_ : Nat) (i : Nat) (f1 : Nat → Int32), (hi : i ≤ 360) → (hn : 360 < n_ + i) → (hf1 : ∀ j, j < i → f1 j = v) → ∀ (H : Heap) (locs : List Loc) (ls : Array Slot), hH D ad N (va_up E k (.inl (cI, 360, .inl f1))) H → va_S (cA ad N s.heap.size) s.heap H locs → lv_has ls 4 [(0, .ref (ad k)), (1, .int v), (2, .int (nI i)), (3, .int (nI 360))] → W p l e (rmk 0 0 0) s m args below meth c H locs 0 0 Q (F0 m 5 ls []) := by
    intro n_
    induction n_ with
    | zero =>
      intro i f1 hi hn hf1
      omega
    | succ n_ ih =>
      intro i f1 hi hn hf1 H locs ls hW hS hl
      refine lv_iload_n hx hb dJ7_fill_53178_5 rfl (lv_at hl 2 rfl) ?_
      refine lv_iload_n hx hb dJ7_fill_53178_6 rfl (lv_at hl 3 rfl) ?_
      refine lv_icmp_ge (tgt := 20) hx hb dJ7_fill_53178_7 (by decide) (fun c_7 => ?_) (fun c_7 => ?_)
      · skip
        exact e_v hQ B hr hlk hS hW dJ7_fill_53178_20 (Nat.le_of_ble_eq_true rfl) (Nat.le_of_ble_eq_true rfl) (⟨f1, fun j hj => hf1 j (by have := (nI_leI (by omega) (by omega)).mp c_7; omega), rfl⟩)
      · skip
        have q7 : i < 360 := Nat.lt_of_not_le (fun q => c_7 ((nI_leI (by omega) (by omega)).mpr q))
        refine lv_aload_n hx hb dJ7_fill_53178_10 rfl (lv_at hl 0 rfl) ?_
        refine lv_iload_n hx hb dJ7_fill_53178_11 rfl (lv_at hl 2 rfl) ?_
        refine lv_iload_n hx hb dJ7_fill_53178_12 rfl (lv_at hl 1 rfl) ?_
        refine b_iast B hI hA hW hS hti (j := i) hk (va_up_self _ _ _) (vp_in_nI q7 (Nat.le_of_ble_eq_true rfl)) (nI_clamp (by omega)) dJ7_fill_53178_13 (fun H locs hW hS => ?_)
        have hW := hW.eq (E' := va_up E k (.inl (cI, 360, .inl (upd f1 i v)))) (bx_uu _ _ _ _)
        refine lv_iinc (v := (nI (i + 1))) (lv' := [(2, .int (nI (i + 1))), (0, .ref (ad k)), (1, .int v), (3, .int (nI 360))]) hx hb dJ7_fill_53178_14 hl (k := 2) rfl (nI_1 i) (by decide) rfl (fun ls hl => ?_)
        refine lv_goto (tgt := 5) hx hb dJ7_fill_53178_17 (by decide) ?_
        exact ih (i + 1) (upd f1 i v) (by omega) (by omega) (fun j hj => by by_cases hji : j = i; exact (by rw [hji]; exact pk_us); exact (by rw [pk_un hji]; exact hf1 j (by omega))) _ _ _ hW hS (lv_sub hl [1, 2, 0, 3] rfl)
  refine lv_iconst (v := (nI 0)) hx hb dJ7_fill_53178_0 (by decide) ?_
  refine lv_istore_n (lv' := [(2, .int (nI 0)), (0, .ref (ad k)), (1, .int v)]) hx hb dJ7_fill_53178_1 rfl hl (by decide) rfl (fun ls hl => ?_)
  refine lv_aload_n hx hb dJ7_fill_53178_2 rfl (lv_at hl 1 rfl) ?_
  refine b_alen B hW 0 hti hk he (v := nI 360) rfl dJ7_fill_53178_3 ?_
  refine lv_istore_n (lv' := [(3, .int (nI 360)), (2, .int (nI 0)), (0, .ref (ad k)), (1, .int v)]) hx hb dJ7_fill_53178_4 rfl hl (by decide) rfl (fun ls hl => ?_)
  exact L_5 361 0 f (by omega) (by omega) (fun j hj => absurd hj (Nat.not_lt_zero _)) _ _ _ (hW.eq (by funext j; by_cases hj : j = k; exact (by rw [hj, va_up_self, he]); exact (va_up_ne _ _ hj).symm)) hS (lv_sub hl [2, 3, 1, 0] rfl)
set_option maxHeartbeats 4000000 in
set_option maxRecDepth 100000 in
/-- Residents() -/
theorem ct_res {l : Launch} {D : va_G} {tys : List (ClassId × FieldType)}  {ad : Nat → Nat} {E : Nat → va_E} (h_0 : E 0 = .inr (3, [.int 0, .int 0, .int 0])) (sz : Nat) : Met l yX3_init (Cond.code yX3_init cX3_init 1 none :: wsL_law) (rmk 0 0 0) (va_Pc [.ref (ad 0)] (PC D tys ad 1 E sz)) (Qg D 1 (ad 0) (fun _ E => E 0 = .inr (3, [.int 0, .int 0, .int 0])) (cA ad 1 sz)) 0 0 (cA ad 1 sz) := by
  refine cg_of (own := RX3) (N2 := 1) (post := fun _ E => E 0 = .inr (3, [.int 0, .int 0, .int 0])) rfl (by decide +kernel) rfl (Nat.le_of_ble_eq_true rfl) ?_ sz
  intro p e s m args below meth c ls Q A B hT hX hW hr hlk hnm hl hS hI hA hAn hQ
  have hx := B.1
  have hb := B.2.1
  obtain ⟨a0, ha0⟩ : ∃ a0, a0 = ad 0 := ⟨_, rfl⟩
  rw [← ha0] at hQ
  have hl : lv_has ls 1 [(0, .ref (ad 0))] := hl
  refine lv_aload_n hx hb dX3_init_0 rfl (lv_at hl 0 rfl) ?_
  refine g_obj B hl.1 (r2_in _ (List.mem_of_getElem? (i := 11) rfl)) dX3_init_1 (Nat.le_of_ble_eq_true rfl) (Nat.le_of_ble_eq_true rfl) ?_
  exact e_g hQ B hr hlk hS ha0.symm hI hA hW dX3_init_4 (Nat.le_of_ble_eq_true rfl) (Nat.le_of_ble_eq_true rfl) h_0
set_option maxHeartbeats 4000000 in
set_option maxRecDepth 100000 in
/-- Amounts() -/
theorem ct_am {l : Launch} {D : va_G} {tys : List (ClassId × FieldType)}  {ad : Nat → Nat} {E : Nat → va_E} (h_0 : E 0 = .inr (0, [.int 0, .int 0, .int 0, .int 0, .int 0])) (sz : Nat) : Met l yX0_init (Cond.code yX0_init cX0_init 1 none :: wsL_law) (rmk 0 0 0) (va_Pc [.ref (ad 0)] (PC D tys ad 1 E sz)) (Qg D 1 (ad 0) (fun _ E => E 0 = .inr (0, [.int 0, .int 0, .int 0, .int 0, .int 0])) (cA ad 1 sz)) 0 0 (cA ad 1 sz) := by
  refine cg_of (own := RX0) (N2 := 1) (post := fun _ E => E 0 = .inr (0, [.int 0, .int 0, .int 0, .int 0, .int 0])) rfl (by decide +kernel) rfl (Nat.le_of_ble_eq_true rfl) ?_ sz
  intro p e s m args below meth c ls Q A B hT hX hW hr hlk hnm hl hS hI hA hAn hQ
  have hx := B.1
  have hb := B.2.1
  obtain ⟨a0, ha0⟩ : ∃ a0, a0 = ad 0 := ⟨_, rfl⟩
  rw [← ha0] at hQ
  have hl : lv_has ls 1 [(0, .ref (ad 0))] := hl
  refine lv_aload_n hx hb dX0_init_0 rfl (lv_at hl 0 rfl) ?_
  refine g_obj B hl.1 (r2_in _ (List.mem_of_getElem? (i := 14) rfl)) dX0_init_1 (Nat.le_of_ble_eq_true rfl) (Nat.le_of_ble_eq_true rfl) ?_
  exact e_g hQ B hr hlk hS ha0.symm hI hA hW dX0_init_4 (Nat.le_of_ble_eq_true rfl) (Nat.le_of_ble_eq_true rfl) h_0
set_option maxHeartbeats 4000000 in
set_option maxRecDepth 100000 in
/-- Timeline(v) -/
theorem ct_tl {l : Launch} {D : va_G} {tys : List (ClassId × FieldType)} {cI cZ : ClassId} (hti : tys[0]? = some (cI, .int)) (htz : cZ = cI) (v : Int32) {ad : Nat → Nat} {E : Nat → va_E} (h_0 : E 0 = .inr (4, [.int 0, .null, .null])) (sz : Nat) : Met l yX4_init (Cond.code yX4_init cX4_init 2 none :: wsL_law) (rmk 1 2 372) (va_Pc [.ref (ad 0), .int v] (PC D tys ad 1 E sz)) (Qg D 3 (ad 0) (tlP cI cZ v) (cA ad 1 sz)) 2 372 (cA ad 1 sz) := by
  refine cg_of (own := RX4) (N2 := 3) (post := tlP cI cZ v) rfl (by decide +kernel) rfl (Nat.le_of_ble_eq_true rfl) ?_ sz
  intro p e s m args below meth c ls Q A B hT hX hW hr hlk hnm hl hS hI hA hAn hQ
  have hx := B.1
  have hb := B.2.1
  obtain ⟨a0, ha0⟩ : ∃ a0, a0 = ad 0 := ⟨_, rfl⟩
  rw [← ha0] at hQ
  have hl : lv_has ls 2 [(0, .ref (ad 0)), (1, .int v)] := hl
  refine lv_aload_n hx hb dX4_init_0 rfl (lv_at hl 0 rfl) ?_
  refine g_obj B hl.1 (r3_in _ (List.mem_of_getElem? (i := 0) rfl)) dX4_init_1 (Nat.le_of_ble_eq_true rfl) (Nat.le_of_ble_eq_true rfl) ?_
  refine lv_aload_n hx hb dX4_init_4 rfl (lv_at hl 0 rfl) ?_
  refine lv_sipush (v := 360) hx hb dX4_init_5 (by decide) ?_
  refine g_newa B hI hA hAn hW hS (atype := .int) (ty := .int) rfl (r1_in _ (List.mem_of_getElem? (i := 15) rfl)) 0 hti (N' := 360) (a0 := (360, .inl (fun _ => 0))) (fun _ => rfl) (by decide) (by decide) (Nat.le_of_ble_eq_true rfl) (Nat.le_of_ble_eq_true rfl) (Nat.le_of_ble_eq_true rfl) dX4_init_8 (fun ad E H ha hE h9 hI hA hW hS => ?_)
  have h_0 := (hE 0 (by omega)).trans h_0
  rw [← ha 0 (by omega)] at hl
  rw [← ha 0 (by omega)]
  rw [← ha 0 (by omega)] at ha0
  have h_1 : E 1 = .inl (cI, 360, .inl (fun _ => 0)) := h9
  have hI : aI ad 2 := hI
  have hA : ∀ k : Nat, k < 2 → A (ad k) := hA
  have hW : hH D ad 2 E H := hW
  refine g_putF (ty := .array .int) B hnm hI hA hW hS inlX4 tyX4 tyX4_ok nmX4 rfl 1 (by decide) (r3_in _ (List.mem_of_getElem? (i := 1) rfl)) rfl rfl rfl (by decide +kernel) (by omega) h_0 (Nat.le_of_ble_eq_true rfl) rfl rfl dX4_init_10 (fun H locs hW hS => ?_)
  obtain ⟨E, hE0⟩ : ∃ E2, E2 = va_up E 0 (.inr (4, [.int 0, .ref (ad 1), .null])) := ⟨_, rfl⟩
  have hW : hH D ad 2 E H := hW.eq hE0.symm
  obtain ⟨h9, hE⟩ := up_facts hE0
  have h_1 := (hE 1 (by omega)).trans h_1
  have h_0 := h9
  clear hE0 h9 hE
  refine lv_aload_n hx hb dX4_init_13 rfl (lv_at hl 0 rfl) ?_
  refine lv_bipush (v := 12) hx hb dX4_init_14 (by decide) ?_
  refine g_newa B hI hA hAn hW hS (atype := .int) (ty := .int) rfl (r1_in _ (List.mem_of_getElem? (i := 15) rfl)) 0 hti (N' := 12) (a0 := (12, .inl (fun _ => 0))) (fun _ => rfl) (by decide) (by decide) (Nat.le_of_ble_eq_true rfl) (Nat.le_of_ble_eq_true rfl) (Nat.le_of_ble_eq_true rfl) dX4_init_16 (fun ad E H ha hE h9 hI hA hW hS => ?_)
  have h_0 := (hE 0 (by omega)).trans h_0
  have h_1 := (hE 1 (by omega)).trans h_1
  rw [← ha 1 (by omega)] at h_0
  rw [← ha 0 (by omega)] at hl
  rw [← ha 0 (by omega)]
  rw [← ha 0 (by omega)] at ha0
  have h_2 : E 2 = .inl (cI, 12, .inl (fun _ => 0)) := h9
  have hI : aI ad 3 := hI
  have hA : ∀ k : Nat, k < 3 → A (ad k) := hA
  have hW : hH D ad 3 E H := hW
  refine g_putF (ty := .array .int) B hnm hI hA hW hS inlX4 tyX4 tyX4_ok nmX4 rfl 2 (by decide) (r3_in _ (List.mem_of_getElem? (i := 2) rfl)) rfl rfl rfl (by decide +kernel) (by omega) h_0 (Nat.le_of_ble_eq_true rfl) rfl rfl dX4_init_18 (fun H locs hW hS => ?_)
  obtain ⟨E, hE0⟩ : ∃ E2, E2 = va_up E 0 (.inr (4, [.int 0, .ref (ad 1), .ref (ad 2)])) := ⟨_, rfl⟩
  have hW : hH D ad 3 E H := hW.eq hE0.symm
  obtain ⟨h9, hE⟩ := up_facts hE0
  have h_1 := (hE 1 (by omega)).trans h_1
  have h_2 := (hE 2 (by omega)).trans h_2
  have h_0 := h9
  clear hE0 h9 hE
  refine lv_aload_n hx hb dX4_init_21 rfl (lv_at hl 0 rfl) ?_
  refine lv_iload_n hx hb dX4_init_22 rfl (lv_at hl 1 rfl) ?_
  refine g_putF (ty := .int) B hnm hI hA hW hS inlX4 tyX4 tyX4_ok nmX4 rfl 0 (by decide) (r3_in _ (List.mem_of_getElem? (i := 3) rfl)) rfl rfl rfl (by decide +kernel) (by omega) h_0 (Nat.le_of_ble_eq_true rfl) rfl rfl dX4_init_23 (fun H locs hW hS => ?_)
  obtain ⟨E, hE0⟩ : ∃ E2, E2 = va_up E 0 (.inr (4, [.int v, .ref (ad 1), .ref (ad 2)])) := ⟨_, rfl⟩
  have hW : hH D ad 3 E H := hW.eq hE0.symm
  obtain ⟨h9, hE⟩ := up_facts hE0
  have h_1 := (hE 1 (by omega)).trans h_1
  have h_2 := (hE 2 (by omega)).trans h_2
  have h_0 := h9
  clear hE0 h9 hE
  refine lv_aload_n hx hb dX4_init_26 rfl (lv_at hl 0 rfl) ?_
  refine gfX4_9 B hT hW (by omega) h_0 rfl dX4_init_27 ?_
  refine lv_iload_n hx hb dX4_init_30 rfl (lv_at hl 1 rfl) ?_
  refine g_cv0 (g_runS (As := [.ref (ad 1), .int v]) (rest := []) B hT hX hAn hA hW hS (fun sz => mt_fill hI 1 _ v hti (by omega) h_1 sz) (cwX4_22 B.2.2.2.2.1 ⟨Nat.le_of_ble_eq_true rfl, Nat.le_of_ble_eq_true rfl⟩) rfl hl.1 (Nat.le_of_ble_eq_true rfl) dX4_init_31 ⟨Nat.le_of_ble_eq_true rfl, Nat.le_of_ble_eq_true rfl⟩) hA hAn hS (fun E H locs hp hW hS => ?_)
  obtain ⟨f, hf, hE0⟩ := hp
  obtain ⟨h9, hE⟩ := up_facts hE0
  have h_0 := (hE 0 (by omega)).trans h_0
  have h_2 := (hE 2 (by omega)).trans h_2
  have h_1 := h9
  clear hE0 h9 hE
  exact e_g hQ B hr hlk hS ha0.symm hI hA hW dX4_init_34 (Nat.le_of_ble_eq_true rfl) (Nat.le_of_ble_eq_true rfl) ⟨h_0, ⟨f, hf, h_1⟩, h_2.trans (by rw [pkb_0])⟩
set_option maxHeartbeats 4000000 in
set_option maxRecDepth 100000 in
/-- Person() -/
theorem ct_per {l : Launch} {D : va_G} {tys : List (ClassId × FieldType)} {cI cZ : ClassId} (hti : tys[0]? = some (cI, .int)) (htz : cZ = cI)  {ad : Nat → Nat} {E : Nat → va_E} (h_0 : E 0 = .inr (2, [.int 0, .null, .null])) (sz : Nat) : Met l yX2_init (Cond.code yX2_init cX2_init 1 none :: wsL_law) (rmk 2 6 750) (va_Pc [.ref (ad 0)] (PC D tys ad 1 E sz)) (Qg D 7 (ad 0) (perP cI cZ) (cA ad 1 sz)) 6 750 (cA ad 1 sz) := by
  refine cg_of (own := RX2) (N2 := 7) (post := perP cI cZ) rfl (by decide +kernel) rfl (Nat.le_of_ble_eq_true rfl) ?_ sz
  intro p e s m args below meth c ls Q A B hT hX hW hr hlk hnm hl hS hI hA hAn hQ
  have hx := B.1
  have hb := B.2.1
  obtain ⟨a0, ha0⟩ : ∃ a0, a0 = ad 0 := ⟨_, rfl⟩
  rw [← ha0] at hQ
  have hl : lv_has ls 1 [(0, .ref (ad 0))] := hl
  refine lv_aload_n hx hb dX2_init_0 rfl (lv_at hl 0 rfl) ?_
  refine g_obj B hl.1 (r2_in _ (List.mem_of_getElem? (i := 17) rfl)) dX2_init_1 (Nat.le_of_ble_eq_true rfl) (Nat.le_of_ble_eq_true rfl) ?_
  refine lv_aload_n hx hb dX2_init_4 rfl (lv_at hl 0 rfl) ?_
  refine g_new (ci := 4) B hI hA hAn hW hS inlX4 tyX4 tyX4_ok (r2_in _ (List.mem_of_getElem? (i := 18) rfl)) (r2_in _ (List.mem_of_getElem? (i := 6) rfl)) (r2_in _ (List.mem_of_getElem? (i := 7) rfl)) (fs := [.int 0, .null, .null]) rfl (fun j hj => by rcases (show j = 0 ∨ j = 1 ∨ j = 2 by omega) with rfl | rfl | rfl <;> rfl) (Nat.le_of_ble_eq_true rfl) (Nat.le_of_ble_eq_true rfl) dX2_init_5 (fun ad E H ha hE h9 hI hA hW hS => ?_)
  have h_0 := (hE 0 (by omega)).trans h_0
  rw [← ha 0 (by omega)] at hl
  rw [← ha 0 (by omega)]
  rw [← ha 0 (by omega)] at ha0
  have h_1 : E 1 = .inr (4, [.int 0, .null, .null]) := h9
  have hI : aI ad 2 := hI
  have hA : ∀ k : Nat, k < 2 → A (ad k) := hA
  have hW : hH D ad 2 E H := hW
  refine lv_dup hx hb dX2_init_8 rfl ?_
  refine lv_iconst (v := (-1)) hx hb dX2_init_9 (by decide) ?_
  refine g_cv (g_runI (As := [.int (-1)]) (rest := [.ref (ad 1), .ref (ad 0)]) B hT hX hAn hA hW hS (o := 1) (by omega) (fun sz => ct_tl hti htz (-1) (ad := fun k => ad (1 + k)) (E := fun k => E (1 + k)) h_1 sz) (ciX2_11 B.2.2.2.2.1 ⟨Nat.le_of_ble_eq_true rfl, Nat.le_of_ble_eq_true rfl⟩) rfl hl.1 (Nat.le_of_ble_eq_true rfl) dX2_init_10 ⟨Nat.le_of_ble_eq_true rfl, Nat.le_of_ble_eq_true rfl⟩) hI hA hAn hW hS rfl rfl (fun ad E H locs ha hE hp hI hA hW hS => ?_)
  have h_0 := (hE 0 (by omega)).trans h_0
  rw [← ha 0 (by omega)] at hl
  rw [← ha 1 (by omega)]
  rw [← ha 0 (by omega)]
  rw [← ha 0 (by omega)] at ha0
  have hI : aI ad 4 := hI
  have hA : ∀ k : Nat, k < 4 → A (ad k) := hA
  have hW : hH D ad 4 E H := hW
  obtain ⟨h9, ⟨f1, hf1, h8⟩, h7⟩ := hp
  have h_1 : E 1 = .inr (4, [.int (-1), .ref (ad 2), .ref (ad 3)]) := h9
  have h_2 : E 2 = .inl (cI, 360, .inl f1) := h8
  have h_3 : E 3 = .inl (cI, 12, .inl (pkb (fun _ => 0))) := h7
  refine g_putF (ty := .object "BenefitOffice$Timeline") B hnm hI hA hW hS inlX2 tyX2 tyX2_ok nmX2 rfl 1 (by decide) (r2_in _ (List.mem_of_getElem? (i := 19) rfl)) rfl rfl rfl (by decide +kernel) (by omega) h_0 (Nat.le_of_ble_eq_true rfl) rfl rfl dX2_init_13 (fun H locs hW hS => ?_)
  obtain ⟨E, hE0⟩ : ∃ E2, E2 = va_up E 0 (.inr (2, [.int 0, .ref (ad 1), .null])) := ⟨_, rfl⟩
  have hW : hH D ad 4 E H := hW.eq hE0.symm
  obtain ⟨h9, hE⟩ := up_facts hE0
  have h_1 := (hE 1 (by omega)).trans h_1
  have h_2 := (hE 2 (by omega)).trans h_2
  have h_3 := (hE 3 (by omega)).trans h_3
  have h_0 := h9
  clear hE0 h9 hE
  refine lv_aload_n hx hb dX2_init_16 rfl (lv_at hl 0 rfl) ?_
  refine g_new (ci := 4) B hI hA hAn hW hS inlX4 tyX4 tyX4_ok (r2_in _ (List.mem_of_getElem? (i := 18) rfl)) (r2_in _ (List.mem_of_getElem? (i := 6) rfl)) (r2_in _ (List.mem_of_getElem? (i := 7) rfl)) (fs := [.int 0, .null, .null]) rfl (fun j hj => by rcases (show j = 0 ∨ j = 1 ∨ j = 2 by omega) with rfl | rfl | rfl <;> rfl) (Nat.le_of_ble_eq_true rfl) (Nat.le_of_ble_eq_true rfl) dX2_init_17 (fun ad E H ha hE h9 hI hA hW hS => ?_)
  have h_0 := (hE 0 (by omega)).trans h_0
  have h_1 := (hE 1 (by omega)).trans h_1
  have h_2 := (hE 2 (by omega)).trans h_2
  have h_3 := (hE 3 (by omega)).trans h_3
  rw [← ha 1 (by omega)] at h_0
  rw [← ha 2 (by omega)] at h_1
  rw [← ha 3 (by omega)] at h_1
  rw [← ha 0 (by omega)] at hl
  rw [← ha 0 (by omega)]
  rw [← ha 0 (by omega)] at ha0
  have h_4 : E 4 = .inr (4, [.int 0, .null, .null]) := h9
  have hI : aI ad 5 := hI
  have hA : ∀ k : Nat, k < 5 → A (ad k) := hA
  have hW : hH D ad 5 E H := hW
  refine lv_dup hx hb dX2_init_20 rfl ?_
  refine lv_iconst (v := 0) hx hb dX2_init_21 (by decide) ?_
  refine g_cv (g_runI (As := [.int 0]) (rest := [.ref (ad 4), .ref (ad 0)]) B hT hX hAn hA hW hS (o := 4) (by omega) (fun sz => ct_tl hti htz 0 (ad := fun k => ad (4 + k)) (E := fun k => E (4 + k)) h_4 sz) (ciX2_11 B.2.2.2.2.1 ⟨Nat.le_of_ble_eq_true rfl, Nat.le_of_ble_eq_true rfl⟩) rfl hl.1 (Nat.le_of_ble_eq_true rfl) dX2_init_22 ⟨Nat.le_of_ble_eq_true rfl, Nat.le_of_ble_eq_true rfl⟩) hI hA hAn hW hS rfl rfl (fun ad E H locs ha hE hp hI hA hW hS => ?_)
  have h_0 := (hE 0 (by omega)).trans h_0
  have h_1 := (hE 1 (by omega)).trans h_1
  have h_2 := (hE 2 (by omega)).trans h_2
  have h_3 := (hE 3 (by omega)).trans h_3
  rw [← ha 1 (by omega)] at h_0
  rw [← ha 2 (by omega)] at h_1
  rw [← ha 3 (by omega)] at h_1
  rw [← ha 0 (by omega)] at hl
  rw [← ha 4 (by omega)]
  rw [← ha 0 (by omega)]
  rw [← ha 0 (by omega)] at ha0
  have hI : aI ad 7 := hI
  have hA : ∀ k : Nat, k < 7 → A (ad k) := hA
  have hW : hH D ad 7 E H := hW
  obtain ⟨h9, ⟨f4, hf4, h8⟩, h7⟩ := hp
  have h_4 : E 4 = .inr (4, [.int 0, .ref (ad 5), .ref (ad 6)]) := h9
  have h_5 : E 5 = .inl (cI, 360, .inl f4) := h8
  have h_6 : E 6 = .inl (cI, 12, .inl (pkb (fun _ => 0))) := h7
  refine g_putF (ty := .object "BenefitOffice$Timeline") B hnm hI hA hW hS inlX2 tyX2 tyX2_ok nmX2 rfl 2 (by decide) (r2_in _ (List.mem_of_getElem? (i := 20) rfl)) rfl rfl rfl (by decide +kernel) (by omega) h_0 (Nat.le_of_ble_eq_true rfl) rfl rfl dX2_init_25 (fun H locs hW hS => ?_)
  obtain ⟨E, hE0⟩ : ∃ E2, E2 = va_up E 0 (.inr (2, [.int 0, .ref (ad 1), .ref (ad 4)])) := ⟨_, rfl⟩
  have hW : hH D ad 7 E H := hW.eq hE0.symm
  obtain ⟨h9, hE⟩ := up_facts hE0
  have h_1 := (hE 1 (by omega)).trans h_1
  have h_2 := (hE 2 (by omega)).trans h_2
  have h_3 := (hE 3 (by omega)).trans h_3
  have h_4 := (hE 4 (by omega)).trans h_4
  have h_5 := (hE 5 (by omega)).trans h_5
  have h_6 := (hE 6 (by omega)).trans h_6
  have h_0 := h9
  clear hE0 h9 hE
  exact e_g hQ B hr hlk hS ha0.symm hI hA hW dX2_init_28 (Nat.le_of_ble_eq_true rfl) (Nat.le_of_ble_eq_true rfl) ⟨h_0, ⟨h_1, ⟨f1, hf1, h_2⟩, h_3⟩, ⟨h_4, ⟨f4, hf4, h_5⟩, h_6⟩⟩
set_option maxHeartbeats 4000000 in
set_option maxRecDepth 100000 in
/-- Household() -/
theorem ct_hh {l : Launch} {D : va_G} {tys : List (ClassId × FieldType)} {cI cZ : ClassId} (hti : tys[0]? = some (cI, .int)) (htz : cZ = cI)  {ad : Nat → Nat} {E : Nat → va_E} (h_0 : E 0 = .inr (1, [.null, .null, .null])) (sz : Nat) : Met l yX1_init (Cond.code yX1_init cX1_init 1 none :: wsL_law) (rmk 2 5 399) (va_Pc [.ref (ad 0)] (PC D tys ad 1 E sz)) (Qg D 6 (ad 0) (hhP cI cZ) (cA ad 1 sz)) 5 399 (cA ad 1 sz) := by
  refine cg_of (own := RX1) (N2 := 6) (post := hhP cI cZ) rfl (by decide +kernel) rfl (Nat.le_of_ble_eq_true rfl) ?_ sz
  intro p e s m args below meth c ls Q A B hT hX hW hr hlk hnm hl hS hI hA hAn hQ
  have hx := B.1
  have hb := B.2.1
  obtain ⟨a0, ha0⟩ : ∃ a0, a0 = ad 0 := ⟨_, rfl⟩
  rw [← ha0] at hQ
  have hl : lv_has ls 1 [(0, .ref (ad 0))] := hl
  refine lv_aload_n hx hb dX1_init_0 rfl (lv_at hl 0 rfl) ?_
  refine g_obj B hl.1 (r3_in _ (List.mem_of_getElem? (i := 10) rfl)) dX1_init_1 (Nat.le_of_ble_eq_true rfl) (Nat.le_of_ble_eq_true rfl) ?_
  refine lv_aload_n hx hb dX1_init_4 rfl (lv_at hl 0 rfl) ?_
  refine g_new (ci := 4) B hI hA hAn hW hS inlX4 tyX4 tyX4_ok (r3_in _ (List.mem_of_getElem? (i := 11) rfl)) (r2_in _ (List.mem_of_getElem? (i := 6) rfl)) (r2_in _ (List.mem_of_getElem? (i := 7) rfl)) (fs := [.int 0, .null, .null]) rfl (fun j hj => by rcases (show j = 0 ∨ j = 1 ∨ j = 2 by omega) with rfl | rfl | rfl <;> rfl) (Nat.le_of_ble_eq_true rfl) (Nat.le_of_ble_eq_true rfl) dX1_init_5 (fun ad E H ha hE h9 hI hA hW hS => ?_)
  have h_0 := (hE 0 (by omega)).trans h_0
  rw [← ha 0 (by omega)] at hl
  rw [← ha 0 (by omega)]
  rw [← ha 0 (by omega)] at ha0
  have h_1 : E 1 = .inr (4, [.int 0, .null, .null]) := h9
  have hI : aI ad 2 := hI
  have hA : ∀ k : Nat, k < 2 → A (ad k) := hA
  have hW : hH D ad 2 E H := hW
  refine lv_dup hx hb dX1_init_8 rfl ?_
  refine lv_iconst (v := 0) hx hb dX1_init_9 (by decide) ?_
  refine g_cv (g_runI (As := [.int 0]) (rest := [.ref (ad 1), .ref (ad 0)]) B hT hX hAn hA hW hS (o := 1) (by omega) (fun sz => ct_tl hti htz 0 (ad := fun k => ad (1 + k)) (E := fun k => E (1 + k)) h_1 sz) (ciX1_11 B.2.2.2.2.1 ⟨Nat.le_of_ble_eq_true rfl, Nat.le_of_ble_eq_true rfl⟩) rfl hl.1 (Nat.le_of_ble_eq_true rfl) dX1_init_10 ⟨Nat.le_of_ble_eq_true rfl, Nat.le_of_ble_eq_true rfl⟩) hI hA hAn hW hS rfl rfl (fun ad E H locs ha hE hp hI hA hW hS => ?_)
  have h_0 := (hE 0 (by omega)).trans h_0
  rw [← ha 0 (by omega)] at hl
  rw [← ha 1 (by omega)]
  rw [← ha 0 (by omega)]
  rw [← ha 0 (by omega)] at ha0
  have hI : aI ad 4 := hI
  have hA : ∀ k : Nat, k < 4 → A (ad k) := hA
  have hW : hH D ad 4 E H := hW
  obtain ⟨h9, ⟨f1, hf1, h8⟩, h7⟩ := hp
  have h_1 : E 1 = .inr (4, [.int 0, .ref (ad 2), .ref (ad 3)]) := h9
  have h_2 : E 2 = .inl (cI, 360, .inl f1) := h8
  have h_3 : E 3 = .inl (cI, 12, .inl (pkb (fun _ => 0))) := h7
  refine g_putF (ty := .object "BenefitOffice$Timeline") B hnm hI hA hW hS inlX1 tyX1 tyX1_ok nmX1 rfl 0 (by decide) (r3_in _ (List.mem_of_getElem? (i := 12) rfl)) rfl rfl rfl (by decide +kernel) (by omega) h_0 (Nat.le_of_ble_eq_true rfl) rfl rfl dX1_init_13 (fun H locs hW hS => ?_)
  obtain ⟨E, hE0⟩ : ∃ E2, E2 = va_up E 0 (.inr (1, [.ref (ad 1), .null, .null])) := ⟨_, rfl⟩
  have hW : hH D ad 4 E H := hW.eq hE0.symm
  obtain ⟨h9, hE⟩ := up_facts hE0
  have h_1 := (hE 1 (by omega)).trans h_1
  have h_2 := (hE 2 (by omega)).trans h_2
  have h_3 := (hE 3 (by omega)).trans h_3
  have h_0 := h9
  clear hE0 h9 hE
  refine lv_aload_n hx hb dX1_init_16 rfl (lv_at hl 0 rfl) ?_
  refine lv_bipush (v := 12) hx hb dX1_init_17 (by decide) ?_
  refine g_newa B hI hA hAn hW hS (atype := .int) (ty := .int) rfl (r1_in _ (List.mem_of_getElem? (i := 15) rfl)) 0 hti (N' := 12) (a0 := (12, .inl (fun _ => 0))) (fun _ => rfl) (by decide) (by decide) (Nat.le_of_ble_eq_true rfl) (Nat.le_of_ble_eq_true rfl) (Nat.le_of_ble_eq_true rfl) dX1_init_19 (fun ad E H ha hE h9 hI hA hW hS => ?_)
  have h_0 := (hE 0 (by omega)).trans h_0
  have h_1 := (hE 1 (by omega)).trans h_1
  have h_2 := (hE 2 (by omega)).trans h_2
  have h_3 := (hE 3 (by omega)).trans h_3
  rw [← ha 1 (by omega)] at h_0
  rw [← ha 2 (by omega)] at h_1
  rw [← ha 3 (by omega)] at h_1
  rw [← ha 0 (by omega)] at hl
  rw [← ha 0 (by omega)]
  rw [← ha 0 (by omega)] at ha0
  have h_4 : E 4 = .inl (cI, 12, .inl (fun _ => 0)) := h9
  have hI : aI ad 5 := hI
  have hA : ∀ k : Nat, k < 5 → A (ad k) := hA
  have hW : hH D ad 5 E H := hW
  refine g_putF (ty := .array .int) B hnm hI hA hW hS inlX1 tyX1 tyX1_ok nmX1 rfl 1 (by decide) (r3_in _ (List.mem_of_getElem? (i := 13) rfl)) rfl rfl rfl (by decide +kernel) (by omega) h_0 (Nat.le_of_ble_eq_true rfl) rfl rfl dX1_init_21 (fun H locs hW hS => ?_)
  obtain ⟨E, hE0⟩ : ∃ E2, E2 = va_up E 0 (.inr (1, [.ref (ad 1), .ref (ad 4), .null])) := ⟨_, rfl⟩
  have hW : hH D ad 5 E H := hW.eq hE0.symm
  obtain ⟨h9, hE⟩ := up_facts hE0
  have h_1 := (hE 1 (by omega)).trans h_1
  have h_2 := (hE 2 (by omega)).trans h_2
  have h_3 := (hE 3 (by omega)).trans h_3
  have h_4 := (hE 4 (by omega)).trans h_4
  have h_0 := h9
  clear hE0 h9 hE
  refine lv_aload_n hx hb dX1_init_24 rfl (lv_at hl 0 rfl) ?_
  refine lv_bipush (v := 12) hx hb dX1_init_25 (by decide) ?_
  refine g_newa B hI hA hAn hW hS (atype := .int) (ty := .int) rfl (r1_in _ (List.mem_of_getElem? (i := 15) rfl)) 0 hti (N' := 12) (a0 := (12, .inl (fun _ => 0))) (fun _ => rfl) (by decide) (by decide) (Nat.le_of_ble_eq_true rfl) (Nat.le_of_ble_eq_true rfl) (Nat.le_of_ble_eq_true rfl) dX1_init_27 (fun ad E H ha hE h9 hI hA hW hS => ?_)
  have h_0 := (hE 0 (by omega)).trans h_0
  have h_1 := (hE 1 (by omega)).trans h_1
  have h_2 := (hE 2 (by omega)).trans h_2
  have h_3 := (hE 3 (by omega)).trans h_3
  have h_4 := (hE 4 (by omega)).trans h_4
  rw [← ha 1 (by omega)] at h_0
  rw [← ha 4 (by omega)] at h_0
  rw [← ha 2 (by omega)] at h_1
  rw [← ha 3 (by omega)] at h_1
  rw [← ha 0 (by omega)] at hl
  rw [← ha 0 (by omega)]
  rw [← ha 0 (by omega)] at ha0
  have h_5 : E 5 = .inl (cI, 12, .inl (fun _ => 0)) := h9
  have hI : aI ad 6 := hI
  have hA : ∀ k : Nat, k < 6 → A (ad k) := hA
  have hW : hH D ad 6 E H := hW
  refine g_putF (ty := .array .int) B hnm hI hA hW hS inlX1 tyX1 tyX1_ok nmX1 rfl 2 (by decide) (r3_in _ (List.mem_of_getElem? (i := 14) rfl)) rfl rfl rfl (by decide +kernel) (by omega) h_0 (Nat.le_of_ble_eq_true rfl) rfl rfl dX1_init_29 (fun H locs hW hS => ?_)
  obtain ⟨E, hE0⟩ : ∃ E2, E2 = va_up E 0 (.inr (1, [.ref (ad 1), .ref (ad 4), .ref (ad 5)])) := ⟨_, rfl⟩
  have hW : hH D ad 6 E H := hW.eq hE0.symm
  obtain ⟨h9, hE⟩ := up_facts hE0
  have h_1 := (hE 1 (by omega)).trans h_1
  have h_2 := (hE 2 (by omega)).trans h_2
  have h_3 := (hE 3 (by omega)).trans h_3
  have h_4 := (hE 4 (by omega)).trans h_4
  have h_5 := (hE 5 (by omega)).trans h_5
  have h_0 := h9
  clear hE0 h9 hE
  exact e_g hQ B hr hlk hS ha0.symm hI hA hW dX1_init_32 (Nat.le_of_ble_eq_true rfl) (Nat.le_of_ble_eq_true rfl) ⟨h_0, ⟨h_1, ⟨f1, hf1, h_2⟩, h_3⟩, h_4, h_5⟩
