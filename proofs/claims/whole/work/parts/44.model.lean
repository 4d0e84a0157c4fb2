theorem cwX6_51 {R : Room} {s : State} {args : Array Value} {rm : Room} (hts : ∀ w ∈ wsL_law, w.before args s = true) (hR : rm.frames + 1 ≤ R.frames ∧ 8 + (1 + 11) + rm.locals ≤ R.locals) : CWS R s args RX6 51 yX6_first cX6_first 1 (some .int) rm rm.cells rm.slots 1 :=
  va_cwS 1 hts (gi_S (r5_in _ (List.mem_of_getElem? (i := 17) rfl)) (r5_in _ (List.mem_of_getElem? (i := 18) rfl)) (r1_in _ (List.mem_of_getElem? (i := 5) rfl)) (r5_in _ (List.mem_of_getElem? (i := 19) rfl))) rfl rfl rfl (by decide +kernel) hR
set_option maxHeartbeats 4000000 in
set_option maxRecDepth 100000 in
theorem mm_first {l : Launch} {D : va_G} {tys : List (ClassId × FieldType)} {ad : Nat → Nat} {N : Nat} (hI : aI ad N) {E : Nat → va_E} (r : Nat) (hr7 : r < 7) (sz : Nat) : Met l yX6_first (Cond.code yX6_first cX6_first 1 (some .int) :: wsL_law) (rmk 0 0 0) (va_Pc [.int (nI r)] (PC D tys ad N E sz)) (Qi D ad N (fun r0 E1 => r0 = ruFi r ∧ E1 = E) (cA ad N sz)) 0 0 (cA ad N sz) := by
  refine cm_of (own := RX6) (Qc := Qi D ad N (fun r0 E1 => r0 = ruFi r ∧ E1 = E)) rfl (by decide +kernel) (Nat.le_of_ble_eq_true rfl) ?_ sz
  intro p e s m args below meth c ls Q B hT hX hW hr hlk hnm hl hS hA hQ
  have hx := B.1
  have hb := B.2.1
  have hl : lv_has ls 1 [(0, .int (nI r))] := hl
  refine lv_iload_n hx hb dX6_first_0 rfl (lv_at hl 0 rfl) ?_
  refine lv_if_ne (tgt := 9) hx hb dX6_first_1 (by decide) (fun c_1 => ?_) (fun c_1 => ?_)
  · skip
    refine lv_iload_n hx hb dX6_first_9 rfl (lv_at hl 0 rfl) ?_
    refine lv_iconst (v := 1) hx hb dX6_first_10 (by decide) ?_
    refine lv_icmp_ne (tgt := 18) hx hb dX6_first_11 (by decide) (fun c_11 => ?_) (fun c_11 => ?_)
    · skip
      refine lv_iload_n hx hb dX6_first_18 rfl (lv_at hl 0 rfl) ?_
      refine lv_iconst (v := 2) hx hb dX6_first_19 (by decide) ?_
      refine lv_icmp_ne (tgt := 27) hx hb dX6_first_20 (by decide) (fun c_20 => ?_) (fun c_20 => ?_)
      · skip
        refine lv_iload_n hx hb dX6_first_27 rfl (lv_at hl 0 rfl) ?_
        refine lv_iconst (v := 3) hx hb dX6_first_28 (by decide) ?_
        refine lv_icmp_ne (tgt := 37) hx hb dX6_first_29 (by decide) (fun c_29 => ?_) (fun c_29 => ?_)
        · skip
          refine lv_iload_n hx hb dX6_first_37 rfl (lv_at hl 0 rfl) ?_
          refine lv_iconst (v := 4) hx hb dX6_first_38 (by decide) ?_
          refine lv_icmp_ne (tgt := 47) hx hb dX6_first_39 (by decide) (fun c_39 => ?_) (fun c_39 => ?_)
          · skip
            refine lv_iload_n hx hb dX6_first_47 rfl (lv_at hl 0 rfl) ?_
            refine lv_iconst (v := 5) hx hb dX6_first_48 (by decide) ?_
            refine lv_icmp_ne (tgt := 57) hx hb dX6_first_49 (by decide) (fun c_49 => ?_) (fun c_49 => ?_)
            · skip
              refine lv_bipush (v := 60) hx hb dX6_first_57 (by decide) ?_
              exact e_i hQ B hr hlk hS hW dX6_first_59 (Nat.le_of_ble_eq_true rfl) (Nat.le_of_ble_eq_true rfl) (⟨by rcases (show r = 0 ∨ r = 1 ∨ r = 2 ∨ r = 3 ∨ r = 4 ∨ r = 5 ∨ r = 6 by omega) with rfl | rfl | rfl | rfl | rfl | rfl | rfl <;> first | rfl | exact absurd rfl c_1 | exact absurd rfl c_11 | exact absurd rfl c_20 | exact absurd rfl c_29 | exact absurd rfl c_39 | exact absurd rfl c_49 | exact absurd c_1 (by decide) | exact absurd c_11 (by decide) | exact absurd c_20 (by decide) | exact absurd c_29 (by decide) | exact absurd c_39 (by decide) | exact absurd c_49 (by decide), rfl⟩)
            · skip
              refine lv_bipush (v := 50) hx hb dX6_first_52 (by decide) ?_
              refine lv_goto (tgt := 59) hx hb dX6_first_54 (by decide) ?_
              exact e_i hQ B hr hlk hS hW dX6_first_59 (Nat.le_of_ble_eq_true rfl) (Nat.le_of_ble_eq_true rfl) (⟨by rcases (show r = 0 ∨ r = 1 ∨ r = 2 ∨ r = 3 ∨ r = 4 ∨ r = 5 ∨ r = 6 by omega) with rfl | rfl | rfl | rfl | rfl | rfl | rfl <;> first | rfl | exact absurd rfl c_1 | exact absurd rfl c_11 | exact absurd rfl c_20 | exact absurd rfl c_29 | exact absurd rfl c_39 | exact absurd rfl c_49 | exact absurd c_1 (by decide) | exact absurd c_11 (by decide) | exact absurd c_20 (by decide) | exact absurd c_29 (by decide) | exact absurd c_39 (by decide) | exact absurd c_49 (by decide), rfl⟩)
          · skip
            refine lv_bipush (v := 15) hx hb dX6_first_42 (by decide) ?_
            refine lv_goto (tgt := 59) hx hb dX6_first_44 (by decide) ?_
            exact e_i hQ B hr hlk hS hW dX6_first_59 (Nat.le_of_ble_eq_true rfl) (Nat.le_of_ble_eq_true rfl) (⟨by rcases (show r = 0 ∨ r = 1 ∨ r = 2 ∨ r = 3 ∨ r = 4 ∨ r = 5 ∨ r = 6 by omega) with rfl | rfl | rfl | rfl | rfl | rfl | rfl <;> first | rfl | exact absurd rfl c_1 | exact absurd rfl c_11 | exact absurd rfl c_20 | exact absurd rfl c_29 | exact absurd rfl c_39 | exact absurd rfl c_49 | exact absurd c_1 (by decide) | exact absurd c_11 (by decide) | exact absurd c_20 (by decide) | exact absurd c_29 (by decide) | exact absurd c_39 (by decide) | exact absurd c_49 (by decide), rfl⟩)
        · skip
          refine lv_bipush (v := 20) hx hb dX6_first_32 (by decide) ?_
          refine lv_goto (tgt := 59) hx hb dX6_first_34 (by decide) ?_
          exact e_i hQ B hr hlk hS hW dX6_first_59 (Nat.le_of_ble_eq_true rfl) (Nat.le_of_ble_eq_true rfl) (⟨by rcases (show r = 0 ∨ r = 1 ∨ r = 2 ∨ r = 3 ∨ r = 4 ∨ r = 5 ∨ r = 6 by omega) with rfl | rfl | rfl | rfl | rfl | rfl | rfl <;> first | rfl | exact absurd rfl c_1 | exact absurd rfl c_11 | exact absurd rfl c_20 | exact absurd rfl c_29 | exact absurd rfl c_39 | exact absurd rfl c_49 | exact absurd c_1 (by decide) | exact absurd c_11 (by decide) | exact absurd c_20 (by decide) | exact absurd c_29 (by decide) | exact absurd c_39 (by decide) | exact absurd c_49 (by decide), rfl⟩)
      · skip
        refine lv_iconst (v := 3) hx hb dX6_first_23 (by decide) ?_
        refine lv_goto (tgt := 59) hx hb dX6_first_24 (by decide) ?_
        exact e_i hQ B hr hlk hS hW dX6_first_59 (Nat.le_of_ble_eq_true rfl) (Nat.le_of_ble_eq_true rfl) (⟨by rcases (show r = 0 ∨ r = 1 ∨ r = 2 ∨ r = 3 ∨ r = 4 ∨ r = 5 ∨ r = 6 by omega) with rfl | rfl | rfl | rfl | rfl | rfl | rfl <;> first | rfl | exact absurd rfl c_1 | exact absurd rfl c_11 | exact absurd rfl c_20 | exact absurd rfl c_29 | exact absurd rfl c_39 | exact absurd rfl c_49 | exact absurd c_1 (by decide) | exact absurd c_11 (by decide) | exact absurd c_20 (by decide) | exact absurd c_29 (by decide) | exact absurd c_39 (by decide) | exact absurd c_49 (by decide), rfl⟩)
    · skip
      refine lv_iconst (v := 5) hx hb dX6_first_14 (by decide) ?_
      refine lv_goto (tgt := 59) hx hb dX6_first_15 (by decide) ?_
      exact e_i hQ B hr hlk hS hW dX6_first_59 (Nat.le_of_ble_eq_true rfl) (Nat.le_of_ble_eq_true rfl) (⟨by rcases (show r = 0 ∨ r = 1 ∨ r = 2 ∨ r = 3 ∨ r = 4 ∨ r = 5 ∨ r = 6 by omega) with rfl | rfl | rfl | rfl | rfl | rfl | rfl <;> first | rfl | exact absurd rfl c_1 | exact absurd rfl c_11 | exact absurd rfl c_20 | exact absurd rfl c_29 | exact absurd rfl c_39 | exact absurd rfl c_49 | exact absurd c_1 (by decide) | exact absurd c_11 (by decide) | exact absurd c_20 (by decide) | exact absurd c_29 (by decide) | exact absurd c_39 (by decide) | exact absurd c_49 (by decide), rfl⟩)
  · skip
    refine lv_bipush (v := 10) hx hb dX6_first_4 (by decide) ?_
    refine lv_goto (tgt := 59) hx hb dX6_first_6 (by decide) ?_
    exact e_i hQ B hr hlk hS hW dX6_first_59 (Nat.le_of_ble_eq_true rfl) (Nat.le_of_ble_eq_true rfl) (⟨by rcases (show r = 0 ∨ r = 1 ∨ r = 2 ∨ r = 3 ∨ r = 4 ∨ r = 5 ∨ r = 6 by omega) with rfl | rfl | rfl | rfl | rfl | rfl | rfl <;> first | rfl | exact absurd rfl c_1 | exact absurd rfl c_11 | exact absurd rfl c_20 | exact absurd rfl c_29 | exact absurd rfl c_39 | exact absurd rfl c_49 | exact absurd c_1 (by decide) | exact absurd c_11 (by decide) | exact absurd c_20 (by decide) | exact absurd c_29 (by decide) | exact absurd c_39 (by decide) | exact absurd c_49 (by decide), rfl⟩)
theorem ife {P Q : Prop} [Decidable P] [Decidable Q] (h : P ↔ Q) (a b : Int32) : (if P then a else b) = (if Q then a else b) := by
  by_cases hp : P
  · rw [if_pos hp, if_pos (h.mp hp)]
  · rw [if_neg hp, if_neg (fun q => hp (h.mpr q))]
theorem nI_mul (a b : Nat) : nI a * nI b = nI (a * b) := (Int32.ofNat_mul a b).symm
/-- what the model's constructor leaves -/
def modQ (cI cZ : ClassId) (ad : Nat → Nat) (E : Nat → va_E) : Prop := ∃ fh g h : Nat → Int32, (∀ j, j < 2880 → fh j = -1) ∧ (∀ j, j < 2520 → g j = ruFi (j / 360)) ∧ (∀ j, j < 2520 → h j = if j % 360 = 0 then 1 else 0) ∧ E 0 = .inr (6, [.int 0, .int 0, .int 0, .int 0, .int 7, .int 0, .long 0, .long 0, .ref (ad 1), .ref (ad 2), .ref (ad 3), .ref (ad 4), .ref (ad 5), .ref (ad 6), .ref (ad 7), .ref (ad 8), .ref (ad 9), .ref (ad 10), .ref (ad 11), .ref (ad 12), .int 0, .int 0, .int 0, .int 0, .int 0, .int 0, .int 0, .int 0]) ∧ E 1 = .inl (cI, 8, .inl (fun _ => 0)) ∧ E 2 = .inl (cI, 2880, .inl fh) ∧ E 3 = .inl (cI, 2880, .inl (fun _ => 0)) ∧ E 4 = .inl (cI, 1440, .inl (fun _ => 0)) ∧ E 5 = .inl (cI, 2520, .inl g) ∧ E 6 = .inl (cZ, 2880, .inl (fun _ => 0)) ∧ E 7 = .inl (cZ, 2880, .inl (fun _ => 0)) ∧ E 8 = .inl (cZ, 1440, .inl (fun _ => 0)) ∧ E 9 = .inl (cZ, 2520, .inl h) ∧ E 10 = .inl (cI, 48, .inl (fun _ => 0)) ∧ E 11 = .inl (cI, 48, .inl (fun _ => 0)) ∧ E 12 = .inl (cI, 12, .inl (fun _ => 0))
set_option maxHeartbeats 4000000 in
set_option maxRecDepth 100000 in
/-- BenefitOfficeModel() -/
theorem ct_mod {l : Launch} {D : va_G} {tys : List (ClassId × FieldType)} {cI cZ : ClassId} (hti : tys[0]? = some (cI, .int)) (htz : tys[1]? = some (cZ, .boolean))  {ad : Nat → Nat} {E : Nat → va_E} (h_0 : E 0 = .inr (6, [.int 0, .int 0, .int 0, .int 0, .int 0, .int 0, .long 0, .long 0, .null, .null, .null, .null, .null, .null, .null, .null, .null, .null, .null, .null, .int 0, .int 0, .int 0, .int 0, .int 0, .int 0, .int 0, .int 0])) (sz : Nat) : Met l yX6_init (Cond.code yX6_init cX6_init 3 none :: wsL_law) (rmk 1 12 19556) (va_Pc [.ref (ad 0)] (PC D tys ad 1 E sz)) (Qg D 13 (ad 0) (modQ cI cZ) (cA ad 1 sz)) 12 19556 (cA ad 1 sz) := by
  refine cg_of (own := RX6) (N2 := 13) (post := modQ cI cZ) rfl (by decide +kernel) rfl (Nat.le_of_ble_eq_true rfl) ?_ sz
  intro p e s m args below meth c ls Q A B hT hX hW hr hlk hnm hl hS hI hA hAn hQ
  have hx := B.1
  have hb := B.2.1
  obtain ⟨a0, ha0⟩ : ∃ a0, a0 = ad 0 := ⟨_, rfl⟩
  rw [← ha0] at hQ
  have hl : lv_has ls 3 [(0, .ref (ad 0))] := hl
  refine lv_aload_n hx hb dX6_init_0 rfl (lv_at hl 0 rfl) ?_
  refine g_obj B hl.1 (r5_in _ (List.mem_of_getElem? (i := 2) rfl)) dX6_init_1 (Nat.le_of_ble_eq_true rfl) (Nat.le_of_ble_eq_true rfl) ?_
  refine lv_aload_n hx hb dX6_init_4 rfl (lv_at hl 0 rfl) ?_
  refine lv_bipush (v := 7) hx hb dX6_init_5 (by decide) ?_
  refine b_put (ty := .int) B hI hA hW hS inlX6 tyX6 tyX6_ok nmX6 rfl 4 (by decide) (r5_in _ (List.mem_of_getElem? (i := 3) rfl)) rfl rfl (by decide +kernel) (by omega) h_0 (Nat.le_of_ble_eq_true rfl) rfl rfl dX6_init_7 (fun H locs hW hS => ?_)
  obtain ⟨E, hE0⟩ : ∃ E2, E2 = va_up E 0 (.inr (6, [.int 0, .int 0, .int 0, .int 0, .int 7, .int 0, .long 0, .long 0, .null, .null, .null, .null, .null, .null, .null, .null, .null, .null, .null, .null, .int 0, .int 0, .int 0, .int 0, .int 0, .int 0, .int 0, .int 0])) := ⟨_, rfl⟩
  have hW : hH D ad 1 E H := hW.eq hE0.symm
  obtain ⟨h9, hE⟩ := up_facts hE0
  have h_0 := h9
  clear hE0 h9 hE
  refine lv_aload_n hx hb dX6_init_10 rfl (lv_at hl 0 rfl) ?_
  refine lv_bipush (v := 8) hx hb dX6_init_11 (by decide) ?_
  refine g_newa B hI hA hAn hW hS (atype := .int) (ty := .int) rfl (r1_in _ (List.mem_of_getElem? (i := 20) rfl)) 0 hti (N' := 8) (a0 := (8, .inl (fun _ => 0))) (fun _ => rfl) (by decide) (by decide) (Nat.le_of_ble_eq_true rfl) (Nat.le_of_ble_eq_true rfl) (Nat.le_of_ble_eq_true rfl) dX6_init_13 (fun ad E H ha hE h9 hI hA hW hS => ?_)
  have h_0 := (hE 0 (by omega)).trans h_0
  rw [← ha 0 (by omega)] at hl
  rw [← ha 0 (by omega)]
  rw [← ha 0 (by omega)] at ha0
  have h_1 : E 1 = .inl (cI, 8, .inl (fun _ => 0)) := h9
  have hI : aI ad 2 := hI
  have hA : ∀ k : Nat, k < 2 → A (ad k) := hA
  have hW : hH D ad 2 E H := hW
  refine g_putF (ty := .array .int) B hnm hI hA hW hS inlX6 tyX6 tyX6_ok nmX6 rfl 8 (by decide) (r5_in _ (List.mem_of_getElem? (i := 4) rfl)) rfl rfl rfl (by decide +kernel) (by omega) h_0 (Nat.le_of_ble_eq_true rfl) rfl rfl dX6_init_15 (fun H locs hW hS => ?_)
  obtain ⟨E, hE0⟩ : ∃ E2, E2 = va_up E 0 (.inr (6, [.int 0, .int 0, .int 0, .int 0, .int 7, .int 0, .long 0, .long 0, .ref (ad 1), .null, .null, .null, .null, .null, .null, .null, .null, .null, .null, .null, .int 0, .int 0, .int 0, .int 0, .int 0, .int 0, .int 0, .int 0])) := ⟨_, rfl⟩
  have hW : hH D ad 2 E H := hW.eq hE0.symm
  obtain ⟨h9, hE⟩ := up_facts hE0
  have h_1 := (hE 1 (by omega)).trans h_1
  have h_0 := h9
  clear hE0 h9 hE
  refine lv_aload_n hx hb dX6_init_18 rfl (lv_at hl 0 rfl) ?_
  refine lv_sipush (v := 2880) hx hb dX6_init_19 (by decide) ?_
  refine g_newa B hI hA hAn hW hS (atype := .int) (ty := .int) rfl (r1_in _ (List.mem_of_getElem? (i := 20) rfl)) 0 hti (N' := 2880) (a0 := (2880, .inl (fun _ => 0))) (fun _ => rfl) (by decide) (by decide) (Nat.le_of_ble_eq_true rfl) (Nat.le_of_ble_eq_true rfl) (Nat.le_of_ble_eq_true rfl) dX6_init_22 (fun ad E H ha hE h9 hI hA hW hS => ?_)
  have h_0 := (hE 0 (by omega)).trans h_0
  have h_1 := (hE 1 (by omega)).trans h_1
  rw [← ha 1 (by omega)] at h_0
  rw [← ha 0 (by omega)] at hl
  rw [← ha 0 (by omega)]
  rw [← ha 0 (by omega)] at ha0
  have h_2 : E 2 = .inl (cI, 2880, .inl (fun _ => 0)) := h9
  have hI : aI ad 3 := hI
  have hA : ∀ k : Nat, k < 3 → A (ad k) := hA
  have hW : hH D ad 3 E H := hW
  refine g_putF (ty := .array .int) B hnm hI hA hW hS inlX6 tyX6 tyX6_ok nmX6 rfl 9 (by decide) (r5_in _ (List.mem_of_getElem? (i := 5) rfl)) rfl rfl rfl (by decide +kernel) (by omega) h_0 (Nat.le_of_ble_eq_true rfl) rfl rfl dX6_init_24 (fun H locs hW hS => ?_)
  obtain ⟨E, hE0⟩ : ∃ E2, E2 = va_up E 0 (.inr (6, [.int 0, .int 0, .int 0, .int 0, .int 7, .int 0, .long 0, .long 0, .ref (ad 1), .ref (ad 2), .null, .null, .null, .null, .null, .null, .null, .null, .null, .null, .int 0, .int 0, .int 0, .int 0, .int 0, .int 0, .int 0, .int 0])) := ⟨_, rfl⟩
  have hW : hH D ad 3 E H := hW.eq hE0.symm
  obtain ⟨h9, hE⟩ := up_facts hE0
  have h_1 := (hE 1 (by omega)).trans h_1
  have h_2 := (hE 2 (by omega)).trans h_2
  have h_0 := h9
  clear hE0 h9 hE
  refine lv_aload_n hx hb dX6_init_27 rfl (lv_at hl 0 rfl) ?_
  refine lv_sipush (v := 2880) hx hb dX6_init_28 (by decide) ?_
  refine g_newa B hI hA hAn hW hS (atype := .int) (ty := .int) rfl (r1_in _ (List.mem_of_getElem? (i := 20) rfl)) 0 hti (N' := 2880) (a0 := (2880, .inl (fun _ => 0))) (fun _ => rfl) (by decide) (by decide) (Nat.le_of_ble_eq_true rfl) (Nat.le_of_ble_eq_true rfl) (Nat.le_of_ble_eq_true rfl) dX6_init_31 (fun ad E H ha hE h9 hI hA hW hS => ?_)
  have h_0 := (hE 0 (by omega)).trans h_0
  have h_1 := (hE 1 (by omega)).trans h_1
  have h_2 := (hE 2 (by omega)).trans h_2
  rw [← ha 1 (by omega)] at h_0
  rw [← ha 2 (by omega)] at h_0
  rw [← ha 0 (by omega)] at hl
  rw [← ha 0 (by omega)]
  rw [← ha 0 (by omega)] at ha0
  have h_3 : E 3 = .inl (cI, 2880, .inl (fun _ => 0)) := h9
  have hI : aI ad 4 := hI
  have hA : ∀ k : Nat, k < 4 → A (ad k) := hA
  have hW : hH D ad 4 E H := hW
  refine g_putF (ty := .array .int) B hnm hI hA hW hS inlX6 tyX6 tyX6_ok nmX6 rfl 10 (by decide) (r5_in _ (List.mem_of_getElem? (i := 6) rfl)) rfl rfl rfl (by decide +kernel) (by omega) h_0 (Nat.le_of_ble_eq_true rfl) rfl rfl dX6_init_33 (fun H locs hW hS => ?_)
  obtain ⟨E, hE0⟩ : ∃ E2, E2 = va_up E 0 (.inr (6, [.int 0, .int 0, .int 0, .int 0, .int 7, .int 0, .long 0, .long 0, .ref (ad 1), .ref (ad 2), .ref (ad 3), .null, .null, .null, .null, .null, .null, .null, .null, .null, .int 0, .int 0, .int 0, .int 0, .int 0, .int 0, .int 0, .int 0])) := ⟨_, rfl⟩
  have hW : hH D ad 4 E H := hW.eq hE0.symm
  obtain ⟨h9, hE⟩ := up_facts hE0
  have h_1 := (hE 1 (by omega)).trans h_1
  have h_2 := (hE 2 (by omega)).trans h_2
  have h_3 := (hE 3 (by omega)).trans h_3
  have h_0 := h9
  clear hE0 h9 hE
  refine lv_aload_n hx hb dX6_init_36 rfl (lv_at hl 0 rfl) ?_
  refine lv_sipush (v := 1440) hx hb dX6_init_37 (by decide) ?_
  refine g_newa B hI hA hAn hW hS (atype := .int) (ty := .int) rfl (r1_in _ (List.mem_of_getElem? (i := 20) rfl)) 0 hti (N' := 1440) (a0 := (1440, .inl (fun _ => 0))) (fun _ => rfl) (by decide) (by decide) (Nat.le_of_ble_eq_true rfl) (Nat.le_of_ble_eq_true rfl) (Nat.le_of_ble_eq_true rfl) dX6_init_40 (fun ad E H ha hE h9 hI hA hW hS => ?_)
  have h_0 := (hE 0 (by omega)).trans h_0
  have h_1 := (hE 1 (by omega)).trans h_1
  have h_2 := (hE 2 (by omega)).trans h_2
  have h_3 := (hE 3 (by omega)).trans h_3
  rw [← ha 1 (by omega)] at h_0
  rw [← ha 2 (by omega)] at h_0
  rw [← ha 3 (by omega)] at h_0
  rw [← ha 0 (by omega)] at hl
  rw [← ha 0 (by omega)]
  rw [← ha 0 (by omega)] at ha0
  have h_4 : E 4 = .inl (cI, 1440, .inl (fun _ => 0)) := h9
  have hI : aI ad 5 := hI
  have hA : ∀ k : Nat, k < 5 → A (ad k) := hA
  have hW : hH D ad 5 E H := hW
  refine g_putF (ty := .array .int) B hnm hI hA hW hS inlX6 tyX6 tyX6_ok nmX6 rfl 11 (by decide) (r5_in _ (List.mem_of_getElem? (i := 7) rfl)) rfl rfl rfl (by decide +kernel) (by omega) h_0 (Nat.le_of_ble_eq_true rfl) rfl rfl dX6_init_42 (fun H locs hW hS => ?_)
  obtain ⟨E, hE0⟩ : ∃ E2, E2 = va_up E 0 (.inr (6, [.int 0, .int 0, .int 0, .int 0, .int 7, .int 0, .long 0, .long 0, .ref (ad 1), .ref (ad 2), .ref (ad 3), .ref (ad 4), .null, .null, .null, .null, .null, .null, .null, .null, .int 0, .int 0, .int 0, .int 0, .int 0, .int 0, .int 0, .int 0])) := ⟨_, rfl⟩
  have hW : hH D ad 5 E H := hW.eq hE0.symm
  obtain ⟨h9, hE⟩ := up_facts hE0
  have h_1 := (hE 1 (by omega)).trans h_1
  have h_2 := (hE 2 (by omega)).trans h_2
  have h_3 := (hE 3 (by omega)).trans h_3
  have h_4 := (hE 4 (by omega)).trans h_4
  have h_0 := h9
  clear hE0 h9 hE
  refine lv_aload_n hx hb dX6_init_45 rfl (lv_at hl 0 rfl) ?_
  refine lv_sipush (v := 2520) hx hb dX6_init_46 (by decide) ?_
  refine g_newa B hI hA hAn hW hS (atype := .int) (ty := .int) rfl (r1_in _ (List.mem_of_getElem? (i := 20) rfl)) 0 hti (N' := 2520) (a0 := (2520, .inl (fun _ => 0))) (fun _ => rfl) (by decide) (by decide) (Nat.le_of_ble_eq_true rfl) (Nat.le_of_ble_eq_true rfl) (Nat.le_of_ble_eq_true rfl) dX6_init_49 (fun ad E H ha hE h9 hI hA hW hS => ?_)
  have h_0 := (hE 0 (by omega)).trans h_0
  have h_1 := (hE 1 (by omega)).trans h_1
  have h_2 := (hE 2 (by omega)).trans h_2
  have h_3 := (hE 3 (by omega)).trans h_3
  have h_4 := (hE 4 (by omega)).trans h_4
  rw [← ha 1 (by omega)] at h_0
  rw [← ha 2 (by omega)] at h_0
  rw [← ha 3 (by omega)] at h_0
  rw [← ha 4 (by omega)] at h_0
  rw [← ha 0 (by omega)] at hl
  rw [← ha 0 (by omega)]
  rw [← ha 0 (by omega)] at ha0
  have h_5 : E 5 = .inl (cI, 2520, .inl (fun _ => 0)) := h9
  have hI : aI ad 6 := hI
  have hA : ∀ k : Nat, k < 6 → A (ad k) := hA
  have hW : hH D ad 6 E H := hW
  refine g_putF (ty := .array .int) B hnm hI hA hW hS inlX6 tyX6 tyX6_ok nmX6 rfl 12 (by decide) (r5_in _ (List.mem_of_getElem? (i := 8) rfl)) rfl rfl rfl (by decide +kernel) (by omega) h_0 (Nat.le_of_ble_eq_true rfl) rfl rfl dX6_init_51 (fun H locs hW hS => ?_)
  obtain ⟨E, hE0⟩ : ∃ E2, E2 = va_up E 0 (.inr (6, [.int 0, .int 0, .int 0, .int 0, .int 7, .int 0, .long 0, .long 0, .ref (ad 1), .ref (ad 2), .ref (ad 3), .ref (ad 4), .ref (ad 5), .null, .null, .null, .null, .null, .null, .null, .int 0, .int 0, .int 0, .int 0, .int 0, .int 0, .int 0, .int 0])) := ⟨_, rfl⟩
  have hW : hH D ad 6 E H := hW.eq hE0.symm
  obtain ⟨h9, hE⟩ := up_facts hE0
  have h_1 := (hE 1 (by omega)).trans h_1
  have h_2 := (hE 2 (by omega)).trans h_2
  have h_3 := (hE 3 (by omega)).trans h_3
  have h_4 := (hE 4 (by omega)).trans h_4
  have h_5 := (hE 5 (by omega)).trans h_5
  have h_0 := h9
  clear hE0 h9 hE
  refine lv_aload_n hx hb dX6_init_54 rfl (lv_at hl 0 rfl) ?_
  refine lv_sipush (v := 2880) hx hb dX6_init_55 (by decide) ?_
  refine g_newa B hI hA hAn hW hS (atype := .boolean) (ty := .boolean) rfl (r5_in _ (List.mem_of_getElem? (i := 9) rfl)) 1 htz (N' := 2880) (a0 := (2880, .inl (fun _ => 0))) (fun _ => rfl) (by decide) (by decide) (Nat.le_of_ble_eq_true rfl) (Nat.le_of_ble_eq_true rfl) (Nat.le_of_ble_eq_true rfl) dX6_init_58 (fun ad E H ha hE h9 hI hA hW hS => ?_)
  have h_0 := (hE 0 (by omega)).trans h_0
  have h_1 := (hE 1 (by omega)).trans h_1
  have h_2 := (hE 2 (by omega)).trans h_2
  have h_3 := (hE 3 (by omega)).trans h_3
  have h_4 := (hE 4 (by omega)).trans h_4
  have h_5 := (hE 5 (by omega)).trans h_5
  rw [← ha 1 (by omega)] at h_0
  rw [← ha 2 (by omega)] at h_0
  rw [← ha 3 (by omega)] at h_0
  rw [← ha 4 (by omega)] at h_0
  rw [← ha 5 (by omega)] at h_0
  rw [← ha 0 (by omega)] at hl
  rw [← ha 0 (by omega)]
  rw [← ha 0 (by omega)] at ha0
  have h_6 : E 6 = .inl (cZ, 2880, .inl (fun _ => 0)) := h9
  have hI : aI ad 7 := hI
  have hA : ∀ k : Nat, k < 7 → A (ad k) := hA
  have hW : hH D ad 7 E H := hW
  refine g_putF (ty := .array .boolean) B hnm hI hA hW hS inlX6 tyX6 tyX6_ok nmX6 rfl 13 (by decide) (r5_in _ (List.mem_of_getElem? (i := 10) rfl)) rfl rfl rfl (by decide +kernel) (by omega) h_0 (Nat.le_of_ble_eq_true rfl) rfl rfl dX6_init_60 (fun H locs hW hS => ?_)
  obtain ⟨E, hE0⟩ : ∃ E2, E2 = va_up E 0 (.inr (6, [.int 0, .int 0, .int 0, .int 0, .int 7, .int 0, .long 0, .long 0, .ref (ad 1), .ref (ad 2), .ref (ad 3), .ref (ad 4), .ref (ad 5), .ref (ad 6), .null, .null, .null, .null, .null, .null, .int 0, .int 0, .int 0, .int 0, .int 0, .int 0, .int 0, .int 0])) := ⟨_, rfl⟩
  have hW : hH D ad 7 E H := hW.eq hE0.symm
  obtain ⟨h9, hE⟩ := up_facts hE0
  have h_1 := (hE 1 (by omega)).trans h_1
  have h_2 := (hE 2 (by omega)).trans h_2
  have h_3 := (hE 3 (by omega)).trans h_3
  have h_4 := (hE 4 (by omega)).trans h_4
  have h_5 := (hE 5 (by omega)).trans h_5
  have h_6 := (hE 6 (by omega)).trans h_6
  have h_0 := h9
  clear hE0 h9 hE
  refine lv_aload_n hx hb dX6_init_63 rfl (lv_at hl 0 rfl) ?_
  refine lv_sipush (v := 2880) hx hb dX6_init_64 (by decide) ?_
  refine g_newa B hI hA hAn hW hS (atype := .boolean) (ty := .boolean) rfl (r5_in _ (List.mem_of_getElem? (i := 9) rfl)) 1 htz (N' := 2880) (a0 := (2880, .inl (fun _ => 0))) (fun _ => rfl) (by decide) (by decide) (Nat.le_of_ble_eq_true rfl) (Nat.le_of_ble_eq_true rfl) (Nat.le_of_ble_eq_true rfl) dX6_init_67 (fun ad E H ha hE h9 hI hA hW hS => ?_)
  have h_0 := (hE 0 (by omega)).trans h_0
  have h_1 := (hE 1 (by omega)).trans h_1
  have h_2 := (hE 2 (by omega)).trans h_2
  have h_3 := (hE 3 (by omega)).trans h_3
  have h_4 := (hE 4 (by omega)).trans h_4
  have h_5 := (hE 5 (by omega)).trans h_5
  have h_6 := (hE 6 (by omega)).trans h_6
  rw [← ha 1 (by omega)] at h_0
  rw [← ha 2 (by omega)] at h_0
  rw [← ha 3 (by omega)] at h_0
  rw [← ha 4 (by omega)] at h_0
  rw [← ha 5 (by omega)] at h_0
  rw [← ha 6 (by omega)] at h_0
  rw [← ha 0 (by omega)] at hl
  rw [← ha 0 (by omega)]
  rw [← ha 0 (by omega)] at ha0
  have h_7 : E 7 = .inl (cZ, 2880, .inl (fun _ => 0)) := h9
  have hI : aI ad 8 := hI
  have hA : ∀ k : Nat, k < 8 → A (ad k) := hA
  have hW : hH D ad 8 E H := hW
  refine g_putF (ty := .array .boolean) B hnm hI hA hW hS inlX6 tyX6 tyX6_ok nmX6 rfl 14 (by decide) (r5_in _ (List.mem_of_getElem? (i := 11) rfl)) rfl rfl rfl (by decide +kernel) (by omega) h_0 (Nat.le_of_ble_eq_true rfl) rfl rfl dX6_init_69 (fun H locs hW hS => ?_)
  obtain ⟨E, hE0⟩ : ∃ E2, E2 = va_up E 0 (.inr (6, [.int 0, .int 0, .int 0, .int 0, .int 7, .int 0, .long 0, .long 0, .ref (ad 1), .ref (ad 2), .ref (ad 3), .ref (ad 4), .ref (ad 5), .ref (ad 6), .ref (ad 7), .null, .null, .null, .null, .null, .int 0, .int 0, .int 0, .int 0, .int 0, .int 0, .int 0, .int 0])) := ⟨_, rfl⟩
  have hW : hH D ad 8 E H := hW.eq hE0.symm
  obtain ⟨h9, hE⟩ := up_facts hE0
  have h_1 := (hE 1 (by omega)).trans h_1
  have h_2 := (hE 2 (by omega)).trans h_2
  have h_3 := (hE 3 (by omega)).trans h_3
  have h_4 := (hE 4 (by omega)).trans h_4
  have h_5 := (hE 5 (by omega)).trans h_5
  have h_6 := (hE 6 (by omega)).trans h_6
  have h_7 := (hE 7 (by omega)).trans h_7
  have h_0 := h9
  clear hE0 h9 hE
  refine lv_aload_n hx hb dX6_init_72 rfl (lv_at hl 0 rfl) ?_
  refine lv_sipush (v := 1440) hx hb dX6_init_73 (by decide) ?_
  refine g_newa B hI hA hAn hW hS (atype := .boolean) (ty := .boolean) rfl (r5_in _ (List.mem_of_getElem? (i := 9) rfl)) 1 htz (N' := 1440) (a0 := (1440, .inl (fun _ => 0))) (fun _ => rfl) (by decide) (by decide) (Nat.le_of_ble_eq_true rfl) (Nat.le_of_ble_eq_true rfl) (Nat.le_of_ble_eq_true rfl) dX6_init_76 (fun ad E H ha hE h9 hI hA hW hS => ?_)
  have h_0 := (hE 0 (by omega)).trans h_0
  have h_1 := (hE 1 (by omega)).trans h_1
  have h_2 := (hE 2 (by omega)).trans h_2
  have h_3 := (hE 3 (by omega)).trans h_3
  have h_4 := (hE 4 (by omega)).trans h_4
  have h_5 := (hE 5 (by omega)).trans h_5
  have h_6 := (hE 6 (by omega)).trans h_6
  have h_7 := (hE 7 (by omega)).trans h_7
  rw [← ha 1 (by omega)] at h_0
  rw [← ha 2 (by omega)] at h_0
  rw [← ha 3 (by omega)] at h_0
  rw [← ha 4 (by omega)] at h_0
  rw [← ha 5 (by omega)] at h_0
  rw [← ha 6 (by omega)] at h_0
  rw [← ha 7 (by omega)] at h_0
  rw [← ha 0 (by omega)] at hl
  rw [← ha 0 (by omega)]
  rw [← ha 0 (by omega)] at ha0
  have h_8 : E 8 = .inl (cZ, 1440, .inl (fun _ => 0)) := h9
  have hI : aI ad 9 := hI
  have hA : ∀ k : Nat, k < 9 → A (ad k) := hA
  have hW : hH D ad 9 E H := hW
  refine g_putF (ty := .array .boolean) B hnm hI hA hW hS inlX6 tyX6 tyX6_ok nmX6 rfl 15 (by decide) (r5_in _ (List.mem_of_getElem? (i := 12) rfl)) rfl rfl rfl (by decide +kernel) (by omega) h_0 (Nat.le_of_ble_eq_true rfl) rfl rfl dX6_init_78 (fun H locs hW hS => ?_)
  obtain ⟨E, hE0⟩ : ∃ E2, E2 = va_up E 0 (.inr (6, [.int 0, .int 0, .int 0, .int 0, .int 7, .int 0, .long 0, .long 0, .ref (ad 1), .ref (ad 2), .ref (ad 3), .ref (ad 4), .ref (ad 5), .ref (ad 6), .ref (ad 7), .ref (ad 8), .null, .null, .null, .null, .int 0, .int 0, .int 0, .int 0, .int 0, .int 0, .int 0, .int 0])) := ⟨_, rfl⟩
  have hW : hH D ad 9 E H := hW.eq hE0.symm
  obtain ⟨h9, hE⟩ := up_facts hE0
  have h_1 := (hE 1 (by omega)).trans h_1
  have h_2 := (hE 2 (by omega)).trans h_2
  have h_3 := (hE 3 (by omega)).trans h_3
  have h_4 := (hE 4 (by omega)).trans h_4
  have h_5 := (hE 5 (by omega)).trans h_5
  have h_6 := (hE 6 (by omega)).trans h_6
  have h_7 := (hE 7 (by omega)).trans h_7
  have h_8 := (hE 8 (by omega)).trans h_8
  have h_0 := h9
  clear hE0 h9 hE
  refine lv_aload_n hx hb dX6_init_81 rfl (lv_at hl 0 rfl) ?_
  refine lv_sipush (v := 2520) hx hb dX6_init_82 (by decide) ?_
  refine g_newa B hI hA hAn hW hS (atype := .boolean) (ty := .boolean) rfl (r5_in _ (List.mem_of_getElem? (i := 9) rfl)) 1 htz (N' := 2520) (a0 := (2520, .inl (fun _ => 0))) (fun _ => rfl) (by decide) (by decide) (Nat.le_of_ble_eq_true rfl) (Nat.le_of_ble_eq_true rfl) (Nat.le_of_ble_eq_true rfl) dX6_init_85 (fun ad E H ha hE h9 hI hA hW hS => ?_)
  have h_0 := (hE 0 (by omega)).trans h_0
  have h_1 := (hE 1 (by omega)).trans h_1
  have h_2 := (hE 2 (by omega)).trans h_2
  have h_3 := (hE 3 (by omega)).trans h_3
  have h_4 := (hE 4 (by omega)).trans h_4
  have h_5 := (hE 5 (by omega)).trans h_5
  have h_6 := (hE 6 (by omega)).trans h_6
  have h_7 := (hE 7 (by omega)).trans h_7
  have h_8 := (hE 8 (by omega)).trans h_8
  rw [← ha 1 (by omega)] at h_0
  rw [← ha 2 (by omega)] at h_0
  rw [← ha 3 (by omega)] at h_0
  rw [← ha 4 (by omega)] at h_0
  rw [← ha 5 (by omega)] at h_0
  rw [← ha 6 (by omega)] at h_0
  rw [← ha 7 (by omega)] at h_0
  rw [← ha 8 (by omega)] at h_0
  rw [← ha 0 (by omega)] at hl
  rw [← ha 0 (by omega)]
  rw [← ha 0 (by omega)] at ha0
  have h_9 : E 9 = .inl (cZ, 2520, .inl (fun _ => 0)) := h9
  have hI : aI ad 10 := hI
  have hA : ∀ k : Nat, k < 10 → A (ad k) := hA
  have hW : hH D ad 10 E H := hW
  refine g_putF (ty := .array .boolean) B hnm hI hA hW hS inlX6 tyX6 tyX6_ok nmX6 rfl 16 (by decide) (r5_in _ (List.mem_of_getElem? (i := 13) rfl)) rfl rfl rfl (by decide +kernel) (by omega) h_0 (Nat.le_of_ble_eq_true rfl) rfl rfl dX6_init_87 (fun H locs hW hS => ?_)
  obtain ⟨E, hE0⟩ : ∃ E2, E2 = va_up E 0 (.inr (6, [.int 0, .int 0, .int 0, .int 0, .int 7, .int 0, .long 0, .long 0, .ref (ad 1), .ref (ad 2), .ref (ad 3), .ref (ad 4), .ref (ad 5), .ref (ad 6), .ref (ad 7), .ref (ad 8), .ref (ad 9), .null, .null, .null, .int 0, .int 0, .int 0, .int 0, .int 0, .int 0, .int 0, .int 0])) := ⟨_, rfl⟩
  have hW : hH D ad 10 E H := hW.eq hE0.symm
  obtain ⟨h9, hE⟩ := up_facts hE0
  have h_1 := (hE 1 (by omega)).trans h_1
  have h_2 := (hE 2 (by omega)).trans h_2
  have h_3 := (hE 3 (by omega)).trans h_3
  have h_4 := (hE 4 (by omega)).trans h_4
  have h_5 := (hE 5 (by omega)).trans h_5
  have h_6 := (hE 6 (by omega)).trans h_6
  have h_7 := (hE 7 (by omega)).trans h_7
  have h_8 := (hE 8 (by omega)).trans h_8
  have h_9 := (hE 9 (by omega)).trans h_9
  have h_0 := h9
  clear hE0 h9 hE
  refine lv_aload_n hx hb dX6_init_90 rfl (lv_at hl 0 rfl) ?_
  refine lv_bipush (v := 48) hx hb dX6_init_91 (by decide) ?_
  refine g_newa B hI hA hAn hW hS (atype := .int) (ty := .int) rfl (r1_in _ (List.mem_of_getElem? (i := 20) rfl)) 0 hti (N' := 48) (a0 := (48, .inl (fun _ => 0))) (fun _ => rfl) (by decide) (by decide) (Nat.le_of_ble_eq_true rfl) (Nat.le_of_ble_eq_true rfl) (Nat.le_of_ble_eq_true rfl) dX6_init_93 (fun ad E H ha hE h9 hI hA hW hS => ?_)
  have h_0 := (hE 0 (by omega)).trans h_0
  have h_1 := (hE 1 (by omega)).trans h_1
  have h_2 := (hE 2 (by omega)).trans h_2
  have h_3 := (hE 3 (by omega)).trans h_3
  have h_4 := (hE 4 (by omega)).trans h_4
  have h_5 := (hE 5 (by omega)).trans h_5
  have h_6 := (hE 6 (by omega)).trans h_6
  have h_7 := (hE 7 (by omega)).trans h_7
  have h_8 := (hE 8 (by omega)).trans h_8
  have h_9 := (hE 9 (by omega)).trans h_9
  rw [← ha 1 (by omega)] at h_0
  rw [← ha 2 (by omega)] at h_0
  rw [← ha 3 (by omega)] at h_0
  rw [← ha 4 (by omega)] at h_0
  rw [← ha 5 (by omega)] at h_0
  rw [← ha 6 (by omega)] at h_0
  rw [← ha 7 (by omega)] at h_0
  rw [← ha 8 (by omega)] at h_0
  rw [← ha 9 (by omega)] at h_0
  rw [← ha 0 (by omega)] at hl
  rw [← ha 0 (by omega)]
  rw [← ha 0 (by omega)] at ha0
  have h_10 : E 10 = .inl (cI, 48, .inl (fun _ => 0)) := h9
  have hI : aI ad 11 := hI
  have hA : ∀ k : Nat, k < 11 → A (ad k) := hA
  have hW : hH D ad 11 E H := hW
  refine g_putF (ty := .array .int) B hnm hI hA hW hS inlX6 tyX6 tyX6_ok nmX6 rfl 17 (by decide) (r5_in _ (List.mem_of_getElem? (i := 14) rfl)) rfl rfl rfl (by decide +kernel) (by omega) h_0 (Nat.le_of_ble_eq_true rfl) rfl rfl dX6_init_95 (fun H locs hW hS => ?_)
  obtain ⟨E, hE0⟩ : ∃ E2, E2 = va_up E 0 (.inr (6, [.int 0, .int 0, .int 0, .int 0, .int 7, .int 0, .long 0, .long 0, .ref (ad 1), .ref (ad 2), .ref (ad 3), .ref (ad 4), .ref (ad 5), .ref (ad 6), .ref (ad 7), .ref (ad 8), .ref (ad 9), .ref (ad 10), .null, .null, .int 0, .int 0, .int 0, .int 0, .int 0, .int 0, .int 0, .int 0])) := ⟨_, rfl⟩
  have hW : hH D ad 11 E H := hW.eq hE0.symm
  obtain ⟨h9, hE⟩ := up_facts hE0
  have h_1 := (hE 1 (by omega)).trans h_1
  have h_2 := (hE 2 (by omega)).trans h_2
  have h_3 := (hE 3 (by omega)).trans h_3
  have h_4 := (hE 4 (by omega)).trans h_4
  have h_5 := (hE 5 (by omega)).trans h_5
  have h_6 := (hE 6 (by omega)).trans h_6
  have h_7 := (hE 7 (by omega)).trans h_7
  have h_8 := (hE 8 (by omega)).trans h_8
  have h_9 := (hE 9 (by omega)).trans h_9
  have h_10 := (hE 10 (by omega)).trans h_10
  have h_0 := h9
  clear hE0 h9 hE
  refine lv_aload_n hx hb dX6_init_98 rfl (lv_at hl 0 rfl) ?_
  refine lv_bipush (v := 48) hx hb dX6_init_99 (by decide) ?_
  refine g_newa B hI hA hAn hW hS (atype := .int) (ty := .int) rfl (r1_in _ (List.mem_of_getElem? (i := 20) rfl)) 0 hti (N' := 48) (a0 := (48, .inl (fun _ => 0))) (fun _ => rfl) (by decide) (by decide) (Nat.le_of_ble_eq_true rfl) (Nat.le_of_ble_eq_true rfl) (Nat.le_of_ble_eq_true rfl) dX6_init_101 (fun ad E H ha hE h9 hI hA hW hS => ?_)
  have h_0 := (hE 0 (by omega)).trans h_0
  have h_1 := (hE 1 (by omega)).trans h_1
  have h_2 := (hE 2 (by omega)).trans h_2
  have h_3 := (hE 3 (by omega)).trans h_3
  have h_4 := (hE 4 (by omega)).trans h_4
  have h_5 := (hE 5 (by omega)).trans h_5
  have h_6 := (hE 6 (by omega)).trans h_6
  have h_7 := (hE 7 (by omega)).trans h_7
  have h_8 := (hE 8 (by omega)).trans h_8
  have h_9 := (hE 9 (by omega)).trans h_9
  have h_10 := (hE 10 (by omega)).trans h_10
  rw [← ha 1 (by omega)] at h_0
  rw [← ha 2 (by omega)] at h_0
  rw [← ha 3 (by omega)] at h_0
  rw [← ha 4 (by omega)] at h_0
  rw [← ha 5 (by omega)] at h_0
  rw [← ha 6 (by omega)] at h_0
  rw [← ha 7 (by omega)] at h_0
  rw [← ha 8 (by omega)] at h_0
  rw [← ha 9 (by omega)] at h_0
  rw [← ha 10 (by omega)] at h_0
  rw [← ha 0 (by omega)] at hl
  rw [← ha 0 (by omega)]
  rw [← ha 0 (by omega)] at ha0
  have h_11 : E 11 = .inl (cI, 48, .inl (fun _ => 0)) := h9
  have hI : aI ad 12 := hI
  have hA : ∀ k : Nat, k < 12 → A (ad k) := hA
  have hW : hH D ad 12 E H := hW
  refine g_putF (ty := .array .int) B hnm hI hA hW hS inlX6 tyX6 tyX6_ok nmX6 rfl 18 (by decide) (r5_in _ (List.mem_of_getElem? (i := 15) rfl)) rfl rfl rfl (by decide +kernel) (by omega) h_0 (Nat.le_of_ble_eq_true rfl) rfl rfl dX6_init_103 (fun H locs hW hS => ?_)
  obtain ⟨E, hE0⟩ : ∃ E2, E2 = va_up E 0 (.inr (6, [.int 0, .int 0, .int 0, .int 0, .int 7, .int 0, .long 0, .long 0, .ref (ad 1), .ref (ad 2), .ref (ad 3), .ref (ad 4), .ref (ad 5), .ref (ad 6), .ref (ad 7), .ref (ad 8), .ref (ad 9), .ref (ad 10), .ref (ad 11), .null, .int 0, .int 0, .int 0, .int 0, .int 0, .int 0, .int 0, .int 0])) := ⟨_, rfl⟩
  have hW : hH D ad 12 E H := hW.eq hE0.symm
  obtain ⟨h9, hE⟩ := up_facts hE0
  have h_1 := (hE 1 (by omega)).trans h_1
  have h_2 := (hE 2 (by omega)).trans h_2
  have h_3 := (hE 3 (by omega)).trans h_3
  have h_4 := (hE 4 (by omega)).trans h_4
  have h_5 := (hE 5 (by omega)).trans h_5
  have h_6 := (hE 6 (by omega)).trans h_6
  have h_7 := (hE 7 (by omega)).trans h_7
  have h_8 := (hE 8 (by omega)).trans h_8
  have h_9 := (hE 9 (by omega)).trans h_9
  have h_10 := (hE 10 (by omega)).trans h_10
  have h_11 := (hE 11 (by omega)).trans h_11
  have h_0 := h9
  clear hE0 h9 hE
  refine lv_aload_n hx hb dX6_init_106 rfl (lv_at hl 0 rfl) ?_
  refine lv_bipush (v := 12) hx hb dX6_init_107 (by decide) ?_
  refine g_newa B hI hA hAn hW hS (atype := .int) (ty := .int) rfl (r1_in _ (List.mem_of_getElem? (i := 20) rfl)) 0 hti (N' := 12) (a0 := (12, .inl (fun _ => 0))) (fun _ => rfl) (by decide) (by decide) (Nat.le_of_ble_eq_true rfl) (Nat.le_of_ble_eq_true rfl) (Nat.le_of_ble_eq_true rfl) dX6_init_109 (fun ad E H ha hE h9 hI hA hW hS => ?_)
  have h_0 := (hE 0 (by omega)).trans h_0
  have h_1 := (hE 1 (by omega)).trans h_1
  have h_2 := (hE 2 (by omega)).trans h_2
  have h_3 := (hE 3 (by omega)).trans h_3
  have h_4 := (hE 4 (by omega)).trans h_4
  have h_5 := (hE 5 (by omega)).trans h_5
  have h_6 := (hE 6 (by omega)).trans h_6
  have h_7 := (hE 7 (by omega)).trans h_7
  have h_8 := (hE 8 (by omega)).trans h_8
  have h_9 := (hE 9 (by omega)).trans h_9
  have h_10 := (hE 10 (by omega)).trans h_10
  have h_11 := (hE 11 (by omega)).trans h_11
  rw [← ha 1 (by omega)] at h_0
  rw [← ha 2 (by omega)] at h_0
  rw [← ha 3 (by omega)] at h_0
  rw [← ha 4 (by omega)] at h_0
  rw [← ha 5 (by omega)] at h_0
  rw [← ha 6 (by omega)] at h_0
  rw [← ha 7 (by omega)] at h_0
  rw [← ha 8 (by omega)] at h_0
  rw [← ha 9 (by omega)] at h_0
  rw [← ha 10 (by omega)] at h_0
  rw [← ha 11 (by omega)] at h_0
  rw [← ha 0 (by omega)] at hl
  rw [← ha 0 (by omega)]
  rw [← ha 0 (by omega)] at ha0
  have h_12 : E 12 = .inl (cI, 12, .inl (fun _ => 0)) := h9
  have hI : aI ad 13 := hI
  have hA : ∀ k : Nat, k < 13 → A (ad k) := hA
  have hW : hH D ad 13 E H := hW
  refine g_putF (ty := .array .int) B hnm hI hA hW hS inlX6 tyX6 tyX6_ok nmX6 rfl 19 (by decide) (r5_in _ (List.mem_of_getElem? (i := 16) rfl)) rfl rfl rfl (by decide +kernel) (by omega) h_0 (Nat.le_of_ble_eq_true rfl) rfl rfl dX6_init_111 (fun H locs hW hS => ?_)
  obtain ⟨E, hE0⟩ : ∃ E2, E2 = va_up E 0 (.inr (6, [.int 0, .int 0, .int 0, .int 0, .int 7, .int 0, .long 0, .long 0, .ref (ad 1), .ref (ad 2), .ref (ad 3), .ref (ad 4), .ref (ad 5), .ref (ad 6), .ref (ad 7), .ref (ad 8), .ref (ad 9), .ref (ad 10), .ref (ad 11), .ref (ad 12), .int 0, .int 0, .int 0, .int 0, .int 0, .int 0, .int 0, .int 0])) := ⟨_, rfl⟩
  have hW : hH D ad 13 E H := hW.eq hE0.symm
  obtain ⟨h9, hE⟩ := up_facts hE0
  have h_1 := (hE 1 (by omega)).trans h_1
  have h_2 := (hE 2 (by omega)).trans h_2
  have h_3 := (hE 3 (by omega)).trans h_3
  have h_4 := (hE 4 (by omega)).trans h_4
  have h_5 := (hE 5 (by omega)).trans h_5
  have h_6 := (hE 6 (by omega)).trans h_6
  have h_7 := (hE 7 (by omega)).trans h_7
  have h_8 := (hE 8 (by omega)).trans h_8
  have h_9 := (hE 9 (by omega)).trans h_9
  have h_10 := (hE 10 (by omega)).trans h_10
  have h_11 := (hE 11 (by omega)).trans h_11
  have h_12 := (hE 12 (by omega)).trans h_12
  have h_0 := h9
  clear hE0 h9 hE
  have L_138 : ∀ (n_ r : Nat) (E9 : Nat → va_E) (fh g h : Nat → Int32), r ≤ 7 → 7 < n_ + r → (∀ j, j < 2880 → fh j = -1) → (∀ j, j < 360 * r → g j = ruFi (j / 360)) → (∀ j, j < 2520 → h j = if j % 360 = 0 ∧ j < 360 * r then 1 else 0) → E9 2 = .inl (cI, 2880, .inl fh) → E9 5 = .inl (cI, 2520, .inl g) → E9 9 = .inl (cZ, 2520, .inl h) → (∀ j : Nat, j ≠ 2 → j ≠ 5 → j ≠ 9 → E9 j = E j) → ∀ (H : Heap) (locs : List Loc) (ls : Array Slot), hH D ad 13 E9 H → va_S A s.heap H locs → lv_has ls 3 [(1, .int (nI r)), (0, .ref (ad 0))] → W p l e (rmk 1 12 19556) s m args below meth c H locs 12 19556 Q (F0 m 138 ls []) := by
    intro n_
    induction n_ with
    | zero =>
      intro r E9 fh g h hi hn
      omega
    | succ n_ ih =>
      intro r E9 fh g h hi hn hfh hg hh e2 e5 e9 hEb H locs ls hW hS hl
      have e0 : E9 0 = .inr (6, [.int 0, .int 0, .int 0, .int 0, .int 7, .int 0, .long 0, .long 0, .ref (ad 1), .ref (ad 2), .ref (ad 3), .ref (ad 4), .ref (ad 5), .ref (ad 6), .ref (ad 7), .ref (ad 8), .ref (ad 9), .ref (ad 10), .ref (ad 11), .ref (ad 12), .int 0, .int 0, .int 0, .int 0, .int 0, .int 0, .int 0, .int 0]) := (hEb 0 (by omega) (by omega) (by omega)).trans h_0
      refine lv_iload_n hx hb dX6_init_138 rfl (lv_at hl 0 rfl) ?_
      refine lv_bipush (v := nI 7) hx hb dX6_init_139 (by decide) ?_
      refine lv_icmp_ge (tgt := 192) hx hb dX6_init_141 (by decide) (fun c_141 => ?_) (fun c_141 => ?_)
      · have e7 : r = 7 := by have := (nI_leI (by omega) (by omega)).mp c_141; omega
        subst e7
        exact e_g hQ B hr hlk hS ha0.symm hI hA hW dX6_init_192 (Nat.le_of_ble_eq_true rfl) (Nat.le_of_ble_eq_true rfl) ⟨fh, g, h, hfh, fun j hj => hg j (by omega), fun j hj => by rw [hh j hj]; exact ife (and_iff_left (by omega)) _ _, e0, (hEb 1 (by omega) (by omega) (by omega)).trans h_1, e2, (hEb 3 (by omega) (by omega) (by omega)).trans h_3, (hEb 4 (by omega) (by omega) (by omega)).trans h_4, e5, (hEb 6 (by omega) (by omega) (by omega)).trans h_6, (hEb 7 (by omega) (by omega) (by omega)).trans h_7, (hEb 8 (by omega) (by omega) (by omega)).trans h_8, e9, (hEb 10 (by omega) (by omega) (by omega)).trans h_10, (hEb 11 (by omega) (by omega) (by omega)).trans h_11, (hEb 12 (by omega) (by omega) (by omega)).trans h_12⟩
      · have hi7 : r < 7 := Nat.lt_of_not_le (fun q => c_141 ((nI_leI (by omega) (by omega)).mpr q))
        have L_157 : ∀ (m_ d : Nat) (E9 : Nat → va_E) (g h : Nat → Int32), d ≤ 360 → 360 < m_ + d → (∀ j, j < 360 * r + d → g j = ruFi (j / 360)) → (∀ j, j < 2520 → h j = if j % 360 = 0 ∧ j < 360 * (r + 1) then 1 else 0) → E9 2 = .inl (cI, 2880, .inl fh) → E9 5 = .inl (cI, 2520, .inl g) → E9 9 = .inl (cZ, 2520, .inl h) → (∀ j : Nat, j ≠ 2 → j ≠ 5 → j ≠ 9 → E9 j = E j) → ∀ (H : Heap) (locs : List Loc) (ls : Array Slot), hH D ad 13 E9 H → va_S A s.heap H locs → lv_has ls 3 [(2, .int (nI d)), (1, .int (nI r)), (0, .ref (ad 0))] → W p l e (rmk 1 12 19556) s m args below meth c H locs 12 19556 Q (F0 m 157 ls []) := by
          intro m_
          induction m_ with
          | zero =>
            intro d E9 g h hi hn
            omega
          | succ m_ ih2 =>
            intro d E9 g h hd hm hg hh e2 e5 e9 hEb H locs ls hW hS hl
            have e0 : E9 0 = .inr (6, [.int 0, .int 0, .int 0, .int 0, .int 7, .int 0, .long 0, .long 0, .ref (ad 1), .ref (ad 2), .ref (ad 3), .ref (ad 4), .ref (ad 5), .ref (ad 6), .ref (ad 7), .ref (ad 8), .ref (ad 9), .ref (ad 10), .ref (ad 11), .ref (ad 12), .int 0, .int 0, .int 0, .int 0, .int 0, .int 0, .int 0, .int 0]) := (hEb 0 (by omega) (by omega) (by omega)).trans h_0
            refine lv_iload_n hx hb dX6_init_157 rfl (lv_at hl 0 rfl) ?_
            refine lv_sipush (v := nI 360) hx hb dX6_init_158 (by decide) ?_
            refine lv_icmp_ge (tgt := 186) hx hb dX6_init_161 (by decide) (fun c_161 => ?_) (fun c_161 => ?_)
            · have e7 : d = 360 := by have := (nI_leI (by omega) (by omega)).mp c_161; omega
              subst e7
              refine lv_iinc (v := nI (r + 1)) (lv' := [(1, .int (nI (r + 1))), (2, .int (nI 360)), (0, .ref (ad 0))]) hx hb dX6_init_186 hl (k := 1) rfl (nI_1 r) (by decide) rfl (fun ls hl => ?_)
              refine lv_goto (tgt := 138) hx hb dX6_init_189 (by decide) ?_
              exact ih (r + 1) E9 fh g h (by omega) (by omega) hfh (fun j hj => hg j (by omega)) hh e2 e5 e9 hEb H locs ls hW hS (lv_sub hl [0, 2] rfl)
            · have hd3 : d < 360 := Nat.lt_of_not_le (fun q => c_161 ((nI_leI (by omega) (by omega)).mpr q))
              refine lv_aload_n hx hb dX6_init_164 rfl (lv_at hl 2 rfl) ?_
              refine gfX6_26 B hT hW (by omega) e0 rfl dX6_init_165 ?_
              refine lv_sipush (v := nI 360) hx hb dX6_init_168 (by decide) ?_
              refine lv_iload_n hx hb dX6_init_171 rfl (lv_at hl 1 rfl) ?_
              refine lv_imul hx hb dX6_init_172 ?_
              refine lv_iload_n hx hb dX6_init_173 rfl (lv_at hl 0 rfl) ?_
              refine lv_iadd hx hb dX6_init_174 ?_
              refine b_top (y := nI (360 * r + d)) (by rw [nI_mul, nI_add]) ?_
              refine lv_iload_n hx hb dX6_init_175 rfl (lv_at hl 1 rfl) ?_
              refine g_ci (g_runS (As := [.int (nI r)]) (rest := [.int (nI (360 * r + d)), .ref (ad 5)]) B hT hX hAn hA hW hS (fun sz => mm_first hI r hi7 sz) (cwX6_51 B.2.2.2.2.1 ⟨Nat.le_of_ble_eq_true rfl, Nat.le_of_ble_eq_true rfl⟩) rfl hl.1 (Nat.le_of_ble_eq_true rfl) dX6_init_176 ⟨Nat.le_of_ble_eq_true rfl, Nat.le_of_ble_eq_true rfl⟩) hA hAn hS (fun r_176 E1 H locs hp_176 hW hS => ?_)
              obtain ⟨hr_, hE_⟩ := hp_176
              subst hr_
              have hW := hW.eq hE_
              refine b_iast B hI hA hW hS hti (j := 360 * r + d) (by omega) e5 (vp_in_nI (by omega) (Nat.le_of_ble_eq_true rfl)) (nI_clamp (by omega)) dX6_init_179 (fun H locs hW hS => ?_)
              refine lv_iinc (v := nI (d + 1)) (lv' := [(2, .int (nI (d + 1))), (1, .int (nI r)), (0, .ref (ad 0))]) hx hb dX6_init_180 hl (k := 0) rfl (nI_1 d) (by decide) rfl (fun ls hl => ?_)
              refine lv_goto (tgt := 157) hx hb dX6_init_183 (by decide) ?_
              exact ih2 (d + 1) _ (upd g (360 * r + d) (ruFi r)) h (by omega) (by omega) (fun j hj => by by_cases hji : j = 360 * r + d; exact (by rw [hji, pk_us, show (360 * r + d) / 360 = r by omega]); exact (by rw [pk_un hji]; exact hg j (by omega))) hh ((va_up_ne _ _ (by omega)).trans e2) (va_up_self _ _ _) ((va_up_ne _ _ (by omega)).trans e9) (fun j h2 h5 h9 => (va_up_ne _ _ h5).trans (hEb j h2 h5 h9)) H locs ls hW hS hl
        refine lv_aload_n hx hb dX6_init_144 rfl (lv_at hl 1 rfl) ?_
        refine gfX6_39 B hT hW (by omega) e0 rfl dX6_init_145 ?_
        refine lv_sipush (v := nI 360) hx hb dX6_init_148 (by decide) ?_
        refine lv_iload_n hx hb dX6_init_151 rfl (lv_at hl 0 rfl) ?_
        refine lv_imul hx hb dX6_init_152 ?_
        refine b_top (y := nI (360 * r)) (nI_mul _ _) ?_
        refine lv_iconst (v := 1) hx hb dX6_init_153 (by decide) ?_
        refine b_zast B hI hA hW hS htz (j := 360 * r) (by omega) e9 (vp_in_nI (by omega) (Nat.le_of_ble_eq_true rfl)) (nI_clamp (by omega)) rfl dX6_init_154 (fun H locs hW hS => ?_)
        refine lv_iconst (v := nI 0) hx hb dX6_init_155 (by decide) ?_
        refine lv_istore_n (lv' := [(2, .int (nI 0)), (1, .int (nI r)), (0, .ref (ad 0))]) hx hb dX6_init_156 rfl hl (by decide) rfl (fun ls hl => ?_)
        exact L_157 361 0 _ g (upd h (360 * r) 1) (by omega) (by omega) (fun j hj => hg j (by omega)) (fun j hj => by by_cases hji : j = 360 * r; exact (by rw [hji, pk_us, if_pos ⟨by omega, by omega⟩]); exact (by rw [pk_un hji, hh j hj]; exact ife (and_congr_right (fun q => by omega)) _ _)) ((va_up_ne _ _ (by omega)).trans e2) ((va_up_ne _ _ (by omega)).trans e5) (va_up_self _ _ _) (fun j h2 h5 h9 => (va_up_ne _ _ h9).trans (hEb j h2 h5 h9)) H locs ls hW hS hl
  have L_116 : ∀ (n_ k : Nat) (E9 : Nat → va_E) (fh : Nat → Int32), k ≤ 2880 → 2880 < n_ + k → (∀ j, j < k → fh j = -1) → E9 2 = .inl (cI, 2880, .inl fh) → (∀ j : Nat, j ≠ 2 → E9 j = E j) → ∀ (H : Heap) (locs : List Loc) (ls : Array Slot), hH D ad 13 E9 H → va_S A s.heap H locs → lv_has ls 3 [(1, .int (nI k)), (0, .ref (ad 0))] → W p l e (rmk 1 12 19556) s m args below meth c H locs 12 19556 Q (F0 m 116 ls []) := by
    intro n_
    induction n_ with
    | zero =>
      intro k E9 fh hi hn
      omega
    | succ n_ ih =>
      intro k E9 fh hi hn hfh e2 hEb H locs ls hW hS hl
      have e0 : E9 0 = .inr (6, [.int 0, .int 0, .int 0, .int 0, .int 7, .int 0, .long 0, .long 0, .ref (ad 1), .ref (ad 2), .ref (ad 3), .ref (ad 4), .ref (ad 5), .ref (ad 6), .ref (ad 7), .ref (ad 8), .ref (ad 9), .ref (ad 10), .ref (ad 11), .ref (ad 12), .int 0, .int 0, .int 0, .int 0, .int 0, .int 0, .int 0, .int 0]) := (hEb 0 (by omega)).trans h_0
      refine lv_iload_n hx hb dX6_init_116 rfl (lv_at hl 0 rfl) ?_
      refine lv_sipush (v := nI 2880) hx hb dX6_init_117 (by decide) ?_
      refine lv_icmp_ge (tgt := 136) hx hb dX6_init_120 (by decide) (fun c_120 => ?_) (fun c_120 => ?_)
      · have e7 : k = 2880 := by have := (nI_leI (by omega) (by omega)).mp c_120; omega
        subst e7
        refine lv_iconst (v := nI 0) hx hb dX6_init_136 (by decide) ?_
        refine lv_istore_n (lv' := [(1, .int (nI 0)), (0, .ref (ad 0))]) hx hb dX6_init_137 rfl hl (by decide) rfl (fun ls hl => ?_)
        exact L_138 8 0 E9 fh (fun _ => 0) (fun _ => 0) (by omega) (by omega) hfh (fun j hj => absurd hj (by omega)) (fun j hj => (if_neg (by omega)).symm) e2 ((hEb 5 (by omega)).trans h_5) ((hEb 9 (by omega)).trans h_9) (fun j h2 _ _ => hEb j h2) H locs ls hW hS hl
      · have hk2 : k < 2880 := Nat.lt_of_not_le (fun q => c_120 ((nI_leI (by omega) (by omega)).mpr q))
        refine lv_aload_n hx hb dX6_init_123 rfl (lv_at hl 1 rfl) ?_
        refine gfX6_17 B hT hW (by omega) e0 rfl dX6_init_124 ?_
        refine lv_iload_n hx hb dX6_init_127 rfl (lv_at hl 0 rfl) ?_
        refine lv_iconst (v := (-1)) hx hb dX6_init_128 (by decide) ?_
        refine b_iast B hI hA hW hS hti (j := k) (by omega) e2 (vp_in_nI (by omega) (Nat.le_of_ble_eq_true rfl)) (nI_clamp (by omega)) dX6_init_129 (fun H locs hW hS => ?_)
        refine lv_iinc (v := nI (k + 1)) (lv' := [(1, .int (nI (k + 1))), (0, .ref (ad 0))]) hx hb dX6_init_130 hl (k := 0) rfl (nI_1 k) (by decide) rfl (fun ls hl => ?_)
        refine lv_goto (tgt := 116) hx hb dX6_init_133 (by decide) ?_
        exact ih (k + 1) _ (upd fh k (-1)) (by omega) (by omega) (fun j hj => by by_cases hji : j = k; exact (by rw [hji, pk_us]); exact (by rw [pk_un hji]; exact hfh j (by omega))) (va_up_self _ _ _) (fun j h2 => (va_up_ne _ _ h2).trans (hEb j h2)) H locs ls hW hS hl
  refine lv_iconst (v := nI 0) hx hb dX6_init_114 (by decide) ?_
  refine lv_istore_n (lv' := [(1, .int (nI 0)), (0, .ref (ad 0))]) hx hb dX6_init_115 rfl hl (by decide) rfl (fun ls hl => ?_)
  exact L_116 2881 0 E (fun _ => 0) (by omega) (by omega) (fun j hj => absurd hj (by omega)) h_2 (fun j _ => rfl) _ _ _ hW hS hl
