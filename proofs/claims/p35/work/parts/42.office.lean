def qA (cX : ClassId) (n : Nat) (f : Nat → Option Nat) : va_E := .inl (cX, n, .inr (.inr (.inr (.inr f))))
def offP (cI : ClassId) (so : Nat → Int32) (nf : Int32) (ad : Nat → Nat) (E : Nat → va_E) : Prop := E 0 = .inr (5, [.ref (ad 1), .ref (ad 2), .ref (ad 3), .int 0, .int 0, .ref (ad 4), .int nf, .int 0, .int 0, .long 0, .long 0, .ref (ad 5), .ref (ad 6), .ref (ad 7)]) ∧ E 4 = .inl (cI, 360, .inl so) ∧ E 5 = .inr (3, [.int 0, .int 0, .int 0]) ∧ E 6 = .inr (0, [.int 0, .int 0, .int 0, .int 0, .int 0]) ∧ E 7 = .inl (cI, 12, .inl (fun _ => 0))
theorem offP.cong {cI : ClassId} {so : Nat → Int32} {nf : Int32} {ad ad2 : Nat → Nat} {E E2 : Nat → va_E} (ha : ∀ k, k < 8 → ad2 k = ad k) (hE : ∀ k, k < 8 → k ≠ 1 → k ≠ 2 → k ≠ 3 → E2 k = E k) (h : offP cI so nf ad E) : offP cI so nf ad2 E2 := by
  obtain ⟨h1, h2, h3, h4, h5⟩ := h
  exact ⟨by rw [hE 0 (by omega) (by omega) (by omega) (by omega), ha 1 (by omega), ha 2 (by omega), ha 3 (by omega), ha 4 (by omega), ha 5 (by omega), ha 6 (by omega), ha 7 (by omega)]; exact h1, (hE 4 (by omega) (by omega) (by omega) (by omega)).trans h2, (hE 5 (by omega) (by omega) (by omega) (by omega)).trans h3, (hE 6 (by omega) (by omega) (by omega) (by omega)).trans h4, (hE 7 (by omega) (by omega) (by omega) (by omega)).trans h5⟩
/-- a rule's timeline, told for the first day -/
def rulP (cI cZ : ClassId) (v : Int32) (ad : Nat → Nat) (E : Nat → va_E) : Prop := E 0 = .inr (4, [.int 0, .ref (ad 1), .ref (ad 2)]) ∧ (∃ f : Nat → Int32, (∀ j, j < 360 → f j = v) ∧ E 1 = .inl (cI, 360, .inl f)) ∧ E 2 = .inl (cI, 12, .inl (pkb (upd (fun _ => 0) 0 1)))
theorem rulP.cong {cI cZ : ClassId} {v : Int32} {ad ad2 : Nat → Nat} {E E2 : Nat → va_E} (ha : ∀ k, k < 3 → ad2 k = ad k) (hE : ∀ k, k < 3 → E2 k = E k) (h : rulP cI cZ v ad E) : rulP cI cZ v ad2 E2 := by
  obtain ⟨h1, ⟨f, hf, h2⟩, h3⟩ := h
  exact ⟨by rw [hE 0 (by omega), ha 1 (by omega), ha 2 (by omega)]; exact h1, ⟨f, hf, (hE 1 (by omega)).trans h2⟩, (hE 2 (by omega)).trans h3⟩
theorem tell_all {f : Nat → Int32} {v : Int32} {j : Nat} (hj : j < 360) : tellV f (fun _ => 0) 0 v j = v := by
  unfold tellV hold
  rcases Nat.eq_zero_or_pos j with h | h
  · subst h
    rw [hF_lo _ _ _ _ (by omega)]
    exact pk_us
  · exact hF_in _ _ _ _ (by omega) (by omega) (fun y h1 _ => pk_un (by omega))
/-- what the office's constructor leaves -/
def offQ (cI cZ cH cP cT : ClassId) (ad : Nat → Nat) (E : Nat → va_E) : Prop := ∃ (so : Nat → Int32) (fP fH fT : Nat → Option Nat), (∀ d, d < 360 → so d = if d = 0 then nI 7 else 0) ∧ offP cI so (nI 7) ad E ∧ (E 1 = qA cP 8 fP ∧ ∀ j, j < 8 → fP j = some (ad (8 + 7 * j))) ∧ (E 2 = qA cH 4 fH ∧ ∀ j, j < 4 → fH j = some (ad (64 + 6 * j))) ∧ (E 3 = qA cT 7 fT ∧ ∀ j, j < 7 → fT j = some (ad (88 + 3 * j))) ∧
  (∀ j, j < 8 → perP cI cZ (fun k => ad (8 + 7 * j + k)) (fun k => E (8 + 7 * j + k))) ∧ (∀ j, j < 4 → hhP cI cZ (fun k => ad (64 + 6 * j + k)) (fun k => E (64 + 6 * j + k))) ∧ ∀ j, j < 7 → rulP cI cZ (ruFi j) (fun k => ad (88 + 3 * j + k)) (fun k => E (88 + 3 * j + k))
set_option maxHeartbeats 4000000 in
set_option maxRecDepth 100000 in
theorem mt_tell0 {l : Launch} {D : va_G} {tys : List (ClassId × FieldType)} {ad : Nat → Nat} {N : Nat} (hI : aI ad N) {E : Nat → va_E} {cI cZ : ClassId} (k kv kt : Nat) (f so : Nat → Int32) (nf v : Int32) (hti : tys[0]? = some (cI, .int)) (htz : cZ = cI) (h8 : 8 ≤ k) (hkv : k < kv) (hkt : kv < kt) (hN : kt < N) (he0 : E 0 = .inr (5, [.ref (ad 1), .ref (ad 2), .ref (ad 3), .int 0, .int 0, .ref (ad 4), .int nf, .int 0, .int 0, .long 0, .long 0, .ref (ad 5), .ref (ad 6), .ref (ad 7)])) (he4 : E 4 = .inl (cI, 360, .inl so)) (he : E k = .inr (4, [.int 0, .ref (ad kv), .ref (ad kt)])) (hev : E kv = .inl (cI, 360, .inl f)) (het : E kt = .inl (cI, 12, .inl (pkb (fun _ => 0)))) (sz : Nat) : Met l yX5_tell (Cond.code yX5_tell cX5_tell 5 (some .int) :: wsL_law) (rmk 4 0 0) (va_Pc [.ref (ad 0), .ref (ad k), .int v, .int (nI 0)] (PC D tys ad N E sz)) (Qi D ad N (fun r E1 => r = f 0 ∧ E1 = va_up (va_up (va_up (va_up E 4 (.inl (cI, 360, .inl (upd so 0 ((so 0) + 1))))) 0 (.inr (5, [.ref (ad 1), .ref (ad 2), .ref (ad 3), .int 0, .int 0, .ref (ad 4), .int (nf + 1), .int 0, .int 0, .long 0, .long 0, .ref (ad 5), .ref (ad 6), .ref (ad 7)]))) kt (.inl (cI, 12, .inl (pkb (upd (fun _ => 0) 0 1))))) kv (.inl (cI, 360, .inl (tellV f (fun _ => 0) 0 v)))) (cA ad N sz)) 0 0 (cA ad N sz) := by
  refine cm_of (own := RX5) (Qc := Qi D ad N (fun r E1 => r = f 0 ∧ E1 = va_up (va_up (va_up (va_up E 4 (.inl (cI, 360, .inl (upd so 0 ((so 0) + 1))))) 0 (.inr (5, [.ref (ad 1), .ref (ad 2), .ref (ad 3), .int 0, .int 0, .ref (ad 4), .int (nf + 1), .int 0, .int 0, .long 0, .long 0, .ref (ad 5), .ref (ad 6), .ref (ad 7)]))) kt (.inl (cI, 12, .inl (pkb (upd (fun _ => 0) 0 1))))) kv (.inl (cI, 360, .inl (tellV f (fun _ => 0) 0 v))))) rfl (by decide +kernel) (Nat.le_of_ble_eq_true rfl) ?_ sz
  intro p e s m args below meth c ls Q B hT hX hW hr hlk hnm hl hS hA hQ
  have hx := B.1
  have hb := B.2.1
  have hl : lv_has ls 5 [(0, .ref (ad 0)), (1, .ref (ad k)), (2, .int v), (3, .int (nI 0))] := hl
  refine lv_aload_n hx hb dX5_tell_0 rfl (lv_at hl 1 rfl) ?_
  refine lv_iload_n hx hb dX5_tell_1 rfl (lv_at hl 3 rfl) ?_
  refine b_ci (b_runV B hT hX hW hS (As := [.int (nI 0)]) (rest := []) (fun sz => mt_valueOn hI k kv kt f (fun _ => 0) 0 hti (by omega) (by omega) he hev (by omega) sz) (cwX5_167 B.2.2.2.2.1 ⟨Nat.le_of_ble_eq_true rfl, Nat.le_of_ble_eq_true rfl⟩) (b_recv B hW (by omega) he rfl) rfl hl.1 (Nat.le_of_ble_eq_true rfl) dX5_tell_2 ⟨Nat.le_of_ble_eq_true rfl, Nat.le_of_ble_eq_true rfl⟩) hS (fun r_2 E1 H locs hp_2 hW hS => ?_)
  obtain ⟨hr_, hE_⟩ := hp_2
  subst hr_
  have hW := hW.eq hE_
  refine lv_istore (lv' := [(4, .int (f 0)), (0, .ref (ad 0)), (1, .ref (ad k)), (2, .int v), (3, .int (nI 0))]) hx hb dX5_tell_5 hl (by decide) rfl (fun ls hl => ?_)
  refine lv_aload_n hx hb dX5_tell_7 rfl (lv_at hl 2 rfl) ?_
  refine lv_iload_n hx hb dX5_tell_8 rfl (lv_at hl 4 rfl) ?_
  refine b_ci (b_runV B hT hX hW hS (As := [.int (nI 0)]) (rest := []) (fun sz => mt_isToldFor hI k kv kt (fun _ => 0) (fun _ => 0) 0 hti (by omega) (by omega) he het (by omega) sz) (cwX5_237 B.2.2.2.2.1 ⟨Nat.le_of_ble_eq_true rfl, Nat.le_of_ble_eq_true rfl⟩) (b_recv B hW (by omega) he rfl) rfl hl.1 (Nat.le_of_ble_eq_true rfl) dX5_tell_9 ⟨Nat.le_of_ble_eq_true rfl, Nat.le_of_ble_eq_true rfl⟩) hS (fun r_9 E1 H locs hp_9 hW hS => ?_)
  obtain ⟨hr_, hE_⟩ := hp_9
  subst hr_
  have hW := hW.eq hE_
  refine b_top (y := (fun _ => 0) 0) (nar01 rfl) ?_
  refine lv_if_ne (tgt := 35) hx hb dX5_tell_12 (by decide) (fun c_12 => ?_) (fun c_12 => ?_)
  · exact absurd rfl c_12
  · skip
    refine lv_aload_n hx hb dX5_tell_15 rfl (lv_at hl 1 rfl) ?_
    refine gfX5_27 B hT hW (by omega) he0 rfl dX5_tell_16 ?_
    refine lv_iload_n hx hb dX5_tell_19 rfl (lv_at hl 4 rfl) ?_
    refine lv_dup2_11 hx hb dX5_tell_20 rfl rfl ?_
    refine b_iald B hW hti (j := 0) (by omega) he4 (vp_in_nI (by omega) (by omega)) rfl dX5_tell_21 ?_
    refine lv_iconst (v := 1) hx hb dX5_tell_22 (by decide) ?_
    refine lv_iadd hx hb dX5_tell_23 ?_
    refine b_iast B hI hA hW hS hti (j := 0) (by omega) he4 (vp_in_nI (by omega) (by omega)) rfl dX5_tell_24 (fun H locs hW hS => ?_)
    have hW := hW.eq (E' := va_up E 4 (.inl (cI, 360, .inl (upd so 0 ((so 0) + 1))))) rfl
    refine lv_aload_n hx hb dX5_tell_25 rfl (lv_at hl 1 rfl) ?_
    refine lv_dup hx hb dX5_tell_26 rfl ?_
    refine gfX5_208 B hT hW (by omega) ((va_up_ne _ _ (by omega)).trans he0) rfl dX5_tell_27 ?_
    refine lv_iconst (v := 1) hx hb dX5_tell_30 (by decide) ?_
    refine lv_iadd hx hb dX5_tell_31 ?_
    refine pfX5_208 B hT hI hA hW hS (by omega) ((va_up_ne _ _ (by omega)).trans he0) (Nat.le_of_ble_eq_true rfl) rfl (by first | rfl | decide) dX5_tell_32 (fun H locs hW hS => ?_)
    have hW := hW.eq (E' := va_up (va_up E 4 (.inl (cI, 360, .inl (upd so 0 ((so 0) + 1))))) 0 (.inr (5, [.ref (ad 1), .ref (ad 2), .ref (ad 3), .int 0, .int 0, .ref (ad 4), .int (nf + 1), .int 0, .int 0, .long 0, .long 0, .ref (ad 5), .ref (ad 6), .ref (ad 7)]))) rfl
    refine lv_aload_n hx hb dX5_tell_35 rfl (lv_at hl 2 rfl) ?_
    refine lv_iload_n hx hb dX5_tell_36 rfl (lv_at hl 3 rfl) ?_
    refine lv_iload_n hx hb dX5_tell_37 rfl (lv_at hl 4 rfl) ?_
    refine b_cv (b_runV B hT hX hW hS (As := [.int v, .int (nI 0)]) (rest := []) (fun sz => mt_put hI k kv kt f (fun _ => 0) 0 v hti (by omega) (by omega) (by omega) ((va_up_ne _ _ (by omega)).trans ((va_up_ne _ _ (by omega)).trans he)) ((va_up_ne _ _ (by omega)).trans ((va_up_ne _ _ (by omega)).trans hev)) ((va_up_ne _ _ (by omega)).trans ((va_up_ne _ _ (by omega)).trans het)) (by omega) (by omega) (by omega) (by omega) sz) (cwX5_243 B.2.2.2.2.1 ⟨Nat.le_of_ble_eq_true rfl, Nat.le_of_ble_eq_true rfl⟩) (b_recv B hW (by omega) ((va_up_ne _ _ (by omega)).trans ((va_up_ne _ _ (by omega)).trans he)) rfl) rfl hl.1 (Nat.le_of_ble_eq_true rfl) dX5_tell_38 ⟨Nat.le_of_ble_eq_true rfl, Nat.le_of_ble_eq_true rfl⟩) hS (fun E1 H locs hp_38 hW hS => ?_)
    have hW := hW.eq hp_38
    refine lv_iload hx hb dX5_tell_41 (lv_at hl 0 rfl) ?_
    exact e_i hQ B hr hlk hS hW dX5_tell_43 (Nat.le_of_ble_eq_true rfl) (Nat.le_of_ble_eq_true rfl) (⟨rfl, rfl⟩)
