theorem va_up_id {α : Type} {f : Nat → α} {k : Nat} {v : α} (h : f k = v) : va_up f k v = f := by
  subst h
  funext j
  by_cases hj : j = k
  · rw [hj, va_up_self]
  · rw [va_up_ne _ _ hj]
set_option maxHeartbeats 4000000 in
set_option maxRecDepth 100000 in
theorem mt_debtBefore {l : Launch} {D : va_G} {tys : List (ClassId × FieldType)} {ad : Nat → Nat} {N : Nat} (hI : aI ad N) {E : Nat → va_E} {cI : ClassId} (k kr ky kd kn : Nat) (f u : Nat → Int32) (mo : Nat) (hti : tys[0]? = some (cI, .int)) (hk : k < N) (hkd : kd < N) (hkn : kn < N) (he : E k = .inr (1, [.ref (ad kr), .ref (ad ky), .ref (ad kd)])) (hed : E kd = .inl (cI, 12, .inl f)) (hen : E kn = .inl (cI, 12, .inl u)) (hmo : mo ≤ 12) (sz : Nat) : Met l yX1_debtBefore (Cond.code yX1_debtBefore cX1_debtBefore 5 (some .int) :: wsL_law) (rmk 0 0 0) (va_Pc [.ref (ad k), .int (nI mo), .ref (ad kn)] (PC D tys ad N E sz)) (Qi D ad N (fun r E1 => r = dsum f u mo ∧ E1 = E) (cA ad N sz)) 0 0 (cA ad N sz) := by
  refine cm_of (own := RX1) (Qc := Qi D ad N (fun r E1 => r = dsum f u mo ∧ E1 = E)) rfl (by decide +kernel) (Nat.le_of_ble_eq_true rfl) ?_ sz
  intro p e s m args below meth c ls Q B hT hX hW hr hlk hnm hl hS hA hQ
  have hx := B.1
  have hb := B.2.1
  have hl : lv_has ls 5 [(0, .ref (ad k)), (1, .int (nI mo)), (2, .ref (ad kn))] := hl
  have L_5 : ∀ (n_ : Nat) (i : Nat), (hi : i ≤ mo) → (hn : mo < n_ + i) → ∀ (H : Heap) (locs : List Loc) (ls : Array Slot), hH D ad N E H → va_S (cA ad N s.heap.size) s.heap H locs → lv_has ls 5 [(0, .ref (ad k)), (1, .int (nI mo)), (2, .ref (ad kn)), (3, .int (dsum f u i)), (4, .int (nI i))] → W p l e (rmk 0 0 0) s m args below meth c H locs 0 0 Q (F0 m 5 ls []) := by
    intro n_
    induction n_ with
    | zero =>
      intro i hi hn
      omega
    | succ n_ ih =>
      intro i hi hn H locs ls hW hS hl
      refine lv_iload hx hb dX1_debtBefore_5 (lv_at hl 4 rfl) ?_
      refine lv_iload_n hx hb dX1_debtBefore_7 rfl (lv_at hl 1 rfl) ?_
      refine lv_icmp_ge (tgt := 32) hx hb dX1_debtBefore_8 (by decide) (fun c_8 => ?_) (fun c_8 => ?_)
      · skip
        refine lv_iload_n hx hb dX1_debtBefore_32 rfl (lv_at hl 3 rfl) ?_
        exact e_i hQ B hr hlk hS hW dX1_debtBefore_33 (Nat.le_of_ble_eq_true rfl) (Nat.le_of_ble_eq_true rfl) (⟨by rw [show i = mo from Nat.le_antisymm hi ((nI_leI (by omega) (by omega)).mp c_8)], rfl⟩)
      · skip
        have q8 : i < mo := Nat.lt_of_not_le (fun q => c_8 ((nI_leI (by omega) (by omega)).mpr q))
        refine lv_iload_n hx hb dX1_debtBefore_11 rfl (lv_at hl 3 rfl) ?_
        refine lv_aload_n hx hb dX1_debtBefore_12 rfl (lv_at hl 0 rfl) ?_
        refine gfX1_24 B hT hW hk he rfl dX1_debtBefore_13 ?_
        refine lv_iload hx hb dX1_debtBefore_16 (lv_at hl 4 rfl) ?_
        refine b_iald B hW hti (j := i) hkd hed (vp_in_nI (by omega) (Nat.le_of_ble_eq_true rfl)) (nI_clamp (by omega)) dX1_debtBefore_18 ?_
        refine lv_aload_n hx hb dX1_debtBefore_19 rfl (lv_at hl 2 rfl) ?_
        refine lv_iload hx hb dX1_debtBefore_20 (lv_at hl 4 rfl) ?_
        refine b_iald B hW hti (j := i) hkn hen (vp_in_nI (by omega) (Nat.le_of_ble_eq_true rfl)) (nI_clamp (by omega)) dX1_debtBefore_22 ?_
        refine lv_isub hx hb dX1_debtBefore_23 ?_
        refine lv_iadd hx hb dX1_debtBefore_24 ?_
        refine lv_istore_n (lv' := [(3, .int ((dsum f u i) + ((f i) - (u i)))), (0, .ref (ad k)), (1, .int (nI mo)), (2, .ref (ad kn)), (4, .int (nI i))]) hx hb dX1_debtBefore_25 rfl hl (by decide) rfl (fun ls hl => ?_)
        refine lv_iinc (v := (nI (i + 1))) (lv' := [(4, .int (nI (i + 1))), (3, .int ((dsum f u i) + ((f i) - (u i)))), (0, .ref (ad k)), (1, .int (nI mo)), (2, .ref (ad kn))]) hx hb dX1_debtBefore_26 hl (k := 4) rfl (nI_1 i) (by decide) rfl (fun ls hl => ?_)
        refine lv_goto (tgt := 5) hx hb dX1_debtBefore_29 (by decide) ?_
        exact ih (i + 1) (by omega) (by omega) _ _ _ hW hS (lv_sub hl [2, 3, 4, 1, 0] rfl)
  refine lv_iconst (v := 0) hx hb dX1_debtBefore_0 (by decide) ?_
  refine lv_istore_n (lv' := [(3, .int 0), (0, .ref (ad k)), (1, .int (nI mo)), (2, .ref (ad kn))]) hx hb dX1_debtBefore_1 rfl hl (by decide) rfl (fun ls hl => ?_)
  refine lv_iconst (v := 0) hx hb dX1_debtBefore_2 (by decide) ?_
  refine lv_istore (lv' := [(4, .int 0), (3, .int 0), (0, .ref (ad k)), (1, .int (nI mo)), (2, .ref (ad kn))]) hx hb dX1_debtBefore_3 hl (by decide) rfl (fun ls hl => ?_)
  exact L_5 (mo + 1) 0 (by omega) (by omega) _ _ _ hW hS (lv_sub hl [2, 3, 4, 1, 0] rfl)
set_option maxHeartbeats 4000000 in
set_option maxRecDepth 100000 in
theorem mt_settle {l : Launch} {D : va_G} {tys : List (ClassId × FieldType)} {ad : Nat → Nat} {N : Nat} (hI : aI ad N) {E : Nat → va_E} {cI : ClassId} (k kr ky kd kn : Nat) (f u : Nat → Int32) (mo : Nat) (hti : tys[0]? = some (cI, .int)) (hk : k < N) (hkd : kd < N) (hkn : kn < N) (he : E k = .inr (1, [.ref (ad kr), .ref (ad ky), .ref (ad kd)])) (hed : E kd = .inl (cI, 12, .inl f)) (hen : E kn = .inl (cI, 12, .inl u)) (n1 : k ≠ kd) (n2 : kn ≠ kd) (hmo : mo < 12) (sz : Nat) : Met l yX1_settle (Cond.code yX1_settle cX1_settle 4 none :: wsL_law) (rmk 0 0 0) (va_Pc [.ref (ad k), .int (nI mo), .ref (ad kn)] (PC D tys ad N E sz)) (Qv D ad N (fun E1 => E1 = va_up E kd (.inl (cI, 12, .inl (sett f u (mo + 1))))) (cA ad N sz)) 0 0 (cA ad N sz) := by
  refine cm_of (own := RX1) (Qc := Qv D ad N (fun E1 => E1 = va_up E kd (.inl (cI, 12, .inl (sett f u (mo + 1)))))) rfl (by decide +kernel) (Nat.le_of_ble_eq_true rfl) ?_ sz
  intro p e s m args below meth c ls Q B hT hX hW hr hlk hnm hl hS hA hQ
  have hx := B.1
  have hb := B.2.1
  have hl : lv_has ls 4 [(0, .ref (ad k)), (1, .int (nI mo)), (2, .ref (ad kn))] := hl
  have L_2 : ∀ (n_ : Nat) (i : Nat), (hi : i ≤ mo + 1) → (hn : mo + 1 < n_ + i) → ∀ (H : Heap) (locs : List Loc) (ls : Array Slot), hH D ad N (va_up E kd (.inl (cI, 12, .inl (sett f u i)))) H → va_S (cA ad N s.heap.size) s.heap H locs → lv_has ls 4 [(0, .ref (ad k)), (1, .int (nI mo)), (2, .ref (ad kn)), (3, .int (nI i))] → W p l e (rmk 0 0 0) s m args below meth c H locs 0 0 Q (F0 m 2 ls []) := by
    intro n_
    induction n_ with
    | zero =>
      intro i hi hn
      omega
    | succ n_ ih =>
      intro i hi hn H locs ls hW hS hl
      refine lv_iload_n hx hb dX1_settle_2 rfl (lv_at hl 3 rfl) ?_
      refine lv_iload_n hx hb dX1_settle_3 rfl (lv_at hl 1 rfl) ?_
      refine lv_icmp_gt (tgt := 22) hx hb dX1_settle_4 (by decide) (fun c_4 => ?_) (fun c_4 => ?_)
      · skip
        exact e_v hQ B hr hlk hS hW dX1_settle_22 (Nat.le_of_ble_eq_true rfl) (Nat.le_of_ble_eq_true rfl) (by rw [show i = mo + 1 from Nat.le_antisymm hi ((nI_ltI (by omega) (by omega)).mp c_4)])
      · skip
        have q4 : i ≤ mo := Nat.le_of_not_lt (fun q => c_4 ((nI_ltI (by omega) (by omega)).mpr q))
        refine lv_aload_n hx hb dX1_settle_7 rfl (lv_at hl 0 rfl) ?_
        refine gfX1_24 B hT hW hk ((va_up_ne _ _ n1).trans he) rfl dX1_settle_8 ?_
        refine lv_iload_n hx hb dX1_settle_11 rfl (lv_at hl 3 rfl) ?_
        refine lv_aload_n hx hb dX1_settle_12 rfl (lv_at hl 2 rfl) ?_
        refine lv_iload_n hx hb dX1_settle_13 rfl (lv_at hl 3 rfl) ?_
        refine b_iald B hW hti (j := i) hkn ((va_up_ne _ _ n2).trans hen) (vp_in_nI (by omega) (Nat.le_of_ble_eq_true rfl)) (nI_clamp (by omega)) dX1_settle_14 ?_
        refine b_iast B hI hA hW hS hti (j := i) hkd (va_up_self _ _ _) (vp_in_nI (by omega) (Nat.le_of_ble_eq_true rfl)) (nI_clamp (by omega)) dX1_settle_15 (fun H locs hW hS => ?_)
        have hW := hW.eq (E' := va_up E kd (.inl (cI, 12, .inl (upd (sett f u i) i (u i))))) (bx_uu _ _ _ _)
        refine lv_iinc (v := (nI (i + 1))) (lv' := [(3, .int (nI (i + 1))), (0, .ref (ad k)), (1, .int (nI mo)), (2, .ref (ad kn))]) hx hb dX1_settle_16 hl (k := 3) rfl (nI_1 i) (by decide) rfl (fun ls hl => ?_)
        refine lv_goto (tgt := 2) hx hb dX1_settle_19 (by decide) ?_
        exact ih (i + 1) (by omega) (by omega) _ _ _ (hW.eq (by rw [sett_s])) hS (lv_sub hl [1, 2, 3, 0] rfl)
  refine lv_iconst (v := 0) hx hb dX1_settle_0 (by decide) ?_
  refine lv_istore_n (lv' := [(3, .int 0), (0, .ref (ad k)), (1, .int (nI mo)), (2, .ref (ad kn))]) hx hb dX1_settle_1 rfl hl (by decide) rfl (fun ls hl => ?_)
  exact L_2 (mo + 2) 0 (by omega) (by omega) _ _ _ (hW.eq (by rw [sett_0]; exact (va_up_id hed).symm)) hS (lv_sub hl [1, 2, 3, 0] rfl)
set_option maxHeartbeats 4000000 in
set_option maxRecDepth 100000 in
theorem mt_settleInPart {l : Launch} {D : va_G} {tys : List (ClassId × FieldType)} {ad : Nat → Nat} {N : Nat} (hI : aI ad N) {E : Nat → va_E} {cI : ClassId} (k kr ky kd kn : Nat) (f u : Nat → Int32) (mo : Nat) (kept : Int32) (hti : tys[0]? = some (cI, .int)) (hk : k < N) (hkd : kd < N) (hkn : kn < N) (he : E k = .inr (1, [.ref (ad kr), .ref (ad ky), .ref (ad kd)])) (hed : E kd = .inl (cI, 12, .inl f)) (hen : E kn = .inl (cI, 12, .inl u)) (n1 : k ≠ kd) (n2 : kn ≠ kd) (hmo : mo < 12) (sz : Nat) : Met l yX1_settleInPart (Cond.code yX1_settleInPart cX1_settleInPart 7 none :: wsL_law) (rmk 0 0 0) (va_Pc [.ref (ad k), .int (nI mo), .ref (ad kn), .int kept] (PC D tys ad N E sz)) (Qv D ad N (fun E1 => E1 = va_up E kd (.inl (cI, 12, .inl (sipF f u mo kept)))) (cA ad N sz)) 0 0 (cA ad N sz) := by
  refine cm_of (own := RX1) (Qc := Qv D ad N (fun E1 => E1 = va_up E kd (.inl (cI, 12, .inl (sipF f u mo kept))))) rfl (by decide +kernel) (Nat.le_of_ble_eq_true rfl) ?_ sz
  intro p e s m args below meth c ls Q B hT hX hW hr hlk hnm hl hS hA hQ
  have hx := B.1
  have hb := B.2.1
  have hl : lv_has ls 7 [(0, .ref (ad k)), (1, .int (nI mo)), (2, .ref (ad kn)), (3, .int kept)] := hl
  have L_63 : ∀ (n_ : Nat) (i : Nat) (lf : Int32) (g1 : Nat → Int32), (hi : i ≤ mo) → (hn : mo < n_ + i) → (hg : (lf, g1) = sip2 (sip1 f u kept mo).2 u (sip1 f u kept mo).1 i) → ∀ (H : Heap) (locs : List Loc) (ls : Array Slot), hH D ad N (va_up E kd (.inl (cI, 12, .inl g1))) H → va_S (cA ad N s.heap.size) s.heap H locs → lv_has ls 7 [(0, .ref (ad k)), (1, .int (nI mo)), (2, .ref (ad kn)), (3, .int kept), (4, .int lf), (5, .int (nI i))] → W p l e (rmk 0 0 0) s m args below meth c H locs 0 0 Q (F0 m 63 ls []) := by
    intro n_
    induction n_ with
    | zero =>
      intro i lf g1 hi hn hg
      omega
    | succ n_ ih =>
      intro i lf g1 hi hn hg H locs ls hW hS hl
      refine lv_iload hx hb dX1_settleInPart_63 (lv_at hl 5 rfl) ?_
      refine lv_iload_n hx hb dX1_settleInPart_65 rfl (lv_at hl 1 rfl) ?_
      refine lv_icmp_ge (tgt := 113) hx hb dX1_settleInPart_66 (by decide) (fun c_66 => ?_) (fun c_66 => ?_)
      · skip
        refine lv_aload_n hx hb dX1_settleInPart_113 rfl (lv_at hl 0 rfl) ?_
        refine gfX1_24 B hT hW hk ((va_up_ne _ _ n1).trans he) rfl dX1_settleInPart_114 ?_
        refine lv_iload_n hx hb dX1_settleInPart_117 rfl (lv_at hl 1 rfl) ?_
        refine lv_aload_n hx hb dX1_settleInPart_118 rfl (lv_at hl 2 rfl) ?_
        refine lv_iload_n hx hb dX1_settleInPart_119 rfl (lv_at hl 1 rfl) ?_
        refine b_iald B hW hti (j := mo) hkn ((va_up_ne _ _ n2).trans hen) (vp_in_nI (by omega) (Nat.le_of_ble_eq_true rfl)) (nI_clamp (by omega)) dX1_settleInPart_120 ?_
        refine b_iast B hI hA hW hS hti (j := mo) hkd (va_up_self _ _ _) (vp_in_nI (by omega) (Nat.le_of_ble_eq_true rfl)) (nI_clamp (by omega)) dX1_settleInPart_121 (fun H locs hW hS => ?_)
        have hW := hW.eq (E' := va_up E kd (.inl (cI, 12, .inl (upd g1 mo (u mo))))) (bx_uu _ _ _ _)
        exact e_v hQ B hr hlk hS hW dX1_settleInPart_122 (Nat.le_of_ble_eq_true rfl) (Nat.le_of_ble_eq_true rfl) (by have qe : i = mo := Nat.le_antisymm hi ((nI_leI (by omega) (by omega)).mp c_66); subst qe; unfold sipF; rw [← hg])
      · skip
        have q66 : i < mo := Nat.lt_of_not_le (fun q => c_66 ((nI_leI (by omega) (by omega)).mpr q))
        refine lv_iload hx hb dX1_settleInPart_69 (lv_at hl 4 rfl) ?_
        refine lv_aload_n hx hb dX1_settleInPart_71 rfl (lv_at hl 0 rfl) ?_
        refine gfX1_24 B hT hW hk ((va_up_ne _ _ n1).trans he) rfl dX1_settleInPart_72 ?_
        refine lv_iload hx hb dX1_settleInPart_75 (lv_at hl 5 rfl) ?_
        refine b_iald B hW hti (j := i) hkd (va_up_self _ _ _) (vp_in_nI (by omega) (Nat.le_of_ble_eq_true rfl)) (nI_clamp (by omega)) dX1_settleInPart_77 ?_
        refine lv_aload_n hx hb dX1_settleInPart_78 rfl (lv_at hl 2 rfl) ?_
        refine lv_iload hx hb dX1_settleInPart_79 (lv_at hl 5 rfl) ?_
        refine b_iald B hW hti (j := i) hkn ((va_up_ne _ _ n2).trans hen) (vp_in_nI (by omega) (Nat.le_of_ble_eq_true rfl)) (nI_clamp (by omega)) dX1_settleInPart_81 ?_
        refine lv_isub hx hb dX1_settleInPart_82 ?_
        refine va_mmin hx hb (by rw [B.2.2.1]; exact hl.1.symm) B.2.2.2.1 (B.2.2.2.2.1 _ (r15_in _ (List.mem_of_getElem? (i := 10) rfl))) (B.2.2.2.2.1 _ (r8_in _ (List.mem_of_getElem? (i := 17) rfl))) (B.2.2.2.2.1 _ (r8_in _ (List.mem_of_getElem? (i := 18) rfl))) (B.2.2.2.2.1 _ (r8_in _ (List.mem_of_getElem? (i := 19) rfl))) (Nat.le_of_ble_eq_true rfl) (Nat.le_of_ble_eq_true rfl) (Nat.le_of_ble_eq_true rfl) (Nat.le_of_ble_eq_true rfl) dX1_settleInPart_83 ?_
        refine b_top (y := imin lf ((g1 i) - (u i))) rfl ?_
        refine lv_istore (lv' := [(6, .int (imin lf ((g1 i) - (u i)))), (0, .ref (ad k)), (1, .int (nI mo)), (2, .ref (ad kn)), (3, .int kept), (4, .int lf), (5, .int (nI i))]) hx hb dX1_settleInPart_86 hl (by decide) rfl (fun ls hl => ?_)
        refine lv_aload_n hx hb dX1_settleInPart_88 rfl (lv_at hl 1 rfl) ?_
        refine gfX1_24 B hT hW hk ((va_up_ne _ _ n1).trans he) rfl dX1_settleInPart_89 ?_
        refine lv_iload hx hb dX1_settleInPart_92 (lv_at hl 6 rfl) ?_
        refine lv_dup2_11 hx hb dX1_settleInPart_94 rfl rfl ?_
        refine b_iald B hW hti (j := i) hkd (va_up_self _ _ _) (vp_in_nI (by omega) (Nat.le_of_ble_eq_true rfl)) (nI_clamp (by omega)) dX1_settleInPart_95 ?_
        refine lv_iload hx hb dX1_settleInPart_96 (lv_at hl 0 rfl) ?_
        refine lv_isub hx hb dX1_settleInPart_98 ?_
        refine b_iast B hI hA hW hS hti (j := i) hkd (va_up_self _ _ _) (vp_in_nI (by omega) (Nat.le_of_ble_eq_true rfl)) (nI_clamp (by omega)) dX1_settleInPart_99 (fun H locs hW hS => ?_)
        have hW := hW.eq (E' := va_up E kd (.inl (cI, 12, .inl (upd g1 i ((g1 i) - (imin lf ((g1 i) - (u i)))))))) (bx_uu _ _ _ _)
        refine lv_iload hx hb dX1_settleInPart_100 (lv_at hl 5 rfl) ?_
        refine lv_iload hx hb dX1_settleInPart_102 (lv_at hl 0 rfl) ?_
        refine lv_isub hx hb dX1_settleInPart_104 ?_
        refine lv_istore (lv' := [(4, .int (lf - (imin lf ((g1 i) - (u i))))), (6, .int (imin lf ((g1 i) - (u i)))), (0, .ref (ad k)), (1, .int (nI mo)), (2, .ref (ad kn)), (3, .int kept), (5, .int (nI i))]) hx hb dX1_settleInPart_105 hl (by decide) rfl (fun ls hl => ?_)
        refine lv_iinc (v := (nI (i + 1))) (lv' := [(5, .int (nI (i + 1))), (4, .int (lf - (imin lf ((g1 i) - (u i))))), (6, .int (imin lf ((g1 i) - (u i)))), (0, .ref (ad k)), (1, .int (nI mo)), (2, .ref (ad kn)), (3, .int kept)]) hx hb dX1_settleInPart_107 hl (k := 6) rfl (nI_1 i) (by decide) rfl (fun ls hl => ?_)
        refine lv_goto (tgt := 63) hx hb dX1_settleInPart_110 (by decide) ?_
        exact ih (i + 1) (lf - imin lf (g1 i - u i)) (upd g1 i (g1 i - imin lf (g1 i - u i))) (by omega) (by omega) (by rw [sip2, ← hg]) _ _ _ hW hS (lv_sub hl [3, 4, 5, 6, 1, 0] rfl)
  have L_6 : ∀ (n_ : Nat) (i : Nat) (lf : Int32) (g1 : Nat → Int32), (hi : i ≤ mo) → (hn : mo < n_ + i) → (hg : (lf, g1) = sip1 f u kept i) → ∀ (H : Heap) (locs : List Loc) (ls : Array Slot), hH D ad N (va_up E kd (.inl (cI, 12, .inl g1))) H → va_S (cA ad N s.heap.size) s.heap H locs → lv_has ls 7 [(0, .ref (ad k)), (1, .int (nI mo)), (2, .ref (ad kn)), (3, .int kept), (4, .int lf), (5, .int (nI i))] → W p l e (rmk 0 0 0) s m args below meth c H locs 0 0 Q (F0 m 6 ls []) := by
    intro n_
    induction n_ with
    | zero =>
      intro i lf g1 hi hn hg
      omega
    | succ n_ ih =>
      intro i lf g1 hi hn hg H locs ls hW hS hl
      refine lv_iload hx hb dX1_settleInPart_6 (lv_at hl 5 rfl) ?_
      refine lv_iload_n hx hb dX1_settleInPart_8 rfl (lv_at hl 1 rfl) ?_
      refine lv_icmp_ge (tgt := 60) hx hb dX1_settleInPart_9 (by decide) (fun c_9 => ?_) (fun c_9 => ?_)
      · skip
        refine lv_iconst (v := 0) hx hb dX1_settleInPart_60 (by decide) ?_
        refine lv_istore (lv' := [(5, .int 0), (0, .ref (ad k)), (1, .int (nI mo)), (2, .ref (ad kn)), (3, .int kept), (4, .int lf)]) hx hb dX1_settleInPart_61 hl (by decide) rfl (fun ls hl => ?_)
        have qe : i = mo := Nat.le_antisymm hi ((nI_leI (by omega) (by omega)).mp c_9)
        subst qe
        exact L_63 (i + 1) 0 lf g1 (by omega) (by omega) (by rw [← hg]; rfl) _ _ _ hW hS (lv_sub hl [1, 2, 3, 4, 5, 0] rfl)
      · skip
        have q9 : i < mo := Nat.lt_of_not_le (fun q => c_9 ((nI_leI (by omega) (by omega)).mpr q))
        refine lv_aload_n hx hb dX1_settleInPart_12 rfl (lv_at hl 0 rfl) ?_
        refine gfX1_24 B hT hW hk ((va_up_ne _ _ n1).trans he) rfl dX1_settleInPart_13 ?_
        refine lv_iload hx hb dX1_settleInPart_16 (lv_at hl 5 rfl) ?_
        refine b_iald B hW hti (j := i) hkd (va_up_self _ _ _) (vp_in_nI (by omega) (Nat.le_of_ble_eq_true rfl)) (nI_clamp (by omega)) dX1_settleInPart_18 ?_
        refine lv_aload_n hx hb dX1_settleInPart_19 rfl (lv_at hl 2 rfl) ?_
        refine lv_iload hx hb dX1_settleInPart_20 (lv_at hl 5 rfl) ?_
        refine b_iald B hW hti (j := i) hkn ((va_up_ne _ _ n2).trans hen) (vp_in_nI (by omega) (Nat.le_of_ble_eq_true rfl)) (nI_clamp (by omega)) dX1_settleInPart_22 ?_
        refine lv_icmp_ge (tgt := 54) hx hb dX1_settleInPart_23 (by decide) (fun c_23 => ?_) (fun c_23 => ?_)
        · skip
          have q23 : ¬ g1 i < u i := Int32.not_lt.mpr c_23
          refine lv_iinc (v := (nI (i + 1))) (lv' := [(5, .int (nI (i + 1))), (0, .ref (ad k)), (1, .int (nI mo)), (2, .ref (ad kn)), (3, .int kept), (4, .int lf)]) hx hb dX1_settleInPart_54 hl (k := 5) rfl (nI_1 i) (by decide) rfl (fun ls hl => ?_)
          refine lv_goto (tgt := 6) hx hb dX1_settleInPart_57 (by decide) ?_
          exact ih (i + 1) lf g1 (by omega) (by omega) (by rw [sip1, if_neg (by rw [← hg]; exact q23)]; exact hg) _ _ _ hW hS (lv_sub hl [1, 2, 3, 4, 5, 0] rfl)
        · skip
          have q23 : g1 i < u i := Int32.not_le.mp c_23
          refine lv_iload hx hb dX1_settleInPart_26 (lv_at hl 4 rfl) ?_
          refine lv_aload_n hx hb dX1_settleInPart_28 rfl (lv_at hl 2 rfl) ?_
          refine lv_iload hx hb dX1_settleInPart_29 (lv_at hl 5 rfl) ?_
          refine b_iald B hW hti (j := i) hkn ((va_up_ne _ _ n2).trans hen) (vp_in_nI (by omega) (Nat.le_of_ble_eq_true rfl)) (nI_clamp (by omega)) dX1_settleInPart_31 ?_
          refine lv_aload_n hx hb dX1_settleInPart_32 rfl (lv_at hl 0 rfl) ?_
          refine gfX1_24 B hT hW hk ((va_up_ne _ _ n1).trans he) rfl dX1_settleInPart_33 ?_
          refine lv_iload hx hb dX1_settleInPart_36 (lv_at hl 5 rfl) ?_
          refine b_iald B hW hti (j := i) hkd (va_up_self _ _ _) (vp_in_nI (by omega) (Nat.le_of_ble_eq_true rfl)) (nI_clamp (by omega)) dX1_settleInPart_38 ?_
          refine lv_isub hx hb dX1_settleInPart_39 ?_
          refine lv_iadd hx hb dX1_settleInPart_40 ?_
          refine lv_istore (lv' := [(4, .int (lf + ((u i) - (g1 i)))), (0, .ref (ad k)), (1, .int (nI mo)), (2, .ref (ad kn)), (3, .int kept), (5, .int (nI i))]) hx hb dX1_settleInPart_41 hl (by decide) rfl (fun ls hl => ?_)
          refine lv_aload_n hx hb dX1_settleInPart_43 rfl (lv_at hl 1 rfl) ?_
          refine gfX1_24 B hT hW hk ((va_up_ne _ _ n1).trans he) rfl dX1_settleInPart_44 ?_
          refine lv_iload hx hb dX1_settleInPart_47 (lv_at hl 5 rfl) ?_
          refine lv_aload_n hx hb dX1_settleInPart_49 rfl (lv_at hl 3 rfl) ?_
          refine lv_iload hx hb dX1_settleInPart_50 (lv_at hl 5 rfl) ?_
          refine b_iald B hW hti (j := i) hkn ((va_up_ne _ _ n2).trans hen) (vp_in_nI (by omega) (Nat.le_of_ble_eq_true rfl)) (nI_clamp (by omega)) dX1_settleInPart_52 ?_
          refine b_iast B hI hA hW hS hti (j := i) hkd (va_up_self _ _ _) (vp_in_nI (by omega) (Nat.le_of_ble_eq_true rfl)) (nI_clamp (by omega)) dX1_settleInPart_53 (fun H locs hW hS => ?_)
          have hW := hW.eq (E' := va_up E kd (.inl (cI, 12, .inl (upd g1 i (u i))))) (bx_uu _ _ _ _)
          refine lv_iinc (v := (nI (i + 1))) (lv' := [(5, .int (nI (i + 1))), (4, .int (lf + ((u i) - (g1 i)))), (0, .ref (ad k)), (1, .int (nI mo)), (2, .ref (ad kn)), (3, .int kept)]) hx hb dX1_settleInPart_54 hl (k := 5) rfl (nI_1 i) (by decide) rfl (fun ls hl => ?_)
          refine lv_goto (tgt := 6) hx hb dX1_settleInPart_57 (by decide) ?_
          exact ih (i + 1) (lf + (u i - g1 i)) (upd g1 i (u i)) (by omega) (by omega) (by rw [sip1, if_pos (by rw [← hg]; exact q23), ← hg]) _ _ _ hW hS (lv_sub hl [2, 3, 4, 5, 1, 0] rfl)
  refine lv_iload_n hx hb dX1_settleInPart_0 rfl (lv_at hl 3 rfl) ?_
  refine lv_istore (lv' := [(4, .int kept), (0, .ref (ad k)), (1, .int (nI mo)), (2, .ref (ad kn)), (3, .int kept)]) hx hb dX1_settleInPart_1 hl (by decide) rfl (fun ls hl => ?_)
  refine lv_iconst (v := 0) hx hb dX1_settleInPart_3 (by decide) ?_
  refine lv_istore (lv' := [(5, .int 0), (4, .int kept), (0, .ref (ad k)), (1, .int (nI mo)), (2, .ref (ad kn)), (3, .int kept)]) hx hb dX1_settleInPart_4 hl (by decide) rfl (fun ls hl => ?_)
  exact L_6 (mo + 1) 0 kept f (by omega) (by omega) rfl _ _ _ (hW.eq (va_up_id hed).symm) hS (lv_sub hl [2, 3, 4, 5, 1, 0] rfl)
