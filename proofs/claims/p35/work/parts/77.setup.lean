theorem s0_0 (n : Nat) : (0 : Int64).toInt = sS (fun _ _ => 0) 0 n := by
  induction n with
  | zero => rfl
  | succ n ih => rw [sS, ← ih]; rfl
theorem J35_0 (G : Nat) : J35 G 0 0 0 (fun _ _ => 0) (fun _ _ => 0) := ⟨fun h _ => ⟨rfl, fun _ _ _ => rfl, fun _ q => absurd q (Nat.not_lt_zero _)⟩, s0_0 _, by rw [Nat.mul_zero]; rfl⟩
set_option maxHeartbeats 8000000 in
set_option maxRecDepth 100000 in
theorem lm_moves {p : Program} {l : Launch} {e : Env} {s : State} {m : MethodId} {args : Array Value} {below : List Frame} {meth : Method} {c : Code} {Q : State → Prop} {D : va_G} {ad : Nat → Nat} {cI cZ cH cP cT cJ cF : ClassId} {b L : Nat} {xs : Nat → Int32} (C : LC35 p l s m args c D ad cI cZ cH cP cT cJ cF b L xs) {V T : Nat → Nat → Int32} {ag : Nat → Int32} {P9 G9 : Nat} {nf : Int32} {E : Nat → va_E} {H : Heap} {locs : List Loc} {ls : Array Slot} (h2P : 2 ≤ P9) (h7P : P9 ≤ 7) (h1G : 1 ≤ G9) (hHm : Hm V) (hV0 : ∀ t, t < 8 → V t 0 = -1) (KE : LE35 p l e s m args below meth c Q D ad cI cH cP cT b) (hC : CW cI cI cH cP cT ad V T ag P9 G9 0 nf 0 0 0 (fun _ _ => 0) (fun _ _ => 0) E) (hW : hH D ad 109 E H) (hS : va_S (cA ad 109 s.heap.size) s.heap H locs) (hl : lv_has ls 20 [(0, .ref b), (1, .ref (ad 0)), (2, .int (nI P9)), (3, .int (nI G9)), (4, .int 1), (5, .int (nI (2 + 2 * P9 + 0))), (6, .int (nI 0))]) : W p l e room_1 s m args below meth c H locs (210) (11300) Q (F0 m 132 ls []) := by
  obtain ⟨B, ⟨hlf, hT, hN, hX, hI⟩, hXs, hbl, hbA, hL⟩ := id C
  have hx := B.1
  have hb := B.2.1
  have hty : TY [(cI, .int), (cZ, .int), (cH, .object RX1), (cP, .object RX2), (cT, .object RX4), (cJ, .int), (cF, .int)] cI cI cH cP cT := ⟨rfl, rfl, rfl, rfl, rfl⟩
  obtain ⟨hP8, hH4, hR12⟩ := hC.bds
  have L_132 : ∀ (n_ : Nat) (i : Nat) (V T : Nat → Nat → Int32) (nf : Int32), (hi : i ≤ P9) → (hn : P9 < n_ + i) → (hHm : Hm V) → (hV0 : ∀ t, i ≤ t → t < 8 → V t 0 = -1) → ∀ (E : Nat → va_E) (H : Heap) (locs : List Loc) (ls : Array Slot), CW cI cI cH cP cT ad V T ag P9 G9 0 nf 0 0 0 (fun _ _ => 0) (fun _ _ => 0) E → hH D ad 109 E H → va_S (cA ad 109 s.heap.size) s.heap H locs → lv_has ls 20 [(0, .ref b), (1, .ref (ad 0)), (2, .int (nI P9)), (3, .int (nI G9)), (4, .int 1), (5, .int (nI (2 + 2 * P9 + i))), (6, .int (nI i))] → W p l e room_1 s m args below meth c H locs (210 + 8 * i) (11300 + 48 * i) Q (F0 m 132 ls []) := by
    intro n_
    induction n_ with
    | zero =>
      intro i V T nf hi hn hHm hV0
      omega
    | succ n_ ih =>
      intro i V T nf hi hn hHm hV0 E H locs ls hC hW hS hl
      refine lv_iload hx hb dL_law_132 (lv_at hl 6 rfl) ?_
      refine lv_iload_n hx hb dL_law_134 rfl (lv_at hl 2 rfl) ?_
      refine lv_icmp_ge (tgt := 175) hx hb dL_law_135 (by decide) (fun c_135 => ?_) (fun c_135 => ?_)
      · skip
        refine lv_iconst (v := (nI 0)) hx hb dL_law_175 (by decide) ?_
        refine lv_istore (lv' := [(6, .int (nI 0)), (0, .ref b), (1, .ref (ad 0)), (2, .int (nI P9)), (3, .int (nI G9)), (4, .int 1), (5, .int (nI (2 + 2 * P9 + i)))]) hx hb dL_law_176 hl (by decide) rfl (fun ls hl => ?_)
        have ei : i = P9 := Nat.le_antisymm hi ((nI_leI (by omega) (by omega)).mp c_135)
        refine W.widen (k := 400) (n := 12000) (by omega) (by omega) ?_
        have hl : lv_has ls 20 [(0, .ref b), (1, .ref (ad 0)), (2, .int (nI P9)), (3, .int (nI G9)), (4, .int 1), (5, .int (nI (2 + 3 * P9 + 5 * 0))), (6, .int (nI 0))] := by rw [ei, show 2 + 2 * P9 + P9 = 2 + 3 * P9 + 5 * 0 by omega] at hl; exact lv_sub hl [1, 2, 3, 4, 5, 6, 0] rfl
        exact lm_loop C h2P h1G (show ST35 V G9 0 0 0 (fun _ _ => 0) (fun _ _ => 0) from ⟨hHm, J35_0 G9⟩) KE hC hW hS hl
      · skip
        have q135 : i < P9 := Nat.lt_of_not_le (fun q => c_135 ((nI_leI (by omega) (by omega)).mpr q))
        refine lv_iload hx hb dL_law_138 (lv_at hl 4 rfl) ?_
        refine lv_aload_n hx hb dL_law_140 rfl (lv_at hl 1 rfl) ?_
        refine lv_iload hx hb dL_law_141 (lv_at hl 6 rfl) ?_
        refine lv_aload_n hx hb dL_law_143 rfl (lv_at hl 0 rfl) ?_
        refine lv_iload hx hb dL_law_144 (lv_at hl 5 rfl) ?_
        refine lv_iload_n hx hb dL_law_146 rfl (lv_at hl 3 rfl) ?_
        refine b_ci0 (b_runSX (E := fun _ => .inl (cI, 0, .inl (fun _ => 0))) B hT hX hXs hbl hbA hS (As := [.ref b, .int (nI (2 + 2 * P9 + i)), .int (nI G9)]) (rest := [.int (nI i), .ref (ad 0), .int 1]) (fun sz => ow_pick (ad := ad) (2 + 2 * P9 + i) G9 (by omega) (by omega) (by omega) hL sz) (cwL_123 B.2.2.2.2.1 ⟨Nat.le_of_ble_eq_true rfl, Nat.le_of_ble_eq_true rfl⟩) rfl hl.1 (Nat.le_of_ble_eq_true rfl) dL_law_147 ⟨by show _ ≤ 600390; omega, by show _ ≤ 7288600; omega⟩) hW hS (fun r_147 H locs hp hW hS => ?_)
        obtain ⟨_, j147, hj147, hr_⟩ := hp
        subst hr_
        refine lv_iconst (v := (nI 0)) hx hb dL_law_150 (by decide) ?_
        refine y_ci (b_runSW B hT hX hN hW hS (As := [.ref (ad 0), .int (nI i), .int (nI j147), .int (nI 0)]) (rest := [.int 1]) (fun sz => lq_move hlf hI hty (nI i) (nI j147) (nI 0) hC sz) (cwL_133 B.2.2.2.2.1 ⟨Nat.le_of_ble_eq_true rfl, Nat.le_of_ble_eq_true rfl⟩) rfl hl.1 (Nat.le_of_ble_eq_true rfl) dL_law_151 ⟨by show _ ≤ 600390; omega, by show _ ≤ 7288600; omega⟩) hI hW hS (fun k h => h) (fun _ _ => rfl) (fun E1 => E1) (fun _ _ _ => rfl) (fun E1 j hj hno => absurd rfl (hno j hj)) (fun r_151 E H locs hp hW hS => ?_)
        obtain ⟨hr_, hC⟩ := hp
        have h0 := kMove_0 (nP := P9) (nH := G9) (p := i) (h := j147) (d := 0) hH4 hP8 q135 (by omega) (by omega)
        rw [h0, hv_0, ix_n (by omega), ix_n (by omega), hV0 i (Nat.le_refl _) (by omega)] at hr_
        have hC := (hC.resolve_right (fun q => q.1 h0)).2
        rw [ix_n (by omega), ix_n (by omega)] at hC
        subst hr_
        refine lv_iconst (v := (-1)) hx hb dL_law_154 (by decide) ?_
        refine lv_icmp_ne (tgt := 162) hx hb dL_law_155 (by decide) (fun c_155 => ?_) (fun c_155 => ?_)
        · exact absurd rfl c_155
        · skip
          refine lv_iconst (v := 1) hx hb dL_law_158 (by decide) ?_
          refine lv_goto (tgt := 163) hx hb dL_law_159 (by decide) ?_
          refine lv_iand hx hb dL_law_163 ?_
          refine b_top (y := 1) (by decide) ?_
          refine lv_istore (lv' := [(4, .int 1), (0, .ref b), (1, .ref (ad 0)), (2, .int (nI P9)), (3, .int (nI G9)), (5, .int (nI (2 + 2 * P9 + i))), (6, .int (nI i))]) hx hb dL_law_164 hl (by decide) rfl (fun ls hl => ?_)
          refine lv_iinc (v := (nI (2 + 2 * P9 + (i + 1)))) (lv' := [(5, .int (nI (2 + 2 * P9 + (i + 1)))), (4, .int 1), (0, .ref b), (1, .ref (ad 0)), (2, .int (nI P9)), (3, .int (nI G9)), (6, .int (nI i))]) hx hb dL_law_166 hl (k := 5) rfl (nI_1 _) (by decide) rfl (fun ls hl => ?_)
          refine lv_iinc (v := (nI (i + 1))) (lv' := [(6, .int (nI (i + 1))), (5, .int (nI (2 + 2 * P9 + (i + 1)))), (4, .int 1), (0, .ref b), (1, .ref (ad 0)), (2, .int (nI P9)), (3, .int (nI G9))]) hx hb dL_law_169 hl (k := 6) rfl (nI_1 i) (by decide) rfl (fun ls hl => ?_)
          refine lv_goto (tgt := 132) hx hb dL_law_172 (by decide) ?_
          refine W.widen (k := 210 + 8 * (i + 1)) (n := 11300 + 48 * (i + 1)) (by omega) (by omega) ?_
          exact ih (i + 1) _ _ _ (by omega) (by omega) (hHm.tell (fun _ => by rw [nI_toInt (by omega)]; omega)) (fun t h1 h2 => by rw [upd2_n _ _ (by omega)]; exact hV0 t (by omega) h2) _ _ _ _ hC hW hS (lv_sub hl [3, 4, 5, 6, 2, 1, 0] rfl)
  refine W.widen (k := 210 + 8 * 0) (n := 11300 + 48 * 0) (by omega) (by omega) ?_
  exact L_132 (P9 + 1) 0 _ _ _ (by omega) (by omega) hHm (fun t _ h2 => hV0 t h2) _ _ _ _ hC hW hS (lv_sub hl [0, 1, 2, 3, 4, 5, 6] rfl)
theorem hHm0 : Hm fV := fun t ht d _ => by
  have e : fV t d = -1 := by unfold fV w0; rw [if_pos (by omega), if_pos ht]
  rw [e]
  decide
theorem hV00 : ∀ t, t < 8 → fV t 0 = -1 := fun t ht => by unfold fV w0; rw [if_pos (by omega), if_pos ht]
set_option maxHeartbeats 8000000 in
set_option maxRecDepth 100000 in
theorem lm_houses {p : Program} {l : Launch} {e : Env} {s : State} {m : MethodId} {args : Array Value} {below : List Frame} {meth : Method} {c : Code} {Q : State → Prop} {D : va_G} {ad : Nat → Nat} {cI cZ cH cP cT cJ cF : ClassId} {b L : Nat} {xs : Nat → Int32} (C : LC35 p l s m args c D ad cI cZ cH cP cT cJ cF b L xs) {ag : Nat → Int32} {P9 G9 : Nat} {E : Nat → va_E} {H : Heap} {locs : List Loc} {ls : Array Slot} (h2P : 2 ≤ P9) (h7P : P9 ≤ 7) (h1G : 1 ≤ G9) (h4G : G9 ≤ 4) (KE : LE35 p l e s m args below meth c Q D ad cI cH cP cT b) (hC : CW cI cI cH cP cT ad fV fT ag P9 0 0 (nI 7) 0 0 0 (fun _ _ => 0) (fun _ _ => 0) E) (hW : hH D ad 109 E H) (hS : va_S (cA ad 109 s.heap.size) s.heap H locs) (hl : lv_has ls 20 [(0, .ref b), (1, .ref (ad 0)), (2, .int (nI P9)), (3, .int (nI G9)), (4, .int 1), (5, .int (nI (2 + 2 * P9))), (6, .int (nI 0))]) : W p l e room_1 s m args below meth c H locs (170) (11050) Q (F0 m 98 ls []) := by
  obtain ⟨B, ⟨hlf, hT, hN, hX, hI⟩, hXs, hbl, hbA, hL⟩ := id C
  have hx := B.1
  have hb := B.2.1
  have hty : TY [(cI, .int), (cZ, .int), (cH, .object RX1), (cP, .object RX2), (cT, .object RX4), (cJ, .int), (cF, .int)] cI cI cH cP cT := ⟨rfl, rfl, rfl, rfl, rfl⟩
  obtain ⟨hP8, hH4, hR12⟩ := hC.bds
  have L_98 : ∀ (n_ : Nat) (i : Nat), (hi : i ≤ G9) → (hn : G9 < n_ + i) → ∀ (E : Nat → va_E) (H : Heap) (locs : List Loc) (ls : Array Slot), CW cI cI cH cP cT ad fV fT ag P9 i 0 (nI 7) 0 0 0 (fun _ _ => 0) (fun _ _ => 0) E → hH D ad 109 E H → va_S (cA ad 109 s.heap.size) s.heap H locs → lv_has ls 20 [(0, .ref b), (1, .ref (ad 0)), (2, .int (nI P9)), (3, .int (nI G9)), (4, .int 1), (5, .int (nI (2 + 2 * P9))), (6, .int (nI i))] → W p l e room_1 s m args below meth c H locs (170 + 8 * i) (11050 + 48 * i) Q (F0 m 98 ls []) := by
    intro n_
    induction n_ with
    | zero =>
      intro i hi hn
      omega
    | succ n_ ih =>
      intro i hi hn E H locs ls hC hW hS hl
      refine lv_iload hx hb dL_law_98 (lv_at hl 6 rfl) ?_
      refine lv_iload_n hx hb dL_law_100 rfl (lv_at hl 3 rfl) ?_
      refine lv_icmp_ge (tgt := 129) hx hb dL_law_101 (by decide) (fun c_101 => ?_) (fun c_101 => ?_)
      · skip
        refine lv_iconst (v := (nI 0)) hx hb dL_law_129 (by decide) ?_
        refine lv_istore (lv' := [(6, .int (nI 0)), (0, .ref b), (1, .ref (ad 0)), (2, .int (nI P9)), (3, .int (nI G9)), (4, .int 1), (5, .int (nI (2 + 2 * P9)))]) hx hb dL_law_130 hl (by decide) rfl (fun ls hl => ?_)
        have ei : i = G9 := Nat.le_antisymm hi ((nI_leI (by omega) (by omega)).mp c_101)
        rw [ei] at hC
        refine W.widen (k := 210) (n := 11300) (by omega) (by omega) ?_
        exact lm_moves C h2P h7P h1G hHm0 hV00 KE hC hW hS (lv_sub hl [1, 2, 3, 4, 5, 6, 0] rfl)
      · skip
        have q101 : i < G9 := Nat.lt_of_not_le (fun q => c_101 ((nI_leI (by omega) (by omega)).mpr q))
        refine lv_iload hx hb dL_law_104 (lv_at hl 4 rfl) ?_
        refine lv_aload_n hx hb dL_law_106 rfl (lv_at hl 1 rfl) ?_
        refine y_ci (b_runSW B hT hX hN hW hS (As := [.ref (ad 0)]) (rest := [.int 1]) (fun sz => lq_addHousehold hlf hI hty hC sz) (cwL_130 B.2.2.2.2.1 ⟨Nat.le_of_ble_eq_true rfl, Nat.le_of_ble_eq_true rfl⟩) rfl hl.1 (Nat.le_of_ble_eq_true rfl) dL_law_107 ⟨by show _ ≤ 600390; omega, by show _ ≤ 7288600; omega⟩) hI hW hS (fun k h => h) (fun _ _ => rfl) (fun E1 => E1) (fun _ _ _ => rfl) (fun E1 j hj hno => absurd rfl (hno j hj)) (fun r_107 E H locs hp hW hS => ?_)
        obtain ⟨hr_, hC⟩ := hp
        have h0 := kAddH_0 (nH := i) (by omega)
        rw [h0, hv_0] at hr_
        have hC := (hC.resolve_right (fun q => q.1 h0)).2
        subst hr_
        refine lv_iload hx hb dL_law_110 (lv_at hl 6 rfl) ?_
        refine lv_icmp_ne (tgt := 119) hx hb dL_law_112 (by decide) (fun c_112 => ?_) (fun c_112 => ?_)
        · exact absurd rfl c_112
        · skip
          refine lv_iconst (v := 1) hx hb dL_law_115 (by decide) ?_
          refine lv_goto (tgt := 120) hx hb dL_law_116 (by decide) ?_
          refine lv_iand hx hb dL_law_120 ?_
          refine b_top (y := 1) (by decide) ?_
          refine lv_istore (lv' := [(4, .int 1), (0, .ref b), (1, .ref (ad 0)), (2, .int (nI P9)), (3, .int (nI G9)), (5, .int (nI (2 + 2 * P9))), (6, .int (nI i))]) hx hb dL_law_121 hl (by decide) rfl (fun ls hl => ?_)
          refine lv_iinc (v := (nI (i + 1))) (lv' := [(6, .int (nI (i + 1))), (4, .int 1), (0, .ref b), (1, .ref (ad 0)), (2, .int (nI P9)), (3, .int (nI G9)), (5, .int (nI (2 + 2 * P9)))]) hx hb dL_law_123 hl (k := 6) rfl (nI_1 i) (by decide) rfl (fun ls hl => ?_)
          refine lv_goto (tgt := 98) hx hb dL_law_126 (by decide) ?_
          refine W.widen (k := 170 + 8 * (i + 1)) (n := 11050 + 48 * (i + 1)) (by omega) (by omega) ?_
          exact ih (i + 1) (by omega) (by omega) _ _ _ _ hC hW hS (lv_sub hl [2, 3, 4, 5, 1, 6, 0] rfl)
  refine W.widen (k := 170 + 8 * 0) (n := 11050 + 48 * 0) (by omega) (by omega) ?_
  exact L_98 (G9 + 1) 0 (by omega) (by omega) _ _ _ _ hC hW hS (lv_sub hl [0, 1, 2, 3, 4, 5, 6] rfl)
set_option maxHeartbeats 8000000 in
set_option maxRecDepth 100000 in
theorem lm_persons {p : Program} {l : Launch} {e : Env} {s : State} {m : MethodId} {args : Array Value} {below : List Frame} {meth : Method} {c : Code} {Q : State → Prop} {D : va_G} {ad : Nat → Nat} {cI cZ cH cP cT cJ cF : ClassId} {b L : Nat} {xs : Nat → Int32} (C : LC35 p l s m args c D ad cI cZ cH cP cT cJ cF b L xs) {ag : Nat → Int32} {P9 G9 : Nat} {E : Nat → va_E} {H : Heap} {locs : List Loc} {ls : Array Slot} (h2P : 2 ≤ P9) (h7P : P9 ≤ 7) (h1G : 1 ≤ G9) (h4G : G9 ≤ 4) (KE : LE35 p l e s m args below meth c Q D ad cI cH cP cT b) (hC : CW cI cI cH cP cT ad fV fT ag 0 0 0 (nI 7) 0 0 0 (fun _ _ => 0) (fun _ _ => 0) E) (hW : hH D ad 109 E H) (hS : va_S (cA ad 109 s.heap.size) s.heap H locs) (hl : lv_has ls 20 [(0, .ref b), (1, .ref (ad 0)), (2, .int (nI P9)), (3, .int (nI G9)), (4, .int 1), (5, .int (nI (2 + 2 * 0))), (6, .int (nI 0))]) : W p l e room_1 s m args below meth c H locs (110) (10700) Q (F0 m 36 ls []) := by
  obtain ⟨B, ⟨hlf, hT, hN, hX, hI⟩, hXs, hbl, hbA, hL⟩ := id C
  have hx := B.1
  have hb := B.2.1
  have hty : TY [(cI, .int), (cZ, .int), (cH, .object RX1), (cP, .object RX2), (cT, .object RX4), (cJ, .int), (cF, .int)] cI cI cH cP cT := ⟨rfl, rfl, rfl, rfl, rfl⟩
  obtain ⟨hP8, hH4, hR12⟩ := hC.bds
  have L_36 : ∀ (n_ : Nat) (i : Nat) (ag : Nat → Int32), (hi : i ≤ P9) → (hn : P9 < n_ + i) → ∀ (E : Nat → va_E) (H : Heap) (locs : List Loc) (ls : Array Slot), CW cI cI cH cP cT ad fV fT ag i 0 0 (nI 7) 0 0 0 (fun _ _ => 0) (fun _ _ => 0) E → hH D ad 109 E H → va_S (cA ad 109 s.heap.size) s.heap H locs → lv_has ls 20 [(0, .ref b), (1, .ref (ad 0)), (2, .int (nI P9)), (3, .int (nI G9)), (4, .int 1), (5, .int (nI (2 + 2 * i))), (6, .int (nI i))] → W p l e room_1 s m args below meth c H locs (110 + 8 * i) (10700 + 48 * i) Q (F0 m 36 ls []) := by
    intro n_
    induction n_ with
    | zero =>
      intro i ag hi hn
      omega
    | succ n_ ih =>
      intro i ag hi hn E H locs ls hC hW hS hl
      refine lv_iload hx hb dL_law_36 (lv_at hl 6 rfl) ?_
      refine lv_iload_n hx hb dL_law_38 rfl (lv_at hl 2 rfl) ?_
      refine lv_icmp_ge (tgt := 95) hx hb dL_law_39 (by decide) (fun c_39 => ?_) (fun c_39 => ?_)
      · skip
        refine lv_iconst (v := (nI 0)) hx hb dL_law_95 (by decide) ?_
        refine lv_istore (lv' := [(6, .int (nI 0)), (0, .ref b), (1, .ref (ad 0)), (2, .int (nI P9)), (3, .int (nI G9)), (4, .int 1), (5, .int (nI (2 + 2 * i)))]) hx hb dL_law_96 hl (by decide) rfl (fun ls hl => ?_)
        have ei : i = P9 := Nat.le_antisymm hi ((nI_leI (by omega) (by omega)).mp c_39)
        rw [ei] at hC
        refine W.widen (k := 170) (n := 11050) (by omega) (by omega) ?_
        have hl : lv_has ls 20 [(0, .ref b), (1, .ref (ad 0)), (2, .int (nI P9)), (3, .int (nI G9)), (4, .int 1), (5, .int (nI (2 + 2 * P9))), (6, .int (nI 0))] := by rw [ei] at hl; exact lv_sub hl [1, 2, 3, 4, 5, 6, 0] rfl
        exact lm_houses C h2P h7P h1G h4G KE hC hW hS hl
      · skip
        have q39 : i < P9 := Nat.lt_of_not_le (fun q => c_39 ((nI_leI (by omega) (by omega)).mpr q))
        refine lv_iload hx hb dL_law_42 (lv_at hl 4 rfl) ?_
        refine lv_aload_n hx hb dL_law_44 rfl (lv_at hl 1 rfl) ?_
        refine lv_aload_n hx hb dL_law_45 rfl (lv_at hl 0 rfl) ?_
        refine lv_iload hx hb dL_law_46 (lv_at hl 5 rfl) ?_
        refine lv_iconst (v := (nI 3)) hx hb dL_law_48 (by decide) ?_
        refine b_ci0 (b_runSX (E := fun _ => .inl (cI, 0, .inl (fun _ => 0))) B hT hX hXs hbl hbA hS (As := [.ref b, .int (nI (2 + 2 * i)), .int (nI 3)]) (rest := [.ref (ad 0), .int 1]) (fun sz => ow_pick (ad := ad) (2 + 2 * i) 3 (by omega) (by omega) (by omega) hL sz) (cwL_123 B.2.2.2.2.1 ⟨Nat.le_of_ble_eq_true rfl, Nat.le_of_ble_eq_true rfl⟩) rfl hl.1 (Nat.le_of_ble_eq_true rfl) dL_law_49 ⟨by show _ ≤ 600390; omega, by show _ ≤ 7288600; omega⟩) hW hS (fun r_49 H locs hp hW hS => ?_)
        obtain ⟨_, j49, hj49, hr_⟩ := hp
        subst hr_
        refine lv_if_ne (tgt := 69) hx hb dL_law_52 (by decide) (fun c_52 => ?_) (fun c_52 => ?_)
        · skip
          refine lv_iconst (v := (nI 0)) hx hb dL_law_69 (by decide) ?_
          refine y_ci (b_runSW B hT hX hN hW hS (As := [.ref (ad 0), .int (nI 0)]) (rest := [.int 1]) (fun sz => lq_addPerson hlf hI hty (nI 0) hC sz) (cwL_127 B.2.2.2.2.1 ⟨Nat.le_of_ble_eq_true rfl, Nat.le_of_ble_eq_true rfl⟩) rfl hl.1 (Nat.le_of_ble_eq_true rfl) dL_law_70 ⟨by show _ ≤ 600390; omega, by show _ ≤ 7288600; omega⟩) hI hW hS (fun k h => h) (fun _ _ => rfl) (fun E1 => E1) (fun _ _ _ => rfl) (fun E1 j hj hno => absurd rfl (hno j hj)) (fun r_70 E H locs hp hW hS => ?_)
          obtain ⟨hr_, hC⟩ := hp
          have h0 := kAddP_0 (nP := i) (a := 0) (by omega) (by omega)
          rw [h0, hv_0] at hr_
          have hC := (hC.resolve_right (fun q => q.1 h0)).2
          subst hr_
          refine lv_iload hx hb dL_law_73 (lv_at hl 6 rfl) ?_
          refine lv_icmp_ne (tgt := 82) hx hb dL_law_75 (by decide) (fun c_75 => ?_) (fun c_75 => ?_)
          · exact absurd rfl c_75
          · skip
            refine lv_iconst (v := 1) hx hb dL_law_78 (by decide) ?_
            refine lv_goto (tgt := 83) hx hb dL_law_79 (by decide) ?_
            refine lv_iand hx hb dL_law_83 ?_
            refine b_top (y := 1) (by decide) ?_
            refine lv_istore (lv' := [(4, .int 1), (0, .ref b), (1, .ref (ad 0)), (2, .int (nI P9)), (3, .int (nI G9)), (5, .int (nI (2 + 2 * i))), (6, .int (nI i))]) hx hb dL_law_84 hl (by decide) rfl (fun ls hl => ?_)
            refine lv_iinc (v := (nI (2 + 2 * (i + 1)))) (lv' := [(5, .int (nI (2 + 2 * (i + 1)))), (4, .int 1), (0, .ref b), (1, .ref (ad 0)), (2, .int (nI P9)), (3, .int (nI G9)), (6, .int (nI i))]) hx hb dL_law_86 hl (k := 5) rfl nI_p2 (by decide) rfl (fun ls hl => ?_)
            refine lv_iinc (v := (nI (i + 1))) (lv' := [(6, .int (nI (i + 1))), (5, .int (nI (2 + 2 * (i + 1)))), (4, .int 1), (0, .ref b), (1, .ref (ad 0)), (2, .int (nI P9)), (3, .int (nI G9))]) hx hb dL_law_89 hl (k := 6) rfl (nI_1 i) (by decide) rfl (fun ls hl => ?_)
            refine lv_goto (tgt := 36) hx hb dL_law_92 (by decide) ?_
            refine W.widen (k := 110 + 8 * (i + 1)) (n := 10700 + 48 * (i + 1)) (by omega) (by omega) ?_
            exact ih (i + 1) _ (by omega) (by omega) _ _ _ _ hC hW hS (lv_sub hl [3, 4, 5, 6, 2, 1, 0] rfl)
        · skip
          refine lv_aload_n hx hb dL_law_55 rfl (lv_at hl 0 rfl) ?_
          refine lv_iload hx hb dL_law_56 (lv_at hl 5 rfl) ?_
          refine lv_iconst (v := 1) hx hb dL_law_58 (by decide) ?_
          refine lv_iadd hx hb dL_law_59 ?_
          refine b_top (y := nI (2 + 2 * i + 1)) (nI_add _ 1) ?_
          refine lv_sipush (v := (nI 420)) hx hb dL_law_60 (by decide) ?_
          refine b_ci0 (b_runSX (E := fun _ => .inl (cI, 0, .inl (fun _ => 0))) B hT hX hXs hbl hbA hS (As := [.ref b, .int (nI (2 + 2 * i + 1)), .int (nI 420)]) (rest := [.ref (ad 0), .int 1]) (fun sz => ow_pick (ad := ad) (2 + 2 * i + 1) 420 (by omega) (by omega) (by omega) hL sz) (cwL_123 B.2.2.2.2.1 ⟨Nat.le_of_ble_eq_true rfl, Nat.le_of_ble_eq_true rfl⟩) rfl hl.1 (Nat.le_of_ble_eq_true rfl) dL_law_63 ⟨by show _ ≤ 600390; omega, by show _ ≤ 7288600; omega⟩) hW hS (fun r_63 H locs hp hW hS => ?_)
          obtain ⟨_, j63, hj63, hr_⟩ := hp
          subst hr_
          refine lv_goto (tgt := 70) hx hb dL_law_66 (by decide) ?_
          refine y_ci (b_runSW B hT hX hN hW hS (As := [.ref (ad 0), .int (nI j63)]) (rest := [.int 1]) (fun sz => lq_addPerson hlf hI hty (nI j63) hC sz) (cwL_127 B.2.2.2.2.1 ⟨Nat.le_of_ble_eq_true rfl, Nat.le_of_ble_eq_true rfl⟩) rfl hl.1 (Nat.le_of_ble_eq_true rfl) dL_law_70 ⟨by show _ ≤ 600390; omega, by show _ ≤ 7288600; omega⟩) hI hW hS (fun k h => h) (fun _ _ => rfl) (fun E1 => E1) (fun _ _ _ => rfl) (fun E1 j hj hno => absurd rfl (hno j hj)) (fun r_70 E H locs hp hW hS => ?_)
          obtain ⟨hr_, hC⟩ := hp
          have h0 := kAddP_0 (nP := i) (a := j63) (by omega) (by omega)
          rw [h0, hv_0] at hr_
          have hC := (hC.resolve_right (fun q => q.1 h0)).2
          subst hr_
          refine lv_iload hx hb dL_law_73 (lv_at hl 6 rfl) ?_
          refine lv_icmp_ne (tgt := 82) hx hb dL_law_75 (by decide) (fun c_75 => ?_) (fun c_75 => ?_)
          · exact absurd rfl c_75
          · skip
            refine lv_iconst (v := 1) hx hb dL_law_78 (by decide) ?_
            refine lv_goto (tgt := 83) hx hb dL_law_79 (by decide) ?_
            refine lv_iand hx hb dL_law_83 ?_
            refine b_top (y := 1) (by decide) ?_
            refine lv_istore (lv' := [(4, .int 1), (0, .ref b), (1, .ref (ad 0)), (2, .int (nI P9)), (3, .int (nI G9)), (5, .int (nI (2 + 2 * i))), (6, .int (nI i))]) hx hb dL_law_84 hl (by decide) rfl (fun ls hl => ?_)
            refine lv_iinc (v := (nI (2 + 2 * (i + 1)))) (lv' := [(5, .int (nI (2 + 2 * (i + 1)))), (4, .int 1), (0, .ref b), (1, .ref (ad 0)), (2, .int (nI P9)), (3, .int (nI G9)), (6, .int (nI i))]) hx hb dL_law_86 hl (k := 5) rfl nI_p2 (by decide) rfl (fun ls hl => ?_)
            refine lv_iinc (v := (nI (i + 1))) (lv' := [(6, .int (nI (i + 1))), (5, .int (nI (2 + 2 * (i + 1)))), (4, .int 1), (0, .ref b), (1, .ref (ad 0)), (2, .int (nI P9)), (3, .int (nI G9))]) hx hb dL_law_89 hl (k := 6) rfl (nI_1 i) (by decide) rfl (fun ls hl => ?_)
            refine lv_goto (tgt := 36) hx hb dL_law_92 (by decide) ?_
            refine W.widen (k := 110 + 8 * (i + 1)) (n := 10700 + 48 * (i + 1)) (by omega) (by omega) ?_
            exact ih (i + 1) _ (by omega) (by omega) _ _ _ _ hC hW hS (lv_sub hl [3, 4, 5, 6, 2, 1, 0] rfl)
  refine W.widen (k := 110 + 8 * 0) (n := 10700 + 48 * 0) (by omega) (by omega) ?_
  exact L_36 (P9 + 1) 0 _ (by omega) (by omega) _ _ _ _ hC hW hS (lv_sub hl [0, 1, 2, 3, 4, 5, 6] rfl)
