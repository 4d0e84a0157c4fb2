theorem gfX5_186 {p : Program} {l : Launch} {e : Env} {R : Room} {s : State} {m : MethodId} {args : Array Value} {below : List Frame} {meth : Method} {c : Code} {H : Heap} {locs : List Loc} {cells slots : Nat} {Q : State → Prop} {cc : ByteArray} {pc nL : Nat} {ls : Array Slot} {rest : List Value} {D : va_G} {tys : List (ClassId × FieldType)} {ad : Nat → Nat} {N : Nat} {E : Nat → va_E} {k : Nat} {fs : List Value} {v : Value} (B : MB p c cc nL RX5 s m args D tys) (hT : TX s) (hW : hH D ad N E H) (hk : k < N) (he : E k = .inr (0, fs)) (hv : fs[0]? = some v) (hdg : decode cc pc = .ok (.getfield 186, 3)) (kk : W p l e R s m args below meth c H locs cells slots Q (F0 m (pc + 3) ls (v :: rest))) : W p l e R s m args below meth c H locs cells slots Q (F0 m pc ls (.ref (ad k) :: rest)) :=
  b_getN B hT hW (host := "BenefitOffice") inlX0 rfl 0 (by decide) (List.mem_of_getElem? (i := 3) rfl) rfl hk he hv hdg kk
theorem gfX5_192 {p : Program} {l : Launch} {e : Env} {R : Room} {s : State} {m : MethodId} {args : Array Value} {below : List Frame} {meth : Method} {c : Code} {H : Heap} {locs : List Loc} {cells slots : Nat} {Q : State → Prop} {cc : ByteArray} {pc nL : Nat} {ls : Array Slot} {rest : List Value} {D : va_G} {tys : List (ClassId × FieldType)} {ad : Nat → Nat} {N : Nat} {E : Nat → va_E} {k : Nat} {fs : List Value} {v : Value} (B : MB p c cc nL RX5 s m args D tys) (hT : TX s) (hW : hH D ad N E H) (hk : k < N) (he : E k = .inr (0, fs)) (hv : fs[2]? = some v) (hdg : decode cc pc = .ok (.getfield 192, 3)) (kk : W p l e R s m args below meth c H locs cells slots Q (F0 m (pc + 3) ls (v :: rest))) : W p l e R s m args below meth c H locs cells slots Q (F0 m pc ls (.ref (ad k) :: rest)) :=
  b_getN B hT hW (host := "BenefitOffice") inlX0 rfl 2 (by decide) (List.mem_of_getElem? (i := 5) rfl) rfl hk he hv hdg kk
theorem gfX5_195 {p : Program} {l : Launch} {e : Env} {R : Room} {s : State} {m : MethodId} {args : Array Value} {below : List Frame} {meth : Method} {c : Code} {H : Heap} {locs : List Loc} {cells slots : Nat} {Q : State → Prop} {cc : ByteArray} {pc nL : Nat} {ls : Array Slot} {rest : List Value} {D : va_G} {tys : List (ClassId × FieldType)} {ad : Nat → Nat} {N : Nat} {E : Nat → va_E} {k : Nat} {fs : List Value} {v : Value} (B : MB p c cc nL RX5 s m args D tys) (hT : TX s) (hW : hH D ad N E H) (hk : k < N) (he : E k = .inr (0, fs)) (hv : fs[3]? = some v) (hdg : decode cc pc = .ok (.getfield 195, 3)) (kk : W p l e R s m args below meth c H locs cells slots Q (F0 m (pc + 3) ls (v :: rest))) : W p l e R s m args below meth c H locs cells slots Q (F0 m pc ls (.ref (ad k) :: rest)) :=
  b_getN B hT hW (host := "BenefitOffice") inlX0 rfl 3 (by decide) (List.mem_of_getElem? (i := 6) rfl) rfl hk he hv hdg kk
theorem gfX5_199 {p : Program} {l : Launch} {e : Env} {R : Room} {s : State} {m : MethodId} {args : Array Value} {below : List Frame} {meth : Method} {c : Code} {H : Heap} {locs : List Loc} {cells slots : Nat} {Q : State → Prop} {cc : ByteArray} {pc nL : Nat} {ls : Array Slot} {rest : List Value} {D : va_G} {tys : List (ClassId × FieldType)} {ad : Nat → Nat} {N : Nat} {E : Nat → va_E} {k : Nat} {fs : List Value} {v : Value} (B : MB p c cc nL RX5 s m args D tys) (hT : TX s) (hW : hH D ad N E H) (hk : k < N) (he : E k = .inr (0, fs)) (hv : fs[4]? = some v) (hdg : decode cc pc = .ok (.getfield 199, 3)) (kk : W p l e R s m args below meth c H locs cells slots Q (F0 m (pc + 3) ls (v :: rest))) : W p l e R s m args below meth c H locs cells slots Q (F0 m pc ls (.ref (ad k) :: rest)) :=
  b_getN B hT hW (host := "BenefitOffice") inlX0 rfl 4 (by decide) (List.mem_of_getElem? (i := 7) rfl) rfl hk he hv hdg kk
theorem cwX5_147 {R : Room} {s : State} {args : Array Value} {rm : Room} (hts : ∀ w ∈ wsL_law, w.before args s = true) (hR : rm.frames + 1 ≤ R.frames ∧ 8 + (1 + 11) + rm.locals ≤ R.locals) : CWS R s args RX5 147 yX5_requireMonth cX5_requireMonth 1 none rm rm.cells rm.slots 1 :=
  va_cwS 1 hts (gi_S (r10_in _ (List.mem_of_getElem? (i := 22) rfl)) (r10_in _ (List.mem_of_getElem? (i := 23) rfl)) (r1_in _ (List.mem_of_getElem? (i := 2) rfl)) (r11_in _ (List.mem_of_getElem? (i := 0) rfl))) rfl rfl rfl (by decide +kernel) hR
theorem gfX5_131 {p : Program} {l : Launch} {e : Env} {R : Room} {s : State} {m : MethodId} {args : Array Value} {below : List Frame} {meth : Method} {c : Code} {H : Heap} {locs : List Loc} {cells slots : Nat} {Q : State → Prop} {cc : ByteArray} {pc nL : Nat} {ls : Array Slot} {rest : List Value} {D : va_G} {tys : List (ClassId × FieldType)} {ad : Nat → Nat} {N : Nat} {E : Nat → va_E} {k : Nat} {fs : List Value} {v : Value} (B : MB p c cc nL RX5 s m args D tys) (hT : TX s) (hW : hH D ad N E H) (hk : k < N) (he : E k = .inr (5, fs)) (hv : fs[7]? = some v) (hdg : decode cc pc = .ok (.getfield 131, 3)) (kk : W p l e R s m args below meth c H locs cells slots Q (F0 m (pc + 3) ls (v :: rest))) : W p l e R s m args below meth c H locs cells slots Q (F0 m pc ls (.ref (ad k) :: rest)) :=
  b_get B hW inlX5 rfl 7 (by decide) (r8_in _ (List.mem_of_getElem? (i := 3) rfl)) rfl hk he hv hdg kk
theorem gfX5_158 {p : Program} {l : Launch} {e : Env} {R : Room} {s : State} {m : MethodId} {args : Array Value} {below : List Frame} {meth : Method} {c : Code} {H : Heap} {locs : List Loc} {cells slots : Nat} {Q : State → Prop} {cc : ByteArray} {pc nL : Nat} {ls : Array Slot} {rest : List Value} {D : va_G} {tys : List (ClassId × FieldType)} {ad : Nat → Nat} {N : Nat} {E : Nat → va_E} {k : Nat} {fs : List Value} {v : Value} (B : MB p c cc nL RX5 s m args D tys) (hT : TX s) (hW : hH D ad N E H) (hk : k < N) (he : E k = .inr (1, fs)) (hv : fs[2]? = some v) (hdg : decode cc pc = .ok (.getfield 158, 3)) (kk : W p l e R s m args below meth c H locs cells slots Q (F0 m (pc + 3) ls (v :: rest))) : W p l e R s m args below meth c H locs cells slots Q (F0 m pc ls (.ref (ad k) :: rest)) :=
  b_getN B hT hW (host := "BenefitOffice") inlX1 rfl 2 (by decide) (List.mem_of_getElem? (i := 15) rfl) rfl hk he hv hdg kk
theorem gfX5_143 {p : Program} {l : Launch} {e : Env} {R : Room} {s : State} {m : MethodId} {args : Array Value} {below : List Frame} {meth : Method} {c : Code} {H : Heap} {locs : List Loc} {cells slots : Nat} {Q : State → Prop} {cc : ByteArray} {pc nL : Nat} {ls : Array Slot} {rest : List Value} {D : va_G} {tys : List (ClassId × FieldType)} {ad : Nat → Nat} {N : Nat} {E : Nat → va_E} {k : Nat} {fs : List Value} {v : Value} (B : MB p c cc nL RX5 s m args D tys) (hT : TX s) (hW : hH D ad N E H) (hk : k < N) (he : E k = .inr (5, fs)) (hv : fs[9]? = some v) (hdg : decode cc pc = .ok (.getfield 143, 3)) (kk : W p l e R s m args below meth c H locs cells slots Q (F0 m (pc + 3) ls (v :: rest))) : W p l e R s m args below meth c H locs cells slots Q (F0 m pc ls (.ref (ad k) :: rest)) :=
  b_get B hW inlX5 rfl 9 (by decide) (r7_in _ (List.mem_of_getElem? (i := 14) rfl)) rfl hk he hv hdg kk
theorem gfX5_140 {p : Program} {l : Launch} {e : Env} {R : Room} {s : State} {m : MethodId} {args : Array Value} {below : List Frame} {meth : Method} {c : Code} {H : Heap} {locs : List Loc} {cells slots : Nat} {Q : State → Prop} {cc : ByteArray} {pc nL : Nat} {ls : Array Slot} {rest : List Value} {D : va_G} {tys : List (ClassId × FieldType)} {ad : Nat → Nat} {N : Nat} {E : Nat → va_E} {k : Nat} {fs : List Value} {v : Value} (B : MB p c cc nL RX5 s m args D tys) (hT : TX s) (hW : hH D ad N E H) (hk : k < N) (he : E k = .inr (5, fs)) (hv : fs[8]? = some v) (hdg : decode cc pc = .ok (.getfield 140, 3)) (kk : W p l e R s m args below meth c H locs cells slots Q (F0 m (pc + 3) ls (v :: rest))) : W p l e R s m args below meth c H locs cells slots Q (F0 m pc ls (.ref (ad k) :: rest)) :=
  b_get B hW inlX5 rfl 8 (by decide) (r14_in _ (List.mem_of_getElem? (i := 17) rfl)) rfl hk he hv hdg kk
theorem ix_nI {i : Nat} (h : i < 2 ^ 31) : ix (nI i) = i := nI_clamp h
def lcm (x y : Int64) : Int32 := if y < x then 1 else if x = y then 0 else -1
theorem lcm_0 {x y : Int64} : lcm x y = 0 ↔ x = y := by
  unfold lcm
  rcases Jvm.Stand.i64_tri x y with h | h | h
  · have h1 : ¬ y < x := by rw [Int64.lt_iff_toInt_lt] at h ⊢; omega
    have h2 : ¬ x = y := by intro e'; rw [e'] at h; rw [Int64.lt_iff_toInt_lt] at h; omega
    rw [if_neg h1, if_neg h2]
    exact ⟨fun q => absurd q (by decide), fun q => absurd q h2⟩
  · subst h
    rw [if_neg (by rw [Int64.lt_iff_toInt_lt]; omega), if_pos rfl]
    exact ⟨fun _ => rfl, fun _ => rfl⟩
  · have h2 : ¬ x = y := by intro e'; rw [e'] at h; rw [Int64.lt_iff_toInt_lt] at h; omega
    rw [if_pos h]
    exact ⟨fun q => absurd q (by decide), fun q => absurd q h2⟩
theorem b_lcmp {p : Program} {l : Launch} {e : Env} {R : Room} {s : State} {m : MethodId} {args : Array Value} {below : List Frame} {meth : Method} {c : Code} {H : Heap} {locs : List Loc} {cells slots : Nat} {Q : State → Prop} {cc : ByteArray} {pc : Nat} {ls : Array Slot} {rest : List Value} (hexec : p.tables.exec = Jvm.exec) (hb : c.code = cc) {x y : Int64} (hdg : decode cc pc = .ok (.lcmp, 1))
    (k : W p l e R s m args below meth c H locs cells slots Q (F0 m (pc + 1) ls (.int (lcm x y) :: rest))) : W p l e R s m args below meth c H locs cells slots Q (F0 m pc ls (.long y :: .long x :: rest)) := by
  intro T hT X
  obtain ⟨t, a, b⟩ := k T hT X
  refine ⟨t, ?_, b⟩
  unfold lcm at a
  rcases Jvm.Stand.i64_tri x y with h | h | h
  · have h1 : ¬ y < x := by rw [Int64.lt_iff_toInt_lt] at h ⊢; omega
    have h2 : ¬ x = y := by intro e'; rw [e'] at h; rw [Int64.lt_iff_toInt_lt] at h; omega
    rw [if_neg h1, if_neg h2] at a
    exact Jvm.Stand.lcmpLt X hexec h (by rw [hb]; exact hdg) t a
  · subst h
    rw [if_neg (by rw [Int64.lt_iff_toInt_lt]; omega), if_pos rfl] at a
    exact Jvm.Stand.lcmpEq X hexec (by rw [hb]; exact hdg) t a
  · rw [if_pos h] at a
    exact Jvm.Stand.lcmpGt X hexec h (by rw [hb]; exact hdg) t a
set_option maxHeartbeats 4000000 in
set_option maxRecDepth 100000 in
theorem mt_homeOf {l : Launch} (hlf : l.stackTraces = false) {D : va_G} {tys : List (ClassId × FieldType)} {ad : Nat → Nat} (hI : aI ad 109) {cI cZ cH cP cT : ClassId} (V T : Nat → Nat → Int32) (ag : Nat → Int32) (nP nH rN : Nat) (nf pn : Int32) (sp sk : Int64) (py pd : Nat → Nat → Int32) (so en : Nat → Int32) (rA rC rI aA aC aH aT aP : Int32) (x dy : Int32) (hti : tys[0]? = some (cI, .int)) (htz : cZ = cI) (hth : tys[2]? = some (cH, .object RX1)) (htp : tys[3]? = some (cP, .object RX2)) (htt : tys[4]? = some (cT, .object RX4)) (hInv : Inv V T ag nP nH rN so pd)  (sz : Nat) : vx_Met l yX5_homeOf (Cond.code yX5_homeOf cX5_homeOf 4 (some .int) :: wsL_law) (rmk 6 8 48) (va_Pc [.ref (ad 0), .int x, .int dy] (PC D tys ad 109 (cE cI cZ cH cP cT ad V T ag nP nH rN nf pn sp sk py pd so en rA rC rI aA aC aH aT aP) sz)) (Qi D ad 109 (fun r E1 => (kAsk nP x dy = 0 ∧ r = V (ix x) (ix dy)) ∧ CW cI cZ cH cP cT ad V T ag nP nH rN nf pn sp sk py pd E1) (cA ad 109 sz)) (Xx D ad 109 (fun Ex E1 => (Ex = xIOB ∧ kAsk nP x dy = 1 ∨ Ex = xIAE ∧ kAsk nP x dy = 2) ∧ CW cI cZ cH cP cT ad V T ag nP nH rN nf pn sp sk py pd E1) (cA ad 109 sz)) 8 48 (cA ad 109 sz) := by
  refine cx_of (own := RX5) (Qc := Qi D ad 109 (fun r E1 => (kAsk nP x dy = 0 ∧ r = V (ix x) (ix dy)) ∧ CW cI cZ cH cP cT ad V T ag nP nH rN nf pn sp sk py pd E1)) (XC := Xx D ad 109 (fun Ex E1 => (Ex = xIOB ∧ kAsk nP x dy = 1 ∨ Ex = xIAE ∧ kAsk nP x dy = 2) ∧ CW cI cZ cH cP cT ad V T ag nP nH rN nf pn sp sk py pd E1)) rfl (by decide +kernel) (Nat.le_of_ble_eq_true rfl) ?_ sz
  intro p e s m args below meth c ls Q B hT hX hW hr hlk htb hl hS hA hQ
  have hx := B.1
  have hb := B.2.1
  have hl : lv_has ls 4 [(0, .ref (ad 0)), (1, .int x), (2, .int dy)] := hl
  obtain ⟨⟨hP8, hH4, hR12⟩, hTb, -, hso, -, -, hpd⟩ := id hInv
  refine lv_aload_n hx hb dX5_homeOf_0 rfl (lv_at hl 0 rfl) ?_
  refine lv_iload_n hx hb dX5_homeOf_1 rfl (lv_at hl 1 rfl) ?_
  refine b_xcq hQ (b_xrunV B hT hX hW hS (As := [.int x]) (rest := []) (fun sz => mt_persNum hlf hI V T ag nP nH rN nf pn sp sk py pd so en rA rC rI aA aC aH aT aP x hti htz hth htp htt hP8 sz) (cwX5_82 B.2.2.2.2.1 ⟨Nat.le_of_ble_eq_true rfl, Nat.le_of_ble_eq_true rfl⟩) (b_recv B hW (by decide) cE_0 rfl) rfl hl.1 (Nat.le_of_ble_eq_true rfl) dX5_homeOf_2 ⟨Nat.le_of_ble_eq_true rfl, Nat.le_of_ble_eq_true rfl⟩) hS htb hlk (Nat.le_of_ble_eq_true rfl) (Nat.le_of_ble_eq_true rfl) (fun Ex E1 h => ⟨Or.inl (⟨h.1, by unfold kAsk; rw [cif_f h.2.1]⟩), by rw [h.2.2]; exact CW.mk hInv⟩) (fun r_2 E1 H locs hp_2 hW hS => ?_)
  obtain ⟨hv_2, hr_, hE_⟩ := hp_2
  subst hr_
  have hW := hW.eq hE_
  obtain ⟨i, hi, rfl⟩ := vp_in_of hv_2 (by omega)
  refine W.eq (g2 := F0 m 5 ls [.ref (ad (8 + i))]) (by show F0 m 5 ls _ = _; rw [show ix (nI i) = i from nI_clamp (by omega)]; rfl) ?_
  refine lv_astore_n (lv' := [(3, .ref (ad (8 + i))), (0, .ref (ad 0)), (1, .int (nI i)), (2, .int dy)]) hx hb dX5_homeOf_5 rfl hl (by decide) rfl (fun ls hl => ?_)
  refine lv_iload_n hx hb dX5_homeOf_6 rfl (lv_at hl 3 rfl) ?_
  refine b_xcv hQ (b_xrunS B hT hX hW hS (As := [.int dy]) (rest := []) (fun sz => mt_reqDay hlf hI dy sz) (cwX5_89 B.2.2.2.2.1 ⟨Nat.le_of_ble_eq_true rfl, Nat.le_of_ble_eq_true rfl⟩) rfl hl.1 (Nat.le_of_ble_eq_true rfl) dX5_homeOf_7 ⟨Nat.le_of_ble_eq_true rfl, Nat.le_of_ble_eq_true rfl⟩) hS htb hlk (Nat.le_of_ble_eq_true rfl) (Nat.le_of_ble_eq_true rfl) (fun Ex E1 h => ⟨Or.inr (⟨h.1, by unfold kAsk; rw [cif_t (vp_in_nI hi (by omega)), cif_f h.2.1]⟩), by rw [h.2.2]; exact CW.mk hInv⟩) (fun E1 H locs hp_7 hW hS => ?_)
  obtain ⟨hv_7, hE_⟩ := hp_7
  have hW := hW.eq hE_
  obtain ⟨d, hd, rfl⟩ := vp_in_of hv_7 (by omega)
  have ei : ix (nI i) = i := nI_clamp (by omega)
  have ed : ix (nI d) = d := nI_clamp (by omega)
  refine lv_aload_n hx hb dX5_homeOf_10 rfl (lv_at hl 0 rfl) ?_
  refine gfX5_92 B hT hW (by omega) (cE_per (by omega)) rfl dX5_homeOf_11 ?_
  refine lv_iload_n hx hb dX5_homeOf_14 rfl (lv_at hl 3 rfl) ?_
  refine b_ci (b_runV B hT hX hW hS (As := [.int (nI d)]) (rest := []) (fun sz => mt_valueOn hI (20 + i) (47 + i) (74 + i) (V i) (fun _ => 0) d hti (by omega) (by omega) (cE_tl (by omega)) (cE_val (by omega)) (by omega) sz) (cwX5_167 B.2.2.2.2.1 ⟨Nat.le_of_ble_eq_true rfl, Nat.le_of_ble_eq_true rfl⟩) (b_recv B hW (by omega) (cE_tl (by omega)) rfl) rfl hl.1 (Nat.le_of_ble_eq_true rfl) dX5_homeOf_15 ⟨Nat.le_of_ble_eq_true rfl, Nat.le_of_ble_eq_true rfl⟩) hS (fun r_15 E1 H locs hp_15 hW hS => ?_)
  obtain ⟨hr_, hE_⟩ := hp_15
  subst hr_
  have hW := hW.eq hE_
  exact x_i hQ B hr hlk hS hW dX5_homeOf_18 (Nat.le_of_ble_eq_true rfl) (Nat.le_of_ble_eq_true rfl) (by rw [ei, ed]; exact ⟨⟨by unfold kAsk; rw [cif_t (vp_in_nI hi (by omega)), cif_t (vp_in_nI hd (by omega))], rfl⟩, CW.mk hInv⟩)
set_option maxHeartbeats 4000000 in
set_option maxRecDepth 100000 in
theorem mt_ruleAt {l : Launch} (hlf : l.stackTraces = false) {D : va_G} {tys : List (ClassId × FieldType)} {ad : Nat → Nat} (hI : aI ad 109) {cI cZ cH cP cT : ClassId} (V T : Nat → Nat → Int32) (ag : Nat → Int32) (nP nH rN : Nat) (nf pn : Int32) (sp sk : Int64) (py pd : Nat → Nat → Int32) (so en : Nat → Int32) (rA rC rI aA aC aH aT aP : Int32) (x dy : Int32) (hti : tys[0]? = some (cI, .int)) (htz : cZ = cI) (hth : tys[2]? = some (cH, .object RX1)) (htp : tys[3]? = some (cP, .object RX2)) (htt : tys[4]? = some (cT, .object RX4)) (hInv : Inv V T ag nP nH rN so pd)  (sz : Nat) : vx_Met l yX5_ruleAt (Cond.code yX5_ruleAt cX5_ruleAt 4 (some .int) :: wsL_law) (rmk 6 8 48) (va_Pc [.ref (ad 0), .int x, .int dy] (PC D tys ad 109 (cE cI cZ cH cP cT ad V T ag nP nH rN nf pn sp sk py pd so en rA rC rI aA aC aH aT aP) sz)) (Qi D ad 109 (fun r E1 => (kRat x dy = 0 ∧ r = V (20 + rIx x) (ix dy)) ∧ CW cI cZ cH cP cT ad V T ag nP nH rN nf pn sp sk py pd E1) (cA ad 109 sz)) (Xx D ad 109 (fun Ex E1 => (Ex = xNSE ∧ kRat x dy = 1 ∨ Ex = xIAE ∧ kRat x dy = 2) ∧ CW cI cZ cH cP cT ad V T ag nP nH rN nf pn sp sk py pd E1) (cA ad 109 sz)) 8 48 (cA ad 109 sz) := by
  refine cx_of (own := RX5) (Qc := Qi D ad 109 (fun r E1 => (kRat x dy = 0 ∧ r = V (20 + rIx x) (ix dy)) ∧ CW cI cZ cH cP cT ad V T ag nP nH rN nf pn sp sk py pd E1)) (XC := Xx D ad 109 (fun Ex E1 => (Ex = xNSE ∧ kRat x dy = 1 ∨ Ex = xIAE ∧ kRat x dy = 2) ∧ CW cI cZ cH cP cT ad V T ag nP nH rN nf pn sp sk py pd E1)) rfl (by decide +kernel) (Nat.le_of_ble_eq_true rfl) ?_ sz
  intro p e s m args below meth c ls Q B hT hX hW hr hlk htb hl hS hA hQ
  have hx := B.1
  have hb := B.2.1
  have hl : lv_has ls 4 [(0, .ref (ad 0)), (1, .int x), (2, .int dy)] := hl
  obtain ⟨⟨hP8, hH4, hR12⟩, hTb, -, hso, -, -, hpd⟩ := id hInv
  refine lv_iload_n hx hb dX5_ruleAt_0 rfl (lv_at hl 1 rfl) ?_
  refine b_xci hQ (b_xrunS B hT hX hW hS (As := [.int x]) (rest := []) (fun sz => mt_ruleIx hlf hI x sz) (cwX5_106 B.2.2.2.2.1 ⟨Nat.le_of_ble_eq_true rfl, Nat.le_of_ble_eq_true rfl⟩) rfl hl.1 (Nat.le_of_ble_eq_true rfl) dX5_ruleAt_1 ⟨Nat.le_of_ble_eq_true rfl, Nat.le_of_ble_eq_true rfl⟩) hS htb hlk (Nat.le_of_ble_eq_true rfl) (Nat.le_of_ble_eq_true rfl) (fun Ex E1 h => ⟨Or.inl (⟨h.1, by unfold kRat; rw [cif_f (by rw [rIx_no h.2.1]; decide)]⟩), by rw [h.2.2]; exact CW.mk hInv⟩) (fun r_1 E1 H locs hp_1 hW hS => ?_)
  obtain ⟨ri, hri, hr_, hlet, hE_⟩ := hp_1
  subst hr_
  have hW := hW.eq hE_
  subst hlet
  have el : rIx (ruLet ri) = ri := rIx_of ri hri
  refine lv_istore_n (lv' := [(3, .int (nI ri)), (0, .ref (ad 0)), (1, .int (ruLet ri)), (2, .int dy)]) hx hb dX5_ruleAt_4 rfl hl (by decide) rfl (fun ls hl => ?_)
  refine lv_iload_n hx hb dX5_ruleAt_5 rfl (lv_at hl 3 rfl) ?_
  refine b_xcv hQ (b_xrunS B hT hX hW hS (As := [.int dy]) (rest := []) (fun sz => mt_reqDay hlf hI dy sz) (cwX5_89 B.2.2.2.2.1 ⟨Nat.le_of_ble_eq_true rfl, Nat.le_of_ble_eq_true rfl⟩) rfl hl.1 (Nat.le_of_ble_eq_true rfl) dX5_ruleAt_6 ⟨Nat.le_of_ble_eq_true rfl, Nat.le_of_ble_eq_true rfl⟩) hS htb hlk (Nat.le_of_ble_eq_true rfl) (Nat.le_of_ble_eq_true rfl) (fun Ex E1 h => ⟨Or.inr (⟨h.1, by unfold kRat; rw [cif_t (by rw [el]; exact hri), cif_f h.2.1]⟩), by rw [h.2.2]; exact CW.mk hInv⟩) (fun E1 H locs hp_6 hW hS => ?_)
  obtain ⟨hv_6, hE_⟩ := hp_6
  have hW := hW.eq hE_
  obtain ⟨d, hd, rfl⟩ := vp_in_of hv_6 (by omega)
  have ed : ix (nI d) = d := nI_clamp (by omega)
  refine lv_aload_n hx hb dX5_ruleAt_9 rfl (lv_at hl 1 rfl) ?_
  refine gfX5_23 B hT hW (by decide) cE_0 rfl dX5_ruleAt_10 ?_
  refine lv_iload_n hx hb dX5_ruleAt_13 rfl (lv_at hl 0 rfl) ?_
  refine b_aald B hW 4 htt (j := ri) (by decide) cE_3 (vp_in_nI hri (by decide)) (nI_clamp (by omega)) rfl dX5_ruleAt_14 ?_
  refine lv_iload_n hx hb dX5_ruleAt_15 rfl (lv_at hl 3 rfl) ?_
  refine b_ci (b_runV B hT hX hW hS (As := [.int (nI d)]) (rest := []) (fun sz => mt_valueOn hI (20 + (20 + ri)) (47 + (20 + ri)) (74 + (20 + ri)) (V (20 + ri)) (fun _ => 0) d hti (by omega) (by omega) (cE_tl (by omega)) (cE_val (by omega)) (by omega) sz) (cwX5_167 B.2.2.2.2.1 ⟨Nat.le_of_ble_eq_true rfl, Nat.le_of_ble_eq_true rfl⟩) (b_recv B hW (by omega) (cE_tl (by omega)) rfl) rfl hl.1 (Nat.le_of_ble_eq_true rfl) dX5_ruleAt_16 ⟨Nat.le_of_ble_eq_true rfl, Nat.le_of_ble_eq_true rfl⟩) hS (fun r_16 E1 H locs hp_16 hW hS => ?_)
  obtain ⟨hr_, hE_⟩ := hp_16
  subst hr_
  have hW := hW.eq hE_
  exact x_i hQ B hr hlk hS hW dX5_ruleAt_19 (Nat.le_of_ble_eq_true rfl) (Nat.le_of_ble_eq_true rfl) (by rw [el, ed]; exact ⟨⟨by unfold kRat; rw [cif_t (by rw [el]; exact hri), cif_t (vp_in_nI hd (by omega))], rfl⟩, CW.mk hInv⟩)
set_option maxHeartbeats 4000000 in
set_option maxRecDepth 100000 in
theorem mt_adults {l : Launch} (hlf : l.stackTraces = false) {D : va_G} {tys : List (ClassId × FieldType)} {ad : Nat → Nat} (hI : aI ad 109) {cI cZ cH cP cT : ClassId} (V T : Nat → Nat → Int32) (ag : Nat → Int32) (nP nH rN : Nat) (nf pn : Int32) (sp sk : Int64) (py pd : Nat → Nat → Int32) (so en : Nat → Int32) (rA rC rI aA aC aH aT aP : Int32) (x dy : Int32) (hti : tys[0]? = some (cI, .int)) (htz : cZ = cI) (hth : tys[2]? = some (cH, .object RX1)) (htp : tys[3]? = some (cP, .object RX2)) (htt : tys[4]? = some (cT, .object RX4)) (hInv : Inv V T ag nP nH rN so pd)  (sz : Nat) : vx_Met l yX5_adults (Cond.code yX5_adults cX5_adults 3 (some .int) :: wsL_law) (rmk 6 8 48) (va_Pc [.ref (ad 0), .int x, .int dy] (PC D tys ad 109 (cE cI cZ cH cP cT ad V T ag nP nH rN nf pn sp sk py pd so en rA rC rI aA aC aH aT aP) sz)) (Qi D ad 109 (fun r E1 => (kAsk nH x dy = 0 ∧ r = (cnt V ag (nI (ix x)) (ix dy) nP).1) ∧ CW cI cZ cH cP cT ad V T ag nP nH rN nf pn sp sk py pd E1) (cA ad 109 sz)) (Xx D ad 109 (fun Ex E1 => (Ex = xIOB ∧ kAsk nH x dy = 1 ∨ Ex = xIAE ∧ kAsk nH x dy = 2) ∧ CW cI cZ cH cP cT ad V T ag nP nH rN nf pn sp sk py pd E1) (cA ad 109 sz)) 8 48 (cA ad 109 sz) := by
  refine cx_of (own := RX5) (Qc := Qi D ad 109 (fun r E1 => (kAsk nH x dy = 0 ∧ r = (cnt V ag (nI (ix x)) (ix dy) nP).1) ∧ CW cI cZ cH cP cT ad V T ag nP nH rN nf pn sp sk py pd E1)) (XC := Xx D ad 109 (fun Ex E1 => (Ex = xIOB ∧ kAsk nH x dy = 1 ∨ Ex = xIAE ∧ kAsk nH x dy = 2) ∧ CW cI cZ cH cP cT ad V T ag nP nH rN nf pn sp sk py pd E1)) rfl (by decide +kernel) (Nat.le_of_ble_eq_true rfl) ?_ sz
  intro p e s m args below meth c ls Q B hT hX hW hr hlk htb hl hS hA hQ
  have hx := B.1
  have hb := B.2.1
  have hl : lv_has ls 3 [(0, .ref (ad 0)), (1, .int x), (2, .int dy)] := hl
  obtain ⟨⟨hP8, hH4, hR12⟩, hTb, -, hso, -, -, hpd⟩ := id hInv
  refine lv_aload_n hx hb dX5_adults_0 rfl (lv_at hl 0 rfl) ?_
  refine lv_iload_n hx hb dX5_adults_1 rfl (lv_at hl 1 rfl) ?_
  refine b_xcv hQ (b_xrunV B hT hX hW hS (As := [.int x]) (rest := []) (fun sz => mt_reqHouse hlf hI V T ag nP nH rN nf pn sp sk py pd so en rA rC rI aA aC aH aT aP x hH4 sz) (cwX5_86 B.2.2.2.2.1 ⟨Nat.le_of_ble_eq_true rfl, Nat.le_of_ble_eq_true rfl⟩) (b_recv B hW (by decide) cE_0 rfl) rfl hl.1 (Nat.le_of_ble_eq_true rfl) dX5_adults_2 ⟨Nat.le_of_ble_eq_true rfl, Nat.le_of_ble_eq_true rfl⟩) hS htb hlk (Nat.le_of_ble_eq_true rfl) (Nat.le_of_ble_eq_true rfl) (fun Ex E1 h => ⟨Or.inl (⟨h.1, by unfold kAsk; rw [cif_f h.2.1]⟩), by rw [h.2.2]; exact CW.mk hInv⟩) (fun E1 H locs hp_2 hW hS => ?_)
  obtain ⟨hv_2, hE_⟩ := hp_2
  have hW := hW.eq hE_
  obtain ⟨i, hi, rfl⟩ := vp_in_of hv_2 (by omega)
  refine lv_iload_n hx hb dX5_adults_5 rfl (lv_at hl 2 rfl) ?_
  refine b_xcv hQ (b_xrunS B hT hX hW hS (As := [.int dy]) (rest := []) (fun sz => mt_reqDay hlf hI dy sz) (cwX5_89 B.2.2.2.2.1 ⟨Nat.le_of_ble_eq_true rfl, Nat.le_of_ble_eq_true rfl⟩) rfl hl.1 (Nat.le_of_ble_eq_true rfl) dX5_adults_6 ⟨Nat.le_of_ble_eq_true rfl, Nat.le_of_ble_eq_true rfl⟩) hS htb hlk (Nat.le_of_ble_eq_true rfl) (Nat.le_of_ble_eq_true rfl) (fun Ex E1 h => ⟨Or.inr (⟨h.1, by unfold kAsk; rw [cif_t (vp_in_nI hi (by omega)), cif_f h.2.1]⟩), by rw [h.2.2]; exact CW.mk hInv⟩) (fun E1 H locs hp_6 hW hS => ?_)
  obtain ⟨hv_6, hE_⟩ := hp_6
  have hW := hW.eq hE_
  obtain ⟨d, hd, rfl⟩ := vp_in_of hv_6 (by omega)
  have ei : ix (nI i) = i := nI_clamp (by omega)
  have ed : ix (nI d) = d := nI_clamp (by omega)
  refine lv_aload_n hx hb dX5_adults_9 rfl (lv_at hl 0 rfl) ?_
  refine lv_iload_n hx hb dX5_adults_10 rfl (lv_at hl 1 rfl) ?_
  refine lv_iload_n hx hb dX5_adults_11 rfl (lv_at hl 2 rfl) ?_
  refine b_cv (b_runV B hT hX hW hS (As := [.int (nI i), .int (nI d)]) (rest := []) (fun sz => mt_findRes hI V T ag nP nH rN nf pn sp sk py pd so en rA rC rI aA aC aH aT aP i d hti htz hth htp htt hP8 (by omega) sz) (cwX5_171 B.2.2.2.2.1 ⟨Nat.le_of_ble_eq_true rfl, Nat.le_of_ble_eq_true rfl⟩) (b_recv B hW (by decide) cE_0 rfl) rfl hl.1 (Nat.le_of_ble_eq_true rfl) dX5_adults_12 ⟨Nat.le_of_ble_eq_true rfl, Nat.le_of_ble_eq_true rfl⟩) hS (fun E1 H locs hp_12 hW hS => ?_)
  have hW := hW.eq hp_12
  refine lv_aload_n hx hb dX5_adults_15 rfl (lv_at hl 0 rfl) ?_
  refine gfX5_34 B hT hW (by decide) cE_0 rfl dX5_adults_16 ?_
  refine gfX5_175 B hT hW (by decide) cE_5 rfl dX5_adults_19 ?_
  exact x_i hQ B hr hlk hS hW dX5_adults_22 (Nat.le_of_ble_eq_true rfl) (Nat.le_of_ble_eq_true rfl) (by rw [ei, ed]; exact ⟨⟨by unfold kAsk; rw [cif_t (vp_in_nI hi (by omega)), cif_t (vp_in_nI hd (by omega))], rfl⟩, CW.mk hInv⟩)
set_option maxHeartbeats 4000000 in
set_option maxRecDepth 100000 in
theorem mt_children {l : Launch} (hlf : l.stackTraces = false) {D : va_G} {tys : List (ClassId × FieldType)} {ad : Nat → Nat} (hI : aI ad 109) {cI cZ cH cP cT : ClassId} (V T : Nat → Nat → Int32) (ag : Nat → Int32) (nP nH rN : Nat) (nf pn : Int32) (sp sk : Int64) (py pd : Nat → Nat → Int32) (so en : Nat → Int32) (rA rC rI aA aC aH aT aP : Int32) (x dy : Int32) (hti : tys[0]? = some (cI, .int)) (htz : cZ = cI) (hth : tys[2]? = some (cH, .object RX1)) (htp : tys[3]? = some (cP, .object RX2)) (htt : tys[4]? = some (cT, .object RX4)) (hInv : Inv V T ag nP nH rN so pd)  (sz : Nat) : vx_Met l yX5_children (Cond.code yX5_children cX5_children 3 (some .int) :: wsL_law) (rmk 6 8 48) (va_Pc [.ref (ad 0), .int x, .int dy] (PC D tys ad 109 (cE cI cZ cH cP cT ad V T ag nP nH rN nf pn sp sk py pd so en rA rC rI aA aC aH aT aP) sz)) (Qi D ad 109 (fun r E1 => (kAsk nH x dy = 0 ∧ r = (cnt V ag (nI (ix x)) (ix dy) nP).2.1) ∧ CW cI cZ cH cP cT ad V T ag nP nH rN nf pn sp sk py pd E1) (cA ad 109 sz)) (Xx D ad 109 (fun Ex E1 => (Ex = xIOB ∧ kAsk nH x dy = 1 ∨ Ex = xIAE ∧ kAsk nH x dy = 2) ∧ CW cI cZ cH cP cT ad V T ag nP nH rN nf pn sp sk py pd E1) (cA ad 109 sz)) 8 48 (cA ad 109 sz) := by
  refine cx_of (own := RX5) (Qc := Qi D ad 109 (fun r E1 => (kAsk nH x dy = 0 ∧ r = (cnt V ag (nI (ix x)) (ix dy) nP).2.1) ∧ CW cI cZ cH cP cT ad V T ag nP nH rN nf pn sp sk py pd E1)) (XC := Xx D ad 109 (fun Ex E1 => (Ex = xIOB ∧ kAsk nH x dy = 1 ∨ Ex = xIAE ∧ kAsk nH x dy = 2) ∧ CW cI cZ cH cP cT ad V T ag nP nH rN nf pn sp sk py pd E1)) rfl (by decide +kernel) (Nat.le_of_ble_eq_true rfl) ?_ sz
  intro p e s m args below meth c ls Q B hT hX hW hr hlk htb hl hS hA hQ
  have hx := B.1
  have hb := B.2.1
  have hl : lv_has ls 3 [(0, .ref (ad 0)), (1, .int x), (2, .int dy)] := hl
  obtain ⟨⟨hP8, hH4, hR12⟩, hTb, -, hso, -, -, hpd⟩ := id hInv
  refine lv_aload_n hx hb dX5_children_0 rfl (lv_at hl 0 rfl) ?_
  refine lv_iload_n hx hb dX5_children_1 rfl (lv_at hl 1 rfl) ?_
  refine b_xcv hQ (b_xrunV B hT hX hW hS (As := [.int x]) (rest := []) (fun sz => mt_reqHouse hlf hI V T ag nP nH rN nf pn sp sk py pd so en rA rC rI aA aC aH aT aP x hH4 sz) (cwX5_86 B.2.2.2.2.1 ⟨Nat.le_of_ble_eq_true rfl, Nat.le_of_ble_eq_true rfl⟩) (b_recv B hW (by decide) cE_0 rfl) rfl hl.1 (Nat.le_of_ble_eq_true rfl) dX5_children_2 ⟨Nat.le_of_ble_eq_true rfl, Nat.le_of_ble_eq_true rfl⟩) hS htb hlk (Nat.le_of_ble_eq_true rfl) (Nat.le_of_ble_eq_true rfl) (fun Ex E1 h => ⟨Or.inl (⟨h.1, by unfold kAsk; rw [cif_f h.2.1]⟩), by rw [h.2.2]; exact CW.mk hInv⟩) (fun E1 H locs hp_2 hW hS => ?_)
  obtain ⟨hv_2, hE_⟩ := hp_2
  have hW := hW.eq hE_
  obtain ⟨i, hi, rfl⟩ := vp_in_of hv_2 (by omega)
  refine lv_iload_n hx hb dX5_children_5 rfl (lv_at hl 2 rfl) ?_
  refine b_xcv hQ (b_xrunS B hT hX hW hS (As := [.int dy]) (rest := []) (fun sz => mt_reqDay hlf hI dy sz) (cwX5_89 B.2.2.2.2.1 ⟨Nat.le_of_ble_eq_true rfl, Nat.le_of_ble_eq_true rfl⟩) rfl hl.1 (Nat.le_of_ble_eq_true rfl) dX5_children_6 ⟨Nat.le_of_ble_eq_true rfl, Nat.le_of_ble_eq_true rfl⟩) hS htb hlk (Nat.le_of_ble_eq_true rfl) (Nat.le_of_ble_eq_true rfl) (fun Ex E1 h => ⟨Or.inr (⟨h.1, by unfold kAsk; rw [cif_t (vp_in_nI hi (by omega)), cif_f h.2.1]⟩), by rw [h.2.2]; exact CW.mk hInv⟩) (fun E1 H locs hp_6 hW hS => ?_)
  obtain ⟨hv_6, hE_⟩ := hp_6
  have hW := hW.eq hE_
  obtain ⟨d, hd, rfl⟩ := vp_in_of hv_6 (by omega)
  have ei : ix (nI i) = i := nI_clamp (by omega)
  have ed : ix (nI d) = d := nI_clamp (by omega)
  refine lv_aload_n hx hb dX5_children_9 rfl (lv_at hl 0 rfl) ?_
  refine lv_iload_n hx hb dX5_children_10 rfl (lv_at hl 1 rfl) ?_
  refine lv_iload_n hx hb dX5_children_11 rfl (lv_at hl 2 rfl) ?_
  refine b_cv (b_runV B hT hX hW hS (As := [.int (nI i), .int (nI d)]) (rest := []) (fun sz => mt_findRes hI V T ag nP nH rN nf pn sp sk py pd so en rA rC rI aA aC aH aT aP i d hti htz hth htp htt hP8 (by omega) sz) (cwX5_171 B.2.2.2.2.1 ⟨Nat.le_of_ble_eq_true rfl, Nat.le_of_ble_eq_true rfl⟩) (b_recv B hW (by decide) cE_0 rfl) rfl hl.1 (Nat.le_of_ble_eq_true rfl) dX5_children_12 ⟨Nat.le_of_ble_eq_true rfl, Nat.le_of_ble_eq_true rfl⟩) hS (fun E1 H locs hp_12 hW hS => ?_)
  have hW := hW.eq hp_12
  refine lv_aload_n hx hb dX5_children_15 rfl (lv_at hl 0 rfl) ?_
  refine gfX5_34 B hT hW (by decide) cE_0 rfl dX5_children_16 ?_
  refine gfX5_178 B hT hW (by decide) cE_5 rfl dX5_children_19 ?_
  exact x_i hQ B hr hlk hS hW dX5_children_22 (Nat.le_of_ble_eq_true rfl) (Nat.le_of_ble_eq_true rfl) (by rw [ei, ed]; exact ⟨⟨by unfold kAsk; rw [cif_t (vp_in_nI hi (by omega)), cif_t (vp_in_nI hd (by omega))], rfl⟩, CW.mk hInv⟩)
set_option maxHeartbeats 4000000 in
set_option maxRecDepth 100000 in
theorem mt_adultAmount {l : Launch} (hlf : l.stackTraces = false) {D : va_G} {tys : List (ClassId × FieldType)} {ad : Nat → Nat} (hI : aI ad 109) {cI cZ cH cP cT : ClassId} (V T : Nat → Nat → Int32) (ag : Nat → Int32) (nP nH rN : Nat) (nf pn : Int32) (sp sk : Int64) (py pd : Nat → Nat → Int32) (so en : Nat → Int32) (rA rC rI aA aC aH aT aP : Int32) (x dy : Int32) (hti : tys[0]? = some (cI, .int)) (htz : cZ = cI) (hth : tys[2]? = some (cH, .object RX1)) (htp : tys[3]? = some (cP, .object RX2)) (htt : tys[4]? = some (cT, .object RX4)) (hInv : Inv V T ag nP nH rN so pd)  (sz : Nat) : vx_Met l yX5_adultAmount (Cond.code yX5_adultAmount cX5_adultAmount 3 (some .int) :: wsL_law) (rmk 6 8 48) (va_Pc [.ref (ad 0), .int x, .int dy] (PC D tys ad 109 (cE cI cZ cH cP cT ad V T ag nP nH rN nf pn sp sk py pd so en rA rC rI aA aC aH aT aP) sz)) (Qi D ad 109 (fun r E1 => (kAsk nH x dy = 0 ∧ r = (amt V ag nP (ix x) (ix dy)).1) ∧ CW cI cZ cH cP cT ad V T ag nP nH rN nf pn sp sk py pd E1) (cA ad 109 sz)) (Xx D ad 109 (fun Ex E1 => (Ex = xIOB ∧ kAsk nH x dy = 1 ∨ Ex = xIAE ∧ kAsk nH x dy = 2) ∧ CW cI cZ cH cP cT ad V T ag nP nH rN nf pn sp sk py pd E1) (cA ad 109 sz)) 8 48 (cA ad 109 sz) := by
  refine cx_of (own := RX5) (Qc := Qi D ad 109 (fun r E1 => (kAsk nH x dy = 0 ∧ r = (amt V ag nP (ix x) (ix dy)).1) ∧ CW cI cZ cH cP cT ad V T ag nP nH rN nf pn sp sk py pd E1)) (XC := Xx D ad 109 (fun Ex E1 => (Ex = xIOB ∧ kAsk nH x dy = 1 ∨ Ex = xIAE ∧ kAsk nH x dy = 2) ∧ CW cI cZ cH cP cT ad V T ag nP nH rN nf pn sp sk py pd E1)) rfl (by decide +kernel) (Nat.le_of_ble_eq_true rfl) ?_ sz
  intro p e s m args below meth c ls Q B hT hX hW hr hlk htb hl hS hA hQ
  have hx := B.1
  have hb := B.2.1
  have hl : lv_has ls 3 [(0, .ref (ad 0)), (1, .int x), (2, .int dy)] := hl
  obtain ⟨⟨hP8, hH4, hR12⟩, hTb, -, hso, -, -, hpd⟩ := id hInv
  refine lv_aload_n hx hb dX5_adultAmount_0 rfl (lv_at hl 0 rfl) ?_
  refine lv_iload_n hx hb dX5_adultAmount_1 rfl (lv_at hl 1 rfl) ?_
  refine b_xcv hQ (b_xrunV B hT hX hW hS (As := [.int x]) (rest := []) (fun sz => mt_reqHouse hlf hI V T ag nP nH rN nf pn sp sk py pd so en rA rC rI aA aC aH aT aP x hH4 sz) (cwX5_86 B.2.2.2.2.1 ⟨Nat.le_of_ble_eq_true rfl, Nat.le_of_ble_eq_true rfl⟩) (b_recv B hW (by decide) cE_0 rfl) rfl hl.1 (Nat.le_of_ble_eq_true rfl) dX5_adultAmount_2 ⟨Nat.le_of_ble_eq_true rfl, Nat.le_of_ble_eq_true rfl⟩) hS htb hlk (Nat.le_of_ble_eq_true rfl) (Nat.le_of_ble_eq_true rfl) (fun Ex E1 h => ⟨Or.inl (⟨h.1, by unfold kAsk; rw [cif_f h.2.1]⟩), by rw [h.2.2]; exact CW.mk hInv⟩) (fun E1 H locs hp_2 hW hS => ?_)
  obtain ⟨hv_2, hE_⟩ := hp_2
  have hW := hW.eq hE_
  obtain ⟨i, hi, rfl⟩ := vp_in_of hv_2 (by omega)
  refine lv_iload_n hx hb dX5_adultAmount_5 rfl (lv_at hl 2 rfl) ?_
  refine b_xcv hQ (b_xrunS B hT hX hW hS (As := [.int dy]) (rest := []) (fun sz => mt_reqDay hlf hI dy sz) (cwX5_89 B.2.2.2.2.1 ⟨Nat.le_of_ble_eq_true rfl, Nat.le_of_ble_eq_true rfl⟩) rfl hl.1 (Nat.le_of_ble_eq_true rfl) dX5_adultAmount_6 ⟨Nat.le_of_ble_eq_true rfl, Nat.le_of_ble_eq_true rfl⟩) hS htb hlk (Nat.le_of_ble_eq_true rfl) (Nat.le_of_ble_eq_true rfl) (fun Ex E1 h => ⟨Or.inr (⟨h.1, by unfold kAsk; rw [cif_t (vp_in_nI hi (by omega)), cif_f h.2.1]⟩), by rw [h.2.2]; exact CW.mk hInv⟩) (fun E1 H locs hp_6 hW hS => ?_)
  obtain ⟨hv_6, hE_⟩ := hp_6
  have hW := hW.eq hE_
  obtain ⟨d, hd, rfl⟩ := vp_in_of hv_6 (by omega)
  have ei : ix (nI i) = i := nI_clamp (by omega)
  have ed : ix (nI d) = d := nI_clamp (by omega)
  refine lv_aload_n hx hb dX5_adultAmount_9 rfl (lv_at hl 0 rfl) ?_
  refine lv_iload_n hx hb dX5_adultAmount_10 rfl (lv_at hl 1 rfl) ?_
  refine lv_iload_n hx hb dX5_adultAmount_11 rfl (lv_at hl 2 rfl) ?_
  refine b_cv (b_runV B hT hX hW hS (As := [.int (nI i), .int (nI d)]) (rest := []) (fun sz => mt_findAmt hI V T ag nP nH rN nf pn sp sk py pd so en rA rC rI aA aC aH aT aP i d hti htz hth htp htt hP8 (by omega) (by omega) sz) (cwX5_183 B.2.2.2.2.1 ⟨Nat.le_of_ble_eq_true rfl, Nat.le_of_ble_eq_true rfl⟩) (b_recv B hW (by decide) cE_0 rfl) rfl hl.1 (Nat.le_of_ble_eq_true rfl) dX5_adultAmount_12 ⟨Nat.le_of_ble_eq_true rfl, Nat.le_of_ble_eq_true rfl⟩) hS (fun E1 H locs hp_12 hW hS => ?_)
  have hW := hW.eq hp_12
  refine lv_aload_n hx hb dX5_adultAmount_15 rfl (lv_at hl 0 rfl) ?_
  refine gfX5_41 B hT hW (by decide) cE_0 rfl dX5_adultAmount_16 ?_
  refine gfX5_186 B hT hW (by decide) cE_6 rfl dX5_adultAmount_19 ?_
  exact x_i hQ B hr hlk hS hW dX5_adultAmount_22 (Nat.le_of_ble_eq_true rfl) (Nat.le_of_ble_eq_true rfl) (by rw [ei, ed]; exact ⟨⟨by unfold kAsk; rw [cif_t (vp_in_nI hi (by omega)), cif_t (vp_in_nI hd (by omega))], rfl⟩, CW.mk hInv⟩)
set_option maxHeartbeats 4000000 in
set_option maxRecDepth 100000 in
theorem mt_childAmount {l : Launch} (hlf : l.stackTraces = false) {D : va_G} {tys : List (ClassId × FieldType)} {ad : Nat → Nat} (hI : aI ad 109) {cI cZ cH cP cT : ClassId} (V T : Nat → Nat → Int32) (ag : Nat → Int32) (nP nH rN : Nat) (nf pn : Int32) (sp sk : Int64) (py pd : Nat → Nat → Int32) (so en : Nat → Int32) (rA rC rI aA aC aH aT aP : Int32) (x dy : Int32) (hti : tys[0]? = some (cI, .int)) (htz : cZ = cI) (hth : tys[2]? = some (cH, .object RX1)) (htp : tys[3]? = some (cP, .object RX2)) (htt : tys[4]? = some (cT, .object RX4)) (hInv : Inv V T ag nP nH rN so pd)  (sz : Nat) : vx_Met l yX5_childAmount (Cond.code yX5_childAmount cX5_childAmount 3 (some .int) :: wsL_law) (rmk 6 8 48) (va_Pc [.ref (ad 0), .int x, .int dy] (PC D tys ad 109 (cE cI cZ cH cP cT ad V T ag nP nH rN nf pn sp sk py pd so en rA rC rI aA aC aH aT aP) sz)) (Qi D ad 109 (fun r E1 => (kAsk nH x dy = 0 ∧ r = (amt V ag nP (ix x) (ix dy)).2.1) ∧ CW cI cZ cH cP cT ad V T ag nP nH rN nf pn sp sk py pd E1) (cA ad 109 sz)) (Xx D ad 109 (fun Ex E1 => (Ex = xIOB ∧ kAsk nH x dy = 1 ∨ Ex = xIAE ∧ kAsk nH x dy = 2) ∧ CW cI cZ cH cP cT ad V T ag nP nH rN nf pn sp sk py pd E1) (cA ad 109 sz)) 8 48 (cA ad 109 sz) := by
  refine cx_of (own := RX5) (Qc := Qi D ad 109 (fun r E1 => (kAsk nH x dy = 0 ∧ r = (amt V ag nP (ix x) (ix dy)).2.1) ∧ CW cI cZ cH cP cT ad V T ag nP nH rN nf pn sp sk py pd E1)) (XC := Xx D ad 109 (fun Ex E1 => (Ex = xIOB ∧ kAsk nH x dy = 1 ∨ Ex = xIAE ∧ kAsk nH x dy = 2) ∧ CW cI cZ cH cP cT ad V T ag nP nH rN nf pn sp sk py pd E1)) rfl (by decide +kernel) (Nat.le_of_ble_eq_true rfl) ?_ sz
  intro p e s m args below meth c ls Q B hT hX hW hr hlk htb hl hS hA hQ
  have hx := B.1
  have hb := B.2.1
  have hl : lv_has ls 3 [(0, .ref (ad 0)), (1, .int x), (2, .int dy)] := hl
  obtain ⟨⟨hP8, hH4, hR12⟩, hTb, -, hso, -, -, hpd⟩ := id hInv
  refine lv_aload_n hx hb dX5_childAmount_0 rfl (lv_at hl 0 rfl) ?_
  refine lv_iload_n hx hb dX5_childAmount_1 rfl (lv_at hl 1 rfl) ?_
  refine b_xcv hQ (b_xrunV B hT hX hW hS (As := [.int x]) (rest := []) (fun sz => mt_reqHouse hlf hI V T ag nP nH rN nf pn sp sk py pd so en rA rC rI aA aC aH aT aP x hH4 sz) (cwX5_86 B.2.2.2.2.1 ⟨Nat.le_of_ble_eq_true rfl, Nat.le_of_ble_eq_true rfl⟩) (b_recv B hW (by decide) cE_0 rfl) rfl hl.1 (Nat.le_of_ble_eq_true rfl) dX5_childAmount_2 ⟨Nat.le_of_ble_eq_true rfl, Nat.le_of_ble_eq_true rfl⟩) hS htb hlk (Nat.le_of_ble_eq_true rfl) (Nat.le_of_ble_eq_true rfl) (fun Ex E1 h => ⟨Or.inl (⟨h.1, by unfold kAsk; rw [cif_f h.2.1]⟩), by rw [h.2.2]; exact CW.mk hInv⟩) (fun E1 H locs hp_2 hW hS => ?_)
  obtain ⟨hv_2, hE_⟩ := hp_2
  have hW := hW.eq hE_
  obtain ⟨i, hi, rfl⟩ := vp_in_of hv_2 (by omega)
  refine lv_iload_n hx hb dX5_childAmount_5 rfl (lv_at hl 2 rfl) ?_
  refine b_xcv hQ (b_xrunS B hT hX hW hS (As := [.int dy]) (rest := []) (fun sz => mt_reqDay hlf hI dy sz) (cwX5_89 B.2.2.2.2.1 ⟨Nat.le_of_ble_eq_true rfl, Nat.le_of_ble_eq_true rfl⟩) rfl hl.1 (Nat.le_of_ble_eq_true rfl) dX5_childAmount_6 ⟨Nat.le_of_ble_eq_true rfl, Nat.le_of_ble_eq_true rfl⟩) hS htb hlk (Nat.le_of_ble_eq_true rfl) (Nat.le_of_ble_eq_true rfl) (fun Ex E1 h => ⟨Or.inr (⟨h.1, by unfold kAsk; rw [cif_t (vp_in_nI hi (by omega)), cif_f h.2.1]⟩), by rw [h.2.2]; exact CW.mk hInv⟩) (fun E1 H locs hp_6 hW hS => ?_)
  obtain ⟨hv_6, hE_⟩ := hp_6
  have hW := hW.eq hE_
  obtain ⟨d, hd, rfl⟩ := vp_in_of hv_6 (by omega)
  have ei : ix (nI i) = i := nI_clamp (by omega)
  have ed : ix (nI d) = d := nI_clamp (by omega)
  refine lv_aload_n hx hb dX5_childAmount_9 rfl (lv_at hl 0 rfl) ?_
  refine lv_iload_n hx hb dX5_childAmount_10 rfl (lv_at hl 1 rfl) ?_
  refine lv_iload_n hx hb dX5_childAmount_11 rfl (lv_at hl 2 rfl) ?_
  refine b_cv (b_runV B hT hX hW hS (As := [.int (nI i), .int (nI d)]) (rest := []) (fun sz => mt_findAmt hI V T ag nP nH rN nf pn sp sk py pd so en rA rC rI aA aC aH aT aP i d hti htz hth htp htt hP8 (by omega) (by omega) sz) (cwX5_183 B.2.2.2.2.1 ⟨Nat.le_of_ble_eq_true rfl, Nat.le_of_ble_eq_true rfl⟩) (b_recv B hW (by decide) cE_0 rfl) rfl hl.1 (Nat.le_of_ble_eq_true rfl) dX5_childAmount_12 ⟨Nat.le_of_ble_eq_true rfl, Nat.le_of_ble_eq_true rfl⟩) hS (fun E1 H locs hp_12 hW hS => ?_)
  have hW := hW.eq hp_12
  refine lv_aload_n hx hb dX5_childAmount_15 rfl (lv_at hl 0 rfl) ?_
  refine gfX5_41 B hT hW (by decide) cE_0 rfl dX5_childAmount_16 ?_
  refine gfX5_189 B hT hW (by decide) cE_6 rfl dX5_childAmount_19 ?_
  exact x_i hQ B hr hlk hS hW dX5_childAmount_22 (Nat.le_of_ble_eq_true rfl) (Nat.le_of_ble_eq_true rfl) (by rw [ei, ed]; exact ⟨⟨by unfold kAsk; rw [cif_t (vp_in_nI hi (by omega)), cif_t (vp_in_nI hd (by omega))], rfl⟩, CW.mk hInv⟩)
set_option maxHeartbeats 4000000 in
set_option maxRecDepth 100000 in
theorem mt_housingAmount {l : Launch} (hlf : l.stackTraces = false) {D : va_G} {tys : List (ClassId × FieldType)} {ad : Nat → Nat} (hI : aI ad 109) {cI cZ cH cP cT : ClassId} (V T : Nat → Nat → Int32) (ag : Nat → Int32) (nP nH rN : Nat) (nf pn : Int32) (sp sk : Int64) (py pd : Nat → Nat → Int32) (so en : Nat → Int32) (rA rC rI aA aC aH aT aP : Int32) (x dy : Int32) (hti : tys[0]? = some (cI, .int)) (htz : cZ = cI) (hth : tys[2]? = some (cH, .object RX1)) (htp : tys[3]? = some (cP, .object RX2)) (htt : tys[4]? = some (cT, .object RX4)) (hInv : Inv V T ag nP nH rN so pd)  (sz : Nat) : vx_Met l yX5_housingAmount (Cond.code yX5_housingAmount cX5_housingAmount 3 (some .int) :: wsL_law) (rmk 6 8 48) (va_Pc [.ref (ad 0), .int x, .int dy] (PC D tys ad 109 (cE cI cZ cH cP cT ad V T ag nP nH rN nf pn sp sk py pd so en rA rC rI aA aC aH aT aP) sz)) (Qi D ad 109 (fun r E1 => (kAsk nH x dy = 0 ∧ r = (amt V ag nP (ix x) (ix dy)).2.2.1) ∧ CW cI cZ cH cP cT ad V T ag nP nH rN nf pn sp sk py pd E1) (cA ad 109 sz)) (Xx D ad 109 (fun Ex E1 => (Ex = xIOB ∧ kAsk nH x dy = 1 ∨ Ex = xIAE ∧ kAsk nH x dy = 2) ∧ CW cI cZ cH cP cT ad V T ag nP nH rN nf pn sp sk py pd E1) (cA ad 109 sz)) 8 48 (cA ad 109 sz) := by
  refine cx_of (own := RX5) (Qc := Qi D ad 109 (fun r E1 => (kAsk nH x dy = 0 ∧ r = (amt V ag nP (ix x) (ix dy)).2.2.1) ∧ CW cI cZ cH cP cT ad V T ag nP nH rN nf pn sp sk py pd E1)) (XC := Xx D ad 109 (fun Ex E1 => (Ex = xIOB ∧ kAsk nH x dy = 1 ∨ Ex = xIAE ∧ kAsk nH x dy = 2) ∧ CW cI cZ cH cP cT ad V T ag nP nH rN nf pn sp sk py pd E1)) rfl (by decide +kernel) (Nat.le_of_ble_eq_true rfl) ?_ sz
  intro p e s m args below meth c ls Q B hT hX hW hr hlk htb hl hS hA hQ
  have hx := B.1
  have hb := B.2.1
  have hl : lv_has ls 3 [(0, .ref (ad 0)), (1, .int x), (2, .int dy)] := hl
  obtain ⟨⟨hP8, hH4, hR12⟩, hTb, -, hso, -, -, hpd⟩ := id hInv
  refine lv_aload_n hx hb dX5_housingAmount_0 rfl (lv_at hl 0 rfl) ?_
  refine lv_iload_n hx hb dX5_housingAmount_1 rfl (lv_at hl 1 rfl) ?_
  refine b_xcv hQ (b_xrunV B hT hX hW hS (As := [.int x]) (rest := []) (fun sz => mt_reqHouse hlf hI V T ag nP nH rN nf pn sp sk py pd so en rA rC rI aA aC aH aT aP x hH4 sz) (cwX5_86 B.2.2.2.2.1 ⟨Nat.le_of_ble_eq_true rfl, Nat.le_of_ble_eq_true rfl⟩) (b_recv B hW (by decide) cE_0 rfl) rfl hl.1 (Nat.le_of_ble_eq_true rfl) dX5_housingAmount_2 ⟨Nat.le_of_ble_eq_true rfl, Nat.le_of_ble_eq_true rfl⟩) hS htb hlk (Nat.le_of_ble_eq_true rfl) (Nat.le_of_ble_eq_true rfl) (fun Ex E1 h => ⟨Or.inl (⟨h.1, by unfold kAsk; rw [cif_f h.2.1]⟩), by rw [h.2.2]; exact CW.mk hInv⟩) (fun E1 H locs hp_2 hW hS => ?_)
  obtain ⟨hv_2, hE_⟩ := hp_2
  have hW := hW.eq hE_
  obtain ⟨i, hi, rfl⟩ := vp_in_of hv_2 (by omega)
  refine lv_iload_n hx hb dX5_housingAmount_5 rfl (lv_at hl 2 rfl) ?_
  refine b_xcv hQ (b_xrunS B hT hX hW hS (As := [.int dy]) (rest := []) (fun sz => mt_reqDay hlf hI dy sz) (cwX5_89 B.2.2.2.2.1 ⟨Nat.le_of_ble_eq_true rfl, Nat.le_of_ble_eq_true rfl⟩) rfl hl.1 (Nat.le_of_ble_eq_true rfl) dX5_housingAmount_6 ⟨Nat.le_of_ble_eq_true rfl, Nat.le_of_ble_eq_true rfl⟩) hS htb hlk (Nat.le_of_ble_eq_true rfl) (Nat.le_of_ble_eq_true rfl) (fun Ex E1 h => ⟨Or.inr (⟨h.1, by unfold kAsk; rw [cif_t (vp_in_nI hi (by omega)), cif_f h.2.1]⟩), by rw [h.2.2]; exact CW.mk hInv⟩) (fun E1 H locs hp_6 hW hS => ?_)
  obtain ⟨hv_6, hE_⟩ := hp_6
  have hW := hW.eq hE_
  obtain ⟨d, hd, rfl⟩ := vp_in_of hv_6 (by omega)
  have ei : ix (nI i) = i := nI_clamp (by omega)
  have ed : ix (nI d) = d := nI_clamp (by omega)
  refine lv_aload_n hx hb dX5_housingAmount_9 rfl (lv_at hl 0 rfl) ?_
  refine lv_iload_n hx hb dX5_housingAmount_10 rfl (lv_at hl 1 rfl) ?_
  refine lv_iload_n hx hb dX5_housingAmount_11 rfl (lv_at hl 2 rfl) ?_
  refine b_cv (b_runV B hT hX hW hS (As := [.int (nI i), .int (nI d)]) (rest := []) (fun sz => mt_findAmt hI V T ag nP nH rN nf pn sp sk py pd so en rA rC rI aA aC aH aT aP i d hti htz hth htp htt hP8 (by omega) (by omega) sz) (cwX5_183 B.2.2.2.2.1 ⟨Nat.le_of_ble_eq_true rfl, Nat.le_of_ble_eq_true rfl⟩) (b_recv B hW (by decide) cE_0 rfl) rfl hl.1 (Nat.le_of_ble_eq_true rfl) dX5_housingAmount_12 ⟨Nat.le_of_ble_eq_true rfl, Nat.le_of_ble_eq_true rfl⟩) hS (fun E1 H locs hp_12 hW hS => ?_)
  have hW := hW.eq hp_12
  refine lv_aload_n hx hb dX5_housingAmount_15 rfl (lv_at hl 0 rfl) ?_
  refine gfX5_41 B hT hW (by decide) cE_0 rfl dX5_housingAmount_16 ?_
  refine gfX5_192 B hT hW (by decide) cE_6 rfl dX5_housingAmount_19 ?_
  exact x_i hQ B hr hlk hS hW dX5_housingAmount_22 (Nat.le_of_ble_eq_true rfl) (Nat.le_of_ble_eq_true rfl) (by rw [ei, ed]; exact ⟨⟨by unfold kAsk; rw [cif_t (vp_in_nI hi (by omega)), cif_t (vp_in_nI hd (by omega))], rfl⟩, CW.mk hInv⟩)
set_option maxHeartbeats 4000000 in
set_option maxRecDepth 100000 in
theorem mt_reason {l : Launch} (hlf : l.stackTraces = false) {D : va_G} {tys : List (ClassId × FieldType)} {ad : Nat → Nat} (hI : aI ad 109) {cI cZ cH cP cT : ClassId} (V T : Nat → Nat → Int32) (ag : Nat → Int32) (nP nH rN : Nat) (nf pn : Int32) (sp sk : Int64) (py pd : Nat → Nat → Int32) (so en : Nat → Int32) (rA rC rI aA aC aH aT aP : Int32) (x dy : Int32) (hti : tys[0]? = some (cI, .int)) (htz : cZ = cI) (hth : tys[2]? = some (cH, .object RX1)) (htp : tys[3]? = some (cP, .object RX2)) (htt : tys[4]? = some (cT, .object RX4)) (hInv : Inv V T ag nP nH rN so pd)  (sz : Nat) : vx_Met l yX5_reason (Cond.code yX5_reason cX5_reason 3 (some .char) :: wsL_law) (rmk 6 8 48) (va_Pc [.ref (ad 0), .int x, .int dy] (PC D tys ad 109 (cE cI cZ cH cP cT ad V T ag nP nH rN nf pn sp sk py pd so en rA rC rI aA aC aH aT aP) sz)) (Qi D ad 109 (fun r E1 => (kAsk nH x dy = 0 ∧ r = rsn (cnt V ag (nI (ix x)) (ix dy) nP).1 (amt V ag nP (ix x) (ix dy)).2.2.2.1 (amt V ag nP (ix x) (ix dy)).2.2.2.2) ∧ CW cI cZ cH cP cT ad V T ag nP nH rN nf pn sp sk py pd E1) (cA ad 109 sz)) (Xx D ad 109 (fun Ex E1 => (Ex = xIOB ∧ kAsk nH x dy = 1 ∨ Ex = xIAE ∧ kAsk nH x dy = 2) ∧ CW cI cZ cH cP cT ad V T ag nP nH rN nf pn sp sk py pd E1) (cA ad 109 sz)) 8 48 (cA ad 109 sz) := by
  refine cx_of (own := RX5) (Qc := Qi D ad 109 (fun r E1 => (kAsk nH x dy = 0 ∧ r = rsn (cnt V ag (nI (ix x)) (ix dy) nP).1 (amt V ag nP (ix x) (ix dy)).2.2.2.1 (amt V ag nP (ix x) (ix dy)).2.2.2.2) ∧ CW cI cZ cH cP cT ad V T ag nP nH rN nf pn sp sk py pd E1)) (XC := Xx D ad 109 (fun Ex E1 => (Ex = xIOB ∧ kAsk nH x dy = 1 ∨ Ex = xIAE ∧ kAsk nH x dy = 2) ∧ CW cI cZ cH cP cT ad V T ag nP nH rN nf pn sp sk py pd E1)) rfl (by decide +kernel) (Nat.le_of_ble_eq_true rfl) ?_ sz
  intro p e s m args below meth c ls Q B hT hX hW hr hlk htb hl hS hA hQ
  have hx := B.1
  have hb := B.2.1
  have hl : lv_has ls 3 [(0, .ref (ad 0)), (1, .int x), (2, .int dy)] := hl
  obtain ⟨⟨hP8, hH4, hR12⟩, hTb, -, hso, -, -, hpd⟩ := id hInv
  refine lv_aload_n hx hb dX5_reason_0 rfl (lv_at hl 0 rfl) ?_
  refine lv_iload_n hx hb dX5_reason_1 rfl (lv_at hl 1 rfl) ?_
  refine b_xcv hQ (b_xrunV B hT hX hW hS (As := [.int x]) (rest := []) (fun sz => mt_reqHouse hlf hI V T ag nP nH rN nf pn sp sk py pd so en rA rC rI aA aC aH aT aP x hH4 sz) (cwX5_86 B.2.2.2.2.1 ⟨Nat.le_of_ble_eq_true rfl, Nat.le_of_ble_eq_true rfl⟩) (b_recv B hW (by decide) cE_0 rfl) rfl hl.1 (Nat.le_of_ble_eq_true rfl) dX5_reason_2 ⟨Nat.le_of_ble_eq_true rfl, Nat.le_of_ble_eq_true rfl⟩) hS htb hlk (Nat.le_of_ble_eq_true rfl) (Nat.le_of_ble_eq_true rfl) (fun Ex E1 h => ⟨Or.inl (⟨h.1, by unfold kAsk; rw [cif_f h.2.1]⟩), by rw [h.2.2]; exact CW.mk hInv⟩) (fun E1 H locs hp_2 hW hS => ?_)
  obtain ⟨hv_2, hE_⟩ := hp_2
  have hW := hW.eq hE_
  obtain ⟨i, hi, rfl⟩ := vp_in_of hv_2 (by omega)
  refine lv_iload_n hx hb dX5_reason_5 rfl (lv_at hl 2 rfl) ?_
  refine b_xcv hQ (b_xrunS B hT hX hW hS (As := [.int dy]) (rest := []) (fun sz => mt_reqDay hlf hI dy sz) (cwX5_89 B.2.2.2.2.1 ⟨Nat.le_of_ble_eq_true rfl, Nat.le_of_ble_eq_true rfl⟩) rfl hl.1 (Nat.le_of_ble_eq_true rfl) dX5_reason_6 ⟨Nat.le_of_ble_eq_true rfl, Nat.le_of_ble_eq_true rfl⟩) hS htb hlk (Nat.le_of_ble_eq_true rfl) (Nat.le_of_ble_eq_true rfl) (fun Ex E1 h => ⟨Or.inr (⟨h.1, by unfold kAsk; rw [cif_t (vp_in_nI hi (by omega)), cif_f h.2.1]⟩), by rw [h.2.2]; exact CW.mk hInv⟩) (fun E1 H locs hp_6 hW hS => ?_)
  obtain ⟨hv_6, hE_⟩ := hp_6
  have hW := hW.eq hE_
  obtain ⟨d, hd, rfl⟩ := vp_in_of hv_6 (by omega)
  have ei : ix (nI i) = i := nI_clamp (by omega)
  have ed : ix (nI d) = d := nI_clamp (by omega)
  refine lv_aload_n hx hb dX5_reason_9 rfl (lv_at hl 0 rfl) ?_
  refine lv_iload_n hx hb dX5_reason_10 rfl (lv_at hl 1 rfl) ?_
  refine lv_iload_n hx hb dX5_reason_11 rfl (lv_at hl 2 rfl) ?_
  refine b_cv (b_runV B hT hX hW hS (As := [.int (nI i), .int (nI d)]) (rest := []) (fun sz => mt_findAmt hI V T ag nP nH rN nf pn sp sk py pd so en rA rC rI aA aC aH aT aP i d hti htz hth htp htt hP8 (by omega) (by omega) sz) (cwX5_183 B.2.2.2.2.1 ⟨Nat.le_of_ble_eq_true rfl, Nat.le_of_ble_eq_true rfl⟩) (b_recv B hW (by decide) cE_0 rfl) rfl hl.1 (Nat.le_of_ble_eq_true rfl) dX5_reason_12 ⟨Nat.le_of_ble_eq_true rfl, Nat.le_of_ble_eq_true rfl⟩) hS (fun E1 H locs hp_12 hW hS => ?_)
  have hW := hW.eq hp_12
  refine lv_aload_n hx hb dX5_reason_15 rfl (lv_at hl 0 rfl) ?_
  refine gfX5_34 B hT hW (by decide) cE_0 rfl dX5_reason_16 ?_
  refine gfX5_175 B hT hW (by decide) cE_5 rfl dX5_reason_19 ?_
  refine lv_if_ne (tgt := 28) hx hb dX5_reason_22 (by decide) (fun c_22 => ?_) (fun c_22 => ?_)
  · skip
    refine lv_aload_n hx hb dX5_reason_28 rfl (lv_at hl 0 rfl) ?_
    refine gfX5_41 B hT hW (by decide) cE_0 rfl dX5_reason_29 ?_
    refine gfX5_195 B hT hW (by decide) cE_6 rfl dX5_reason_32 ?_
    refine lv_if_eq (tgt := 56) hx hb dX5_reason_35 (by decide) (fun c_35 => ?_) (fun c_35 => ?_)
    · skip
      refine lv_aload_n hx hb dX5_reason_56 rfl (lv_at hl 0 rfl) ?_
      refine gfX5_41 B hT hW (by decide) cE_0 rfl dX5_reason_57 ?_
      refine gfX5_199 B hT hW (by decide) cE_6 rfl dX5_reason_60 ?_
      refine lv_if_eq (tgt := 71) hx hb dX5_reason_63 (by decide) (fun c_63 => ?_) (fun c_63 => ?_)
      · skip
        refine lv_bipush (v := 102) hx hb dX5_reason_71 (by decide) ?_
        exact x_n hQ B hr hlk hS (by first | rfl | decide) hW dX5_reason_73 (Nat.le_of_ble_eq_true rfl) (Nat.le_of_ble_eq_true rfl) (by rw [ei, ed]; exact ⟨⟨by unfold kAsk; rw [cif_t (vp_in_nI hi (by omega)), cif_t (vp_in_nI hd (by omega))], by unfold rsn; rw [if_neg c_22, if_pos c_35, if_pos c_63]⟩, CW.mk hInv⟩)
      · skip
        refine lv_bipush (v := 109) hx hb dX5_reason_66 (by decide) ?_
        refine lv_goto (tgt := 73) hx hb dX5_reason_68 (by decide) ?_
        exact x_n hQ B hr hlk hS (by first | rfl | decide) hW dX5_reason_73 (Nat.le_of_ble_eq_true rfl) (Nat.le_of_ble_eq_true rfl) (by rw [ei, ed]; exact ⟨⟨by unfold kAsk; rw [cif_t (vp_in_nI hi (by omega)), cif_t (vp_in_nI hd (by omega))], by unfold rsn; rw [if_neg c_22, if_pos c_35, if_neg c_63]⟩, CW.mk hInv⟩)
    · skip
      refine lv_aload_n hx hb dX5_reason_38 rfl (lv_at hl 0 rfl) ?_
      refine gfX5_41 B hT hW (by decide) cE_0 rfl dX5_reason_39 ?_
      refine gfX5_199 B hT hW (by decide) cE_6 rfl dX5_reason_42 ?_
      refine lv_if_eq (tgt := 53) hx hb dX5_reason_45 (by decide) (fun c_45 => ?_) (fun c_45 => ?_)
      · skip
        refine lv_bipush (v := 116) hx hb dX5_reason_53 (by decide) ?_
        exact x_n hQ B hr hlk hS (by first | rfl | decide) hW dX5_reason_55 (Nat.le_of_ble_eq_true rfl) (Nat.le_of_ble_eq_true rfl) (by rw [ei, ed]; exact ⟨⟨by unfold kAsk; rw [cif_t (vp_in_nI hi (by omega)), cif_t (vp_in_nI hd (by omega))], by unfold rsn; rw [if_neg c_22, if_neg c_35, if_pos c_45]⟩, CW.mk hInv⟩)
      · skip
        refine lv_bipush (v := 98) hx hb dX5_reason_48 (by decide) ?_
        refine lv_goto (tgt := 55) hx hb dX5_reason_50 (by decide) ?_
        exact x_n hQ B hr hlk hS (by first | rfl | decide) hW dX5_reason_55 (Nat.le_of_ble_eq_true rfl) (Nat.le_of_ble_eq_true rfl) (by rw [ei, ed]; exact ⟨⟨by unfold kAsk; rw [cif_t (vp_in_nI hi (by omega)), cif_t (vp_in_nI hd (by omega))], by unfold rsn; rw [if_neg c_22, if_neg c_35, if_neg c_45]⟩, CW.mk hInv⟩)
  · skip
    refine lv_bipush (v := 110) hx hb dX5_reason_25 (by decide) ?_
    exact x_n hQ B hr hlk hS (by first | rfl | decide) hW dX5_reason_27 (Nat.le_of_ble_eq_true rfl) (Nat.le_of_ble_eq_true rfl) (by rw [ei, ed]; exact ⟨⟨by unfold kAsk; rw [cif_t (vp_in_nI hi (by omega)), cif_t (vp_in_nI hd (by omega))], by unfold rsn; rw [if_pos c_22]⟩, CW.mk hInv⟩)
set_option maxHeartbeats 4000000 in
set_option maxRecDepth 100000 in
theorem mt_payment {l : Launch} (hlf : l.stackTraces = false) {D : va_G} {tys : List (ClassId × FieldType)} {ad : Nat → Nat} (hI : aI ad 109) {cI cZ cH cP cT : ClassId} (V T : Nat → Nat → Int32) (ag : Nat → Int32) (nP nH rN : Nat) (nf pn : Int32) (sp sk : Int64) (py pd : Nat → Nat → Int32) (so en : Nat → Int32) (rA rC rI aA aC aH aT aP : Int32) (x y : Int32) (hti : tys[0]? = some (cI, .int)) (htz : cZ = cI) (hth : tys[2]? = some (cH, .object RX1)) (htp : tys[3]? = some (cP, .object RX2)) (htt : tys[4]? = some (cT, .object RX4)) (hInv : Inv V T ag nP nH rN so pd)  (sz : Nat) : vx_Met l yX5_payment (Cond.code yX5_payment cX5_payment 4 (some .int) :: wsL_law) (rmk 6 8 48) (va_Pc [.ref (ad 0), .int x, .int y] (PC D tys ad 109 (cE cI cZ cH cP cT ad V T ag nP nH rN nf pn sp sk py pd so en rA rC rI aA aC aH aT aP) sz)) (Qi D ad 109 (fun r E1 => (kPaym nH rN x y = 0 ∧ r = py (ix x) (ix y)) ∧ CW cI cZ cH cP cT ad V T ag nP nH rN nf pn sp sk py pd E1) (cA ad 109 sz)) (Xx D ad 109 (fun Ex E1 => (Ex = xIOB ∧ kPaym nH rN x y = 1 ∨ Ex = xNSE ∧ kPaym nH rN x y = 2) ∧ CW cI cZ cH cP cT ad V T ag nP nH rN nf pn sp sk py pd E1) (cA ad 109 sz)) 8 48 (cA ad 109 sz) := by
  refine cx_of (own := RX5) (Qc := Qi D ad 109 (fun r E1 => (kPaym nH rN x y = 0 ∧ r = py (ix x) (ix y)) ∧ CW cI cZ cH cP cT ad V T ag nP nH rN nf pn sp sk py pd E1)) (XC := Xx D ad 109 (fun Ex E1 => (Ex = xIOB ∧ kPaym nH rN x y = 1 ∨ Ex = xNSE ∧ kPaym nH rN x y = 2) ∧ CW cI cZ cH cP cT ad V T ag nP nH rN nf pn sp sk py pd E1)) rfl (by decide +kernel) (Nat.le_of_ble_eq_true rfl) ?_ sz
  intro p e s m args below meth c ls Q B hT hX hW hr hlk htb hl hS hA hQ
  have hx := B.1
  have hb := B.2.1
  have hl : lv_has ls 4 [(0, .ref (ad 0)), (1, .int x), (2, .int y)] := hl
  obtain ⟨⟨hP8, hH4, hR12⟩, hTb, -, hso, -, -, hpd⟩ := id hInv
  refine lv_aload_n hx hb dX5_payment_0 rfl (lv_at hl 0 rfl) ?_
  refine lv_iload_n hx hb dX5_payment_1 rfl (lv_at hl 1 rfl) ?_
  refine b_xcq hQ (b_xrunV B hT hX hW hS (As := [.int x]) (rest := []) (fun sz => mt_houseNum hlf hI V T ag nP nH rN nf pn sp sk py pd so en rA rC rI aA aC aH aT aP x hti htz hth htp htt hH4 sz) (cwX5_99 B.2.2.2.2.1 ⟨Nat.le_of_ble_eq_true rfl, Nat.le_of_ble_eq_true rfl⟩) (b_recv B hW (by decide) cE_0 rfl) rfl hl.1 (Nat.le_of_ble_eq_true rfl) dX5_payment_2 ⟨Nat.le_of_ble_eq_true rfl, Nat.le_of_ble_eq_true rfl⟩) hS htb hlk (Nat.le_of_ble_eq_true rfl) (Nat.le_of_ble_eq_true rfl) (fun Ex E1 h => ⟨Or.inl (⟨h.1, by unfold kPaym; rw [cif_f (fun q => h.2.1 q.1)]⟩), by rw [h.2.2]; exact CW.mk hInv⟩) (fun r_2 E1 H locs hp_2 hW hS => ?_)
  obtain ⟨hv_2, hr_, hE_⟩ := hp_2
  subst hr_
  have hW := hW.eq hE_
  obtain ⟨i, hi, rfl⟩ := vp_in_of hv_2 (by omega)
  refine W.eq (g2 := F0 m 5 ls [.ref (ad (16 + i))]) (by show F0 m 5 ls _ = _; rw [show ix (nI i) = i from nI_clamp (by omega)]; rfl) ?_
  refine lv_astore_n (lv' := [(3, .ref (ad (16 + i))), (0, .ref (ad 0)), (1, .int (nI i)), (2, .int y)]) hx hb dX5_payment_5 rfl hl (by decide) rfl (fun ls hl => ?_)
  refine lv_iload_n hx hb dX5_payment_6 rfl (lv_at hl 3 rfl) ?_
  refine b_xcv hQ (b_xrunS B hT hX hW hS (As := [.int y]) (rest := []) (fun sz => mt_reqMonth hlf hI y sz) (cwX5_147 B.2.2.2.2.1 ⟨Nat.le_of_ble_eq_true rfl, Nat.le_of_ble_eq_true rfl⟩) rfl hl.1 (Nat.le_of_ble_eq_true rfl) dX5_payment_7 ⟨Nat.le_of_ble_eq_true rfl, Nat.le_of_ble_eq_true rfl⟩) hS htb hlk (Nat.le_of_ble_eq_true rfl) (Nat.le_of_ble_eq_true rfl) (fun Ex E1 h => ⟨Or.inl (⟨h.1, by unfold kPaym; rw [cif_f (fun q => h.2.1 q.2)]⟩), by rw [h.2.2]; exact CW.mk hInv⟩) (fun E1 H locs hp_7 hW hS => ?_)
  obtain ⟨hv_7, hE_⟩ := hp_7
  have hW := hW.eq hE_
  obtain ⟨mo, hmo, rfl⟩ := vp_in_of hv_7 (by omega)
  have ei : ix (nI i) = i := nI_clamp (by omega)
  have em : ix (nI mo) = mo := nI_clamp (by omega)
  refine lv_iload_n hx hb dX5_payment_10 rfl (lv_at hl 3 rfl) ?_
  refine lv_aload_n hx hb dX5_payment_11 rfl (lv_at hl 1 rfl) ?_
  refine gfX5_131 B hT hW (by decide) cE_0 rfl dX5_payment_12 ?_
  refine lv_icmp_lt (tgt := 28) hx hb dX5_payment_15 (by decide) (fun c_15 => ?_) (fun c_15 => ?_)
  · skip
    refine lv_aload_n hx hb dX5_payment_28 rfl (lv_at hl 0 rfl) ?_
    refine gfX5_155 B hT hW (by omega) (cE_hh (by omega)) rfl dX5_payment_29 ?_
    refine lv_iload_n hx hb dX5_payment_32 rfl (lv_at hl 3 rfl) ?_
    refine b_iald B hW hti (j := mo) (by omega) (cE_py (by omega)) (vp_in_nI (by omega) (Nat.le_of_ble_eq_true rfl)) (nI_clamp (by omega)) dX5_payment_33 ?_
    exact x_i hQ B hr hlk hS hW dX5_payment_34 (Nat.le_of_ble_eq_true rfl) (Nat.le_of_ble_eq_true rfl) (by rw [ei, em]; exact ⟨⟨by unfold kPaym; rw [cif_t ⟨vp_in_nI hi (by omega), vp_in_nI hmo (by omega)⟩, cif_t (vp_in_nI ((nI_ltI (by omega) (by omega)).mp c_15) (by omega))], rfl⟩, CW.mk hInv⟩)
  · skip
    exact b_throw hQ B hT hX hW hS hlf xf_NSE (List.mem_of_getElem? (i := 5) rfl) hl.1 dX5_payment_18 dX5_payment_21 dX5_payment_22 dX5_payment_24 dX5_payment_27 htb hlk (Nat.le_of_ble_eq_true rfl) (Nat.le_of_ble_eq_true rfl) (Nat.le_of_ble_eq_true rfl) (Nat.le_of_ble_eq_true rfl) (Nat.le_of_ble_eq_true rfl) (Nat.le_of_ble_eq_true rfl) (⟨Or.inr (⟨rfl, by unfold kPaym; rw [cif_t ⟨vp_in_nI hi (by omega), vp_in_nI hmo (by omega)⟩, cif_f (in_no2 (by omega) c_15)]⟩), CW.mk hInv⟩)
set_option maxHeartbeats 4000000 in
set_option maxRecDepth 100000 in
theorem mt_paidFor {l : Launch} (hlf : l.stackTraces = false) {D : va_G} {tys : List (ClassId × FieldType)} {ad : Nat → Nat} (hI : aI ad 109) {cI cZ cH cP cT : ClassId} (V T : Nat → Nat → Int32) (ag : Nat → Int32) (nP nH rN : Nat) (nf pn : Int32) (sp sk : Int64) (py pd : Nat → Nat → Int32) (so en : Nat → Int32) (rA rC rI aA aC aH aT aP : Int32) (x y : Int32) (hti : tys[0]? = some (cI, .int)) (htz : cZ = cI) (hth : tys[2]? = some (cH, .object RX1)) (htp : tys[3]? = some (cP, .object RX2)) (htt : tys[4]? = some (cT, .object RX4)) (hInv : Inv V T ag nP nH rN so pd)  (sz : Nat) : vx_Met l yX5_paidFor (Cond.code yX5_paidFor cX5_paidFor 4 (some .int) :: wsL_law) (rmk 6 8 48) (va_Pc [.ref (ad 0), .int x, .int y] (PC D tys ad 109 (cE cI cZ cH cP cT ad V T ag nP nH rN nf pn sp sk py pd so en rA rC rI aA aC aH aT aP) sz)) (Qi D ad 109 (fun r E1 => (kMon nH x y = 0 ∧ r = pd (ix x) (ix y)) ∧ CW cI cZ cH cP cT ad V T ag nP nH rN nf pn sp sk py pd E1) (cA ad 109 sz)) (Xx D ad 109 (fun Ex E1 => (Ex = xIOB ∧ kMon nH x y = 1) ∧ CW cI cZ cH cP cT ad V T ag nP nH rN nf pn sp sk py pd E1) (cA ad 109 sz)) 8 48 (cA ad 109 sz) := by
  refine cx_of (own := RX5) (Qc := Qi D ad 109 (fun r E1 => (kMon nH x y = 0 ∧ r = pd (ix x) (ix y)) ∧ CW cI cZ cH cP cT ad V T ag nP nH rN nf pn sp sk py pd E1)) (XC := Xx D ad 109 (fun Ex E1 => (Ex = xIOB ∧ kMon nH x y = 1) ∧ CW cI cZ cH cP cT ad V T ag nP nH rN nf pn sp sk py pd E1)) rfl (by decide +kernel) (Nat.le_of_ble_eq_true rfl) ?_ sz
  intro p e s m args below meth c ls Q B hT hX hW hr hlk htb hl hS hA hQ
  have hx := B.1
  have hb := B.2.1
  have hl : lv_has ls 4 [(0, .ref (ad 0)), (1, .int x), (2, .int y)] := hl
  obtain ⟨⟨hP8, hH4, hR12⟩, hTb, -, hso, -, -, hpd⟩ := id hInv
  refine lv_aload_n hx hb dX5_paidFor_0 rfl (lv_at hl 0 rfl) ?_
  refine lv_iload_n hx hb dX5_paidFor_1 rfl (lv_at hl 1 rfl) ?_
  refine b_xcq hQ (b_xrunV B hT hX hW hS (As := [.int x]) (rest := []) (fun sz => mt_houseNum hlf hI V T ag nP nH rN nf pn sp sk py pd so en rA rC rI aA aC aH aT aP x hti htz hth htp htt hH4 sz) (cwX5_99 B.2.2.2.2.1 ⟨Nat.le_of_ble_eq_true rfl, Nat.le_of_ble_eq_true rfl⟩) (b_recv B hW (by decide) cE_0 rfl) rfl hl.1 (Nat.le_of_ble_eq_true rfl) dX5_paidFor_2 ⟨Nat.le_of_ble_eq_true rfl, Nat.le_of_ble_eq_true rfl⟩) hS htb hlk (Nat.le_of_ble_eq_true rfl) (Nat.le_of_ble_eq_true rfl) (fun Ex E1 h => ⟨⟨h.1, by unfold kMon; rw [cif_f (fun q => h.2.1 q.1)]⟩, by rw [h.2.2]; exact CW.mk hInv⟩) (fun r_2 E1 H locs hp_2 hW hS => ?_)
  obtain ⟨hv_2, hr_, hE_⟩ := hp_2
  subst hr_
  have hW := hW.eq hE_
  obtain ⟨i, hi, rfl⟩ := vp_in_of hv_2 (by omega)
  refine W.eq (g2 := F0 m 5 ls [.ref (ad (16 + i))]) (by show F0 m 5 ls _ = _; rw [show ix (nI i) = i from nI_clamp (by omega)]; rfl) ?_
  refine lv_astore_n (lv' := [(3, .ref (ad (16 + i))), (0, .ref (ad 0)), (1, .int (nI i)), (2, .int y)]) hx hb dX5_paidFor_5 rfl hl (by decide) rfl (fun ls hl => ?_)
  refine lv_iload_n hx hb dX5_paidFor_6 rfl (lv_at hl 3 rfl) ?_
  refine b_xcv hQ (b_xrunS B hT hX hW hS (As := [.int y]) (rest := []) (fun sz => mt_reqMonth hlf hI y sz) (cwX5_147 B.2.2.2.2.1 ⟨Nat.le_of_ble_eq_true rfl, Nat.le_of_ble_eq_true rfl⟩) rfl hl.1 (Nat.le_of_ble_eq_true rfl) dX5_paidFor_7 ⟨Nat.le_of_ble_eq_true rfl, Nat.le_of_ble_eq_true rfl⟩) hS htb hlk (Nat.le_of_ble_eq_true rfl) (Nat.le_of_ble_eq_true rfl) (fun Ex E1 h => ⟨⟨h.1, by unfold kMon; rw [cif_f (fun q => h.2.1 q.2)]⟩, by rw [h.2.2]; exact CW.mk hInv⟩) (fun E1 H locs hp_7 hW hS => ?_)
  obtain ⟨hv_7, hE_⟩ := hp_7
  have hW := hW.eq hE_
  obtain ⟨mo, hmo, rfl⟩ := vp_in_of hv_7 (by omega)
  have ei : ix (nI i) = i := nI_clamp (by omega)
  have em : ix (nI mo) = mo := nI_clamp (by omega)
  refine lv_aload_n hx hb dX5_paidFor_10 rfl (lv_at hl 0 rfl) ?_
  refine gfX5_158 B hT hW (by omega) (cE_hh (by omega)) rfl dX5_paidFor_11 ?_
  refine lv_iload_n hx hb dX5_paidFor_14 rfl (lv_at hl 3 rfl) ?_
  refine b_iald B hW hti (j := mo) (by omega) cE_pd (vp_in_nI (by omega) (Nat.le_of_ble_eq_true rfl)) (nI_clamp (by omega)) dX5_paidFor_15 ?_
  exact x_i hQ B hr hlk hS hW dX5_paidFor_16 (Nat.le_of_ble_eq_true rfl) (Nat.le_of_ble_eq_true rfl) (by rw [ei, em]; exact ⟨⟨by unfold kMon; rw [cif_t ⟨vp_in_nI hi (by omega), vp_in_nI hmo (by omega)⟩], rfl⟩, CW.mk hInv⟩)
set_option maxHeartbeats 4000000 in
set_option maxRecDepth 100000 in
theorem mt_entitlement {l : Launch} (hlf : l.stackTraces = false) {D : va_G} {tys : List (ClassId × FieldType)} {ad : Nat → Nat} (hI : aI ad 109) {cI cZ cH cP cT : ClassId} (V T : Nat → Nat → Int32) (ag : Nat → Int32) (nP nH rN : Nat) (nf pn : Int32) (sp sk : Int64) (py pd : Nat → Nat → Int32) (so en : Nat → Int32) (rA rC rI aA aC aH aT aP : Int32) (x y : Int32) (hti : tys[0]? = some (cI, .int)) (htz : cZ = cI) (hth : tys[2]? = some (cH, .object RX1)) (htp : tys[3]? = some (cP, .object RX2)) (htt : tys[4]? = some (cT, .object RX4)) (hInv : Inv V T ag nP nH rN so pd)  (sz : Nat) : vx_Met l yX5_entitlement (Cond.code yX5_entitlement cX5_entitlement 3 (some .int) :: wsL_law) (rmk 6 8 48) (va_Pc [.ref (ad 0), .int x, .int y] (PC D tys ad 109 (cE cI cZ cH cP cT ad V T ag nP nH rN nf pn sp sk py pd so en rA rC rI aA aC aH aT aP) sz)) (Qi D ad 109 (fun r E1 => (kMon nH x y = 0 ∧ r = due V ag nP (ix x) (ix y)) ∧ CW cI cZ cH cP cT ad V T ag nP nH rN nf pn sp sk py pd E1) (cA ad 109 sz)) (Xx D ad 109 (fun Ex E1 => (Ex = xIOB ∧ kMon nH x y = 1) ∧ CW cI cZ cH cP cT ad V T ag nP nH rN nf pn sp sk py pd E1) (cA ad 109 sz)) 8 48 (cA ad 109 sz) := by
  refine cx_of (own := RX5) (Qc := Qi D ad 109 (fun r E1 => (kMon nH x y = 0 ∧ r = due V ag nP (ix x) (ix y)) ∧ CW cI cZ cH cP cT ad V T ag nP nH rN nf pn sp sk py pd E1)) (XC := Xx D ad 109 (fun Ex E1 => (Ex = xIOB ∧ kMon nH x y = 1) ∧ CW cI cZ cH cP cT ad V T ag nP nH rN nf pn sp sk py pd E1)) rfl (by decide +kernel) (Nat.le_of_ble_eq_true rfl) ?_ sz
  intro p e s m args below meth c ls Q B hT hX hW hr hlk htb hl hS hA hQ
  have hx := B.1
  have hb := B.2.1
  have hl : lv_has ls 3 [(0, .ref (ad 0)), (1, .int x), (2, .int y)] := hl
  obtain ⟨⟨hP8, hH4, hR12⟩, hTb, -, hso, -, -, hpd⟩ := id hInv
  refine lv_aload_n hx hb dX5_entitlement_0 rfl (lv_at hl 0 rfl) ?_
  refine lv_iload_n hx hb dX5_entitlement_1 rfl (lv_at hl 1 rfl) ?_
  refine b_xcv hQ (b_xrunV B hT hX hW hS (As := [.int x]) (rest := []) (fun sz => mt_reqHouse hlf hI V T ag nP nH rN nf pn sp sk py pd so en rA rC rI aA aC aH aT aP x hH4 sz) (cwX5_86 B.2.2.2.2.1 ⟨Nat.le_of_ble_eq_true rfl, Nat.le_of_ble_eq_true rfl⟩) (b_recv B hW (by decide) cE_0 rfl) rfl hl.1 (Nat.le_of_ble_eq_true rfl) dX5_entitlement_2 ⟨Nat.le_of_ble_eq_true rfl, Nat.le_of_ble_eq_true rfl⟩) hS htb hlk (Nat.le_of_ble_eq_true rfl) (Nat.le_of_ble_eq_true rfl) (fun Ex E1 h => ⟨⟨h.1, by unfold kMon; rw [cif_f (fun q => h.2.1 q.1)]⟩, by rw [h.2.2]; exact CW.mk hInv⟩) (fun E1 H locs hp_2 hW hS => ?_)
  obtain ⟨hv_2, hE_⟩ := hp_2
  have hW := hW.eq hE_
  obtain ⟨i, hi, rfl⟩ := vp_in_of hv_2 (by omega)
  refine lv_iload_n hx hb dX5_entitlement_5 rfl (lv_at hl 2 rfl) ?_
  refine b_xcv hQ (b_xrunS B hT hX hW hS (As := [.int y]) (rest := []) (fun sz => mt_reqMonth hlf hI y sz) (cwX5_147 B.2.2.2.2.1 ⟨Nat.le_of_ble_eq_true rfl, Nat.le_of_ble_eq_true rfl⟩) rfl hl.1 (Nat.le_of_ble_eq_true rfl) dX5_entitlement_6 ⟨Nat.le_of_ble_eq_true rfl, Nat.le_of_ble_eq_true rfl⟩) hS htb hlk (Nat.le_of_ble_eq_true rfl) (Nat.le_of_ble_eq_true rfl) (fun Ex E1 h => ⟨⟨h.1, by unfold kMon; rw [cif_f (fun q => h.2.1 q.2)]⟩, by rw [h.2.2]; exact CW.mk hInv⟩) (fun E1 H locs hp_6 hW hS => ?_)
  obtain ⟨hv_6, hE_⟩ := hp_6
  have hW := hW.eq hE_
  obtain ⟨mo, hmo, rfl⟩ := vp_in_of hv_6 (by omega)
  have ei : ix (nI i) = i := nI_clamp (by omega)
  have em : ix (nI mo) = mo := nI_clamp (by omega)
  have hcon : ∀ x, 0 < x → x < 360 → so x ≤ 0 → tot V ag nP i x = tot V ag nP i (x - 1) := fun x h1 h2 h3 => by unfold tot; rw [Inv_amt hInv (by omega) h1 h2 h3]
  refine lv_aload_n hx hb dX5_entitlement_9 rfl (lv_at hl 0 rfl) ?_
  refine lv_iload_n hx hb dX5_entitlement_10 rfl (lv_at hl 1 rfl) ?_
  refine lv_iload_n hx hb dX5_entitlement_11 rfl (lv_at hl 2 rfl) ?_
  refine b_ci (b_runV B hT hX hW hS (As := [.int (nI i), .int (nI mo)]) (rest := []) (fun sz => mt_sumBS hI V T ag nP nH rN nf pn sp sk py pd so en rA rC rI aA aC aH aT aP i mo hti htz hth htp htt hP8 (by omega) (by omega) hcon sz) (cwX5_161 B.2.2.2.2.1 ⟨Nat.le_of_ble_eq_true rfl, Nat.le_of_ble_eq_true rfl⟩) (b_recv B hW (by decide) cE_0 rfl) rfl hl.1 (Nat.le_of_ble_eq_true rfl) dX5_entitlement_12 ⟨Nat.le_of_ble_eq_true rfl, Nat.le_of_ble_eq_true rfl⟩) hS (fun r_12 E1 H locs hp_12 hW hS => ?_)
  obtain ⟨hr_, jA_12, jB_12, jC_12, jD_12, jE_12, jF_12, jG_12, jH_12, hE_⟩ := hp_12
  subst hr_
  have hW := hW.eq hE_
  exact x_i hQ B hr hlk hS hW dX5_entitlement_15 (Nat.le_of_ble_eq_true rfl) (Nat.le_of_ble_eq_true rfl) (by rw [ei, em]; exact ⟨⟨by unfold kMon; rw [cif_t ⟨vp_in_nI hi (by omega), vp_in_nI hmo (by omega)⟩], rfl⟩, CW.mk hInv⟩)
set_option maxHeartbeats 4000000 in
set_option maxRecDepth 100000 in
theorem mt_entitlementByDays {l : Launch} (hlf : l.stackTraces = false) {D : va_G} {tys : List (ClassId × FieldType)} {ad : Nat → Nat} (hI : aI ad 109) {cI cZ cH cP cT : ClassId} (V T : Nat → Nat → Int32) (ag : Nat → Int32) (nP nH rN : Nat) (nf pn : Int32) (sp sk : Int64) (py pd : Nat → Nat → Int32) (so en : Nat → Int32) (rA rC rI aA aC aH aT aP : Int32) (x y : Int32) (hti : tys[0]? = some (cI, .int)) (htz : cZ = cI) (hth : tys[2]? = some (cH, .object RX1)) (htp : tys[3]? = some (cP, .object RX2)) (htt : tys[4]? = some (cT, .object RX4)) (hInv : Inv V T ag nP nH rN so pd)  (sz : Nat) : vx_Met l yX5_entitlementByDays (Cond.code yX5_entitlementByDays cX5_entitlementByDays 6 (some .int) :: wsL_law) (rmk 6 8 48) (va_Pc [.ref (ad 0), .int x, .int y] (PC D tys ad 109 (cE cI cZ cH cP cT ad V T ag nP nH rN nf pn sp sk py pd so en rA rC rI aA aC aH aT aP) sz)) (Qi D ad 109 (fun r E1 => (kMon nH x y = 0 ∧ r = due V ag nP (ix x) (ix y)) ∧ CW cI cZ cH cP cT ad V T ag nP nH rN nf pn sp sk py pd E1) (cA ad 109 sz)) (Xx D ad 109 (fun Ex E1 => (Ex = xIOB ∧ kMon nH x y = 1) ∧ CW cI cZ cH cP cT ad V T ag nP nH rN nf pn sp sk py pd E1) (cA ad 109 sz)) 8 48 (cA ad 109 sz) := by
  refine cx_of (own := RX5) (Qc := Qi D ad 109 (fun r E1 => (kMon nH x y = 0 ∧ r = due V ag nP (ix x) (ix y)) ∧ CW cI cZ cH cP cT ad V T ag nP nH rN nf pn sp sk py pd E1)) (XC := Xx D ad 109 (fun Ex E1 => (Ex = xIOB ∧ kMon nH x y = 1) ∧ CW cI cZ cH cP cT ad V T ag nP nH rN nf pn sp sk py pd E1)) rfl (by decide +kernel) (Nat.le_of_ble_eq_true rfl) ?_ sz
  intro p e s m args below meth c ls Q B hT hX hW hr hlk htb hl hS hA hQ
  have hx := B.1
  have hb := B.2.1
  have hl : lv_has ls 6 [(0, .ref (ad 0)), (1, .int x), (2, .int y)] := hl
  obtain ⟨⟨hP8, hH4, hR12⟩, hTb, -, hso, -, -, hpd⟩ := id hInv
  have L_20 : ∀ (n_ : Nat) (i : Nat) (mo : Nat) (dy : Nat) (rA1 : Int32) (rC1 : Int32) (rI1 : Int32) (aA1 : Int32) (aC1 : Int32) (aH1 : Int32) (aT1 : Int32) (aP1 : Int32), (hxi : x = nI i) → (hym : y = nI mo) → (hi : i < nH) → (hmo : mo < 12) → (hd0 : 30 * mo ≤ dy) → (hd1 : dy ≤ 30 * mo + 30) → (hn : 30 * mo + 30 < n_ + dy) → ∀ (H : Heap) (locs : List Loc) (ls : Array Slot), hH D ad 109 (cE cI cZ cH cP cT ad V T ag nP nH rN nf pn sp sk py pd so en rA1 rC1 rI1 aA1 aC1 aH1 aT1 aP1) H → va_S (cA ad 109 s.heap.size) s.heap H locs → lv_has ls 6 [(0, .ref (ad 0)), (1, .int (nI i)), (2, .int (nI mo)), (3, .int (nI (30 * mo))), (4, .int (sumD (tot V ag nP i) (dy - 30 * mo) (30 * mo))), (5, .int (nI dy))] → W p l e (rmk 6 8 48) s m args below meth c H locs 2 12 Q (F0 m 20 ls []) := by
    intro n_
    induction n_ with
    | zero =>
      intro i mo dy rA1 rC1 rI1 aA1 aC1 aH1 aT1 aP1 hxi hym hi hmo hd0 hd1 hn
      omega
    | succ n_ ih =>
      intro i mo dy rA1 rC1 rI1 aA1 aC1 aH1 aT1 aP1 hxi hym hi hmo hd0 hd1 hn
      subst hxi
      subst hym
      intro H locs ls hW hS hl
      refine lv_iload hx hb dX5_entitlementByDays_20 (lv_at hl 5 rfl) ?_
      refine lv_iload_n hx hb dX5_entitlementByDays_22 rfl (lv_at hl 3 rfl) ?_
      refine lv_bipush (v := (nI 30)) hx hb dX5_entitlementByDays_23 (by decide) ?_
      refine lv_iadd hx hb dX5_entitlementByDays_25 ?_
      refine b_top (y := nI (30 * mo + 30)) (nI_add _ _) ?_
      refine lv_icmp_ge (tgt := 54) hx hb dX5_entitlementByDays_26 (by decide) (fun c_26 => ?_) (fun c_26 => ?_)
      · skip
        refine lv_iload hx hb dX5_entitlementByDays_54 (lv_at hl 4 rfl) ?_
        exact x_i hQ B hr hlk hS hW dX5_entitlementByDays_56 (Nat.le_of_ble_eq_true rfl) (Nat.le_of_ble_eq_true rfl) (by have q2 := (nI_leI (by omega) (by omega)).mp c_26; have q3 : dy = 30 * mo + 30 := (by omega); subst q3; exact ⟨⟨by unfold kMon; rw [cif_t ⟨vp_in_nI hi (by omega), vp_in_nI hmo (by omega)⟩], by rw [ix_nI (by omega), ix_nI (by omega)]; unfold due; rw [show 30 * mo + 30 - 30 * mo = 30 by omega]⟩, CW.mk hInv⟩)
      · skip
        have q26 : dy < 30 * mo + 30 := Nat.lt_of_not_le (fun q => c_26 ((nI_leI (by omega) (by omega)).mpr q))
        refine lv_aload_n hx hb dX5_entitlementByDays_29 rfl (lv_at hl 0 rfl) ?_
        refine lv_iload_n hx hb dX5_entitlementByDays_30 rfl (lv_at hl 1 rfl) ?_
        refine lv_iload hx hb dX5_entitlementByDays_31 (lv_at hl 5 rfl) ?_
        refine b_cv (b_runV B hT hX hW hS (As := [.int (nI i), .int (nI dy)]) (rest := []) (fun sz => mt_findAmt hI V T ag nP nH rN nf pn sp sk py pd so en rA1 rC1 rI1 aA1 aC1 aH1 aT1 aP1 i dy hti htz hth htp htt hP8 (by omega) (by omega) sz) (cwX5_183 B.2.2.2.2.1 ⟨Nat.le_of_ble_eq_true rfl, Nat.le_of_ble_eq_true rfl⟩) (b_recv B hW (by decide) cE_0 rfl) rfl hl.1 (Nat.le_of_ble_eq_true rfl) dX5_entitlementByDays_33 ⟨Nat.le_of_ble_eq_true rfl, Nat.le_of_ble_eq_true rfl⟩) hS (fun E1 H locs hp_33 hW hS => ?_)
        have hW := hW.eq hp_33
        refine lv_iload hx hb dX5_entitlementByDays_36 (lv_at hl 4 rfl) ?_
        refine lv_aload_n hx hb dX5_entitlementByDays_38 rfl (lv_at hl 0 rfl) ?_
        refine gfX5_41 B hT hW (by decide) cE_0 rfl dX5_entitlementByDays_39 ?_
        refine b_ci (b_runV B hT hX hW hS (As := []) (rest := [.int (sumD (tot V ag nP i) (dy - 30 * mo) (30 * mo))]) (fun sz => mt_asum hI 6 (by decide) cE_6 sz) (cwX5_204 B.2.2.2.2.1 ⟨Nat.le_of_ble_eq_true rfl, Nat.le_of_ble_eq_true rfl⟩) (b_recv B hW (by decide) cE_6 rfl) rfl hl.1 (Nat.le_of_ble_eq_true rfl) dX5_entitlementByDays_42 ⟨Nat.le_of_ble_eq_true rfl, Nat.le_of_ble_eq_true rfl⟩) hS (fun r_42 E1 H locs hp_42 hW hS => ?_)
        obtain ⟨hr_, hE_⟩ := hp_42
        subst hr_
        have hW := hW.eq hE_
        refine lv_iadd hx hb dX5_entitlementByDays_45 ?_
        refine b_top (y := sumD (tot V ag nP i) (dy + 1 - 30 * mo) (30 * mo)) (by rw [show dy + 1 - 30 * mo = (dy - 30 * mo) + 1 by omega, sumD, show 30 * mo + (dy - 30 * mo) = dy by omega]; rfl) ?_
        refine lv_istore (lv' := [(4, .int (sumD (tot V ag nP i) (dy + 1 - 30 * mo) (30 * mo))), (0, .ref (ad 0)), (1, .int (nI i)), (2, .int (nI mo)), (3, .int (nI (30 * mo))), (5, .int (nI dy))]) hx hb dX5_entitlementByDays_46 hl (by decide) rfl (fun ls hl => ?_)
        refine lv_iinc (v := (nI (dy + 1))) (lv' := [(5, .int (nI (dy + 1))), (4, .int (sumD (tot V ag nP i) (dy + 1 - 30 * mo) (30 * mo))), (0, .ref (ad 0)), (1, .int (nI i)), (2, .int (nI mo)), (3, .int (nI (30 * mo)))]) hx hb dX5_entitlementByDays_48 hl (k := 5) rfl (nI_1 dy) (by decide) rfl (fun ls hl => ?_)
        refine lv_goto (tgt := 20) hx hb dX5_entitlementByDays_51 (by decide) ?_
        exact ih i mo (dy + 1) ((cnt V ag (nI i) dy nP).1) ((cnt V ag (nI i) dy nP).2.1) ((cnt V ag (nI i) dy nP).2.2) ((amt V ag nP i dy).1) ((amt V ag nP i dy).2.1) ((amt V ag nP i dy).2.2.1) ((amt V ag nP i dy).2.2.2.1) ((amt V ag nP i dy).2.2.2.2) rfl rfl hi hmo (by omega) (by omega) (by omega) _ _ _ hW hS (lv_sub hl [2, 3, 4, 5, 1, 0] rfl)
  refine lv_aload_n hx hb dX5_entitlementByDays_0 rfl (lv_at hl 0 rfl) ?_
  refine lv_iload_n hx hb dX5_entitlementByDays_1 rfl (lv_at hl 1 rfl) ?_
  refine b_xcv hQ (b_xrunV B hT hX hW hS (As := [.int x]) (rest := []) (fun sz => mt_reqHouse hlf hI V T ag nP nH rN nf pn sp sk py pd so en rA rC rI aA aC aH aT aP x hH4 sz) (cwX5_86 B.2.2.2.2.1 ⟨Nat.le_of_ble_eq_true rfl, Nat.le_of_ble_eq_true rfl⟩) (b_recv B hW (by decide) cE_0 rfl) rfl hl.1 (Nat.le_of_ble_eq_true rfl) dX5_entitlementByDays_2 ⟨Nat.le_of_ble_eq_true rfl, Nat.le_of_ble_eq_true rfl⟩) hS htb hlk (Nat.le_of_ble_eq_true rfl) (Nat.le_of_ble_eq_true rfl) (fun Ex E1 h => ⟨⟨h.1, by unfold kMon; rw [cif_f (fun q => h.2.1 q.1)]⟩, by rw [h.2.2]; exact CW.mk hInv⟩) (fun E1 H locs hp_2 hW hS => ?_)
  obtain ⟨hv_2, hE_⟩ := hp_2
  have hW := hW.eq hE_
  obtain ⟨i, hi, rfl⟩ := vp_in_of hv_2 (by omega)
  refine lv_iload_n hx hb dX5_entitlementByDays_5 rfl (lv_at hl 2 rfl) ?_
  refine b_xcv hQ (b_xrunS B hT hX hW hS (As := [.int y]) (rest := []) (fun sz => mt_reqMonth hlf hI y sz) (cwX5_147 B.2.2.2.2.1 ⟨Nat.le_of_ble_eq_true rfl, Nat.le_of_ble_eq_true rfl⟩) rfl hl.1 (Nat.le_of_ble_eq_true rfl) dX5_entitlementByDays_6 ⟨Nat.le_of_ble_eq_true rfl, Nat.le_of_ble_eq_true rfl⟩) hS htb hlk (Nat.le_of_ble_eq_true rfl) (Nat.le_of_ble_eq_true rfl) (fun Ex E1 h => ⟨⟨h.1, by unfold kMon; rw [cif_f (fun q => h.2.1 q.2)]⟩, by rw [h.2.2]; exact CW.mk hInv⟩) (fun E1 H locs hp_6 hW hS => ?_)
  obtain ⟨hv_6, hE_⟩ := hp_6
  have hW := hW.eq hE_
  obtain ⟨mo, hmo, rfl⟩ := vp_in_of hv_6 (by omega)
  refine lv_iload_n hx hb dX5_entitlementByDays_9 rfl (lv_at hl 2 rfl) ?_
  refine lv_bipush (v := (nI 30)) hx hb dX5_entitlementByDays_10 (by decide) ?_
  refine lv_imul hx hb dX5_entitlementByDays_12 ?_
  refine b_top (y := nI (30 * mo)) (by rw [pk_mul, Nat.mul_comm]) ?_
  refine lv_istore_n (lv' := [(3, .int (nI (30 * mo))), (0, .ref (ad 0)), (1, .int (nI i)), (2, .int (nI mo))]) hx hb dX5_entitlementByDays_13 rfl hl (by decide) rfl (fun ls hl => ?_)
  refine lv_iconst (v := 0) hx hb dX5_entitlementByDays_14 (by decide) ?_
  refine b_top (y := sumD (tot V ag nP i) (30 * mo - 30 * mo) (30 * mo)) (by rw [Nat.sub_self]; rfl) ?_
  refine lv_istore (lv' := [(4, .int (sumD (tot V ag nP i) (30 * mo - 30 * mo) (30 * mo))), (3, .int (nI (30 * mo))), (0, .ref (ad 0)), (1, .int (nI i)), (2, .int (nI mo))]) hx hb dX5_entitlementByDays_15 hl (by decide) rfl (fun ls hl => ?_)
  refine lv_iload_n hx hb dX5_entitlementByDays_17 rfl (lv_at hl 1 rfl) ?_
  refine lv_istore (lv' := [(5, .int (nI (30 * mo))), (4, .int (sumD (tot V ag nP i) (30 * mo - 30 * mo) (30 * mo))), (3, .int (nI (30 * mo))), (0, .ref (ad 0)), (1, .int (nI i)), (2, .int (nI mo))]) hx hb dX5_entitlementByDays_18 hl (by decide) rfl (fun ls hl => ?_)
  exact L_20 32 i mo (30 * mo) rA rC rI aA aC aH aT aP rfl rfl hi hmo (by omega) (by omega) (by omega) _ _ _ hW hS (lv_sub hl [3, 4, 5, 2, 1, 0] rfl)
set_option maxHeartbeats 4000000 in
set_option maxRecDepth 100000 in
theorem mt_balance {l : Launch} (hlf : l.stackTraces = false) {D : va_G} {tys : List (ClassId × FieldType)} {ad : Nat → Nat} (hI : aI ad 109) {cI cZ cH cP cT : ClassId} (V T : Nat → Nat → Int32) (ag : Nat → Int32) (nP nH rN : Nat) (nf pn : Int32) (sp sk : Int64) (py pd : Nat → Nat → Int32) (so en : Nat → Int32) (rA rC rI aA aC aH aT aP : Int32) (x : Int32) (hti : tys[0]? = some (cI, .int)) (htz : cZ = cI) (hth : tys[2]? = some (cH, .object RX1)) (htp : tys[3]? = some (cP, .object RX2)) (htt : tys[4]? = some (cT, .object RX4)) (hInv : Inv V T ag nP nH rN so pd)  (sz : Nat) : vx_Met l yX5_balance (Cond.code yX5_balance cX5_balance 5 (some .int) :: wsL_law) (rmk 6 8 48) (va_Pc [.ref (ad 0), .int x] (PC D tys ad 109 (cE cI cZ cH cP cT ad V T ag nP nH rN nf pn sp sk py pd so en rA rC rI aA aC aH aT aP) sz)) (Qi D ad 109 (fun r E1 => (kHou nH x = 0 ∧ r = bal (due V ag nP (ix x)) (pd (ix x)) rN) ∧ CW cI cZ cH cP cT ad V T ag nP nH rN nf pn sp sk py pd E1) (cA ad 109 sz)) (Xx D ad 109 (fun Ex E1 => (Ex = xIOB ∧ kHou nH x = 1) ∧ CW cI cZ cH cP cT ad V T ag nP nH rN nf pn sp sk py pd E1) (cA ad 109 sz)) 8 48 (cA ad 109 sz) := by
  refine cx_of (own := RX5) (Qc := Qi D ad 109 (fun r E1 => (kHou nH x = 0 ∧ r = bal (due V ag nP (ix x)) (pd (ix x)) rN) ∧ CW cI cZ cH cP cT ad V T ag nP nH rN nf pn sp sk py pd E1)) (XC := Xx D ad 109 (fun Ex E1 => (Ex = xIOB ∧ kHou nH x = 1) ∧ CW cI cZ cH cP cT ad V T ag nP nH rN nf pn sp sk py pd E1)) rfl (by decide +kernel) (Nat.le_of_ble_eq_true rfl) ?_ sz
  intro p e s m args below meth c ls Q B hT hX hW hr hlk htb hl hS hA hQ
  have hx := B.1
  have hb := B.2.1
  have hl : lv_has ls 5 [(0, .ref (ad 0)), (1, .int x)] := hl
  obtain ⟨⟨hP8, hH4, hR12⟩, hTb, -, hso, -, -, hpd⟩ := id hInv
  have L_11 : ∀ (n_ : Nat) (i : Nat) (mo : Nat) (rA1 : Int32) (rC1 : Int32) (rI1 : Int32) (aA1 : Int32) (aC1 : Int32) (aH1 : Int32) (aT1 : Int32) (aP1 : Int32), (hxi : x = nI i) → (hi : i < nH) → (hmo : mo ≤ rN) → (hn : rN < n_ + mo) → ∀ (H : Heap) (locs : List Loc) (ls : Array Slot), hH D ad 109 (cE cI cZ cH cP cT ad V T ag nP nH rN nf pn sp sk py pd so en rA1 rC1 rI1 aA1 aC1 aH1 aT1 aP1) H → va_S (cA ad 109 s.heap.size) s.heap H locs → lv_has ls 5 [(0, .ref (ad 0)), (1, .int (nI i)), (2, .ref (ad (16 + i))), (3, .int (bal (due V ag nP i) (pd i) mo)), (4, .int (nI mo))] → W p l e (rmk 6 8 48) s m args below meth c H locs 2 12 Q (F0 m 11 ls []) := by
    intro n_
    induction n_ with
    | zero =>
      intro i mo rA1 rC1 rI1 aA1 aC1 aH1 aT1 aP1 hxi hi hmo hn
      omega
    | succ n_ ih =>
      intro i mo rA1 rC1 rI1 aA1 aC1 aH1 aT1 aP1 hxi hi hmo hn
      subst hxi
      have hcon : ∀ x, 0 < x → x < 360 → so x ≤ 0 → tot V ag nP i x = tot V ag nP i (x - 1) := fun x h1 h2 h3 => by unfold tot; rw [Inv_amt hInv (by omega) h1 h2 h3]
      intro H locs ls hW hS hl
      refine lv_iload hx hb dX5_balance_11 (lv_at hl 4 rfl) ?_
      refine lv_aload_n hx hb dX5_balance_13 rfl (lv_at hl 0 rfl) ?_
      refine gfX5_131 B hT hW (by decide) cE_0 rfl dX5_balance_14 ?_
      refine lv_icmp_ge (tgt := 44) hx hb dX5_balance_17 (by decide) (fun c_17 => ?_) (fun c_17 => ?_)
      · skip
        refine lv_iload_n hx hb dX5_balance_44 rfl (lv_at hl 3 rfl) ?_
        exact x_i hQ B hr hlk hS hW dX5_balance_45 (Nat.le_of_ble_eq_true rfl) (Nat.le_of_ble_eq_true rfl) (by have q2 : mo = rN := Nat.le_antisymm hmo ((nI_leI (by omega) (by omega)).mp c_17); subst q2; exact ⟨⟨by unfold kHou; rw [cif_t (vp_in_nI hi (by omega))], by rw [ix_nI (by omega)]⟩, CW.mk hInv⟩)
      · skip
        have q17 : mo < rN := Nat.lt_of_not_le (fun q => c_17 ((nI_leI (by omega) (by omega)).mpr q))
        refine lv_iload_n hx hb dX5_balance_20 rfl (lv_at hl 3 rfl) ?_
        refine lv_aload_n hx hb dX5_balance_21 rfl (lv_at hl 0 rfl) ?_
        refine lv_iload_n hx hb dX5_balance_22 rfl (lv_at hl 1 rfl) ?_
        refine lv_iload hx hb dX5_balance_23 (lv_at hl 4 rfl) ?_
        refine b_ci (b_runV B hT hX hW hS (As := [.int (nI i), .int (nI mo)]) (rest := [.int (bal (due V ag nP i) (pd i) mo)]) (fun sz => mt_sumBS hI V T ag nP nH rN nf pn sp sk py pd so en rA1 rC1 rI1 aA1 aC1 aH1 aT1 aP1 i mo hti htz hth htp htt hP8 (by omega) (by omega) hcon sz) (cwX5_161 B.2.2.2.2.1 ⟨Nat.le_of_ble_eq_true rfl, Nat.le_of_ble_eq_true rfl⟩) (b_recv B hW (by decide) cE_0 rfl) rfl hl.1 (Nat.le_of_ble_eq_true rfl) dX5_balance_25 ⟨Nat.le_of_ble_eq_true rfl, Nat.le_of_ble_eq_true rfl⟩) hS (fun r_25 E1 H locs hp_25 hW hS => ?_)
        obtain ⟨hr_, jA_25, jB_25, jC_25, jD_25, jE_25, jF_25, jG_25, jH_25, hE_⟩ := hp_25
        subst hr_
        have hW := hW.eq hE_
        refine lv_aload_n hx hb dX5_balance_28 rfl (lv_at hl 2 rfl) ?_
        refine gfX5_158 B hT hW (by omega) (cE_hh (by omega)) rfl dX5_balance_29 ?_
        refine lv_iload hx hb dX5_balance_32 (lv_at hl 4 rfl) ?_
        refine b_iald B hW hti (j := mo) (by omega) cE_pd (vp_in_nI (by omega) (Nat.le_of_ble_eq_true rfl)) (nI_clamp (by omega)) dX5_balance_34 ?_
        refine lv_isub hx hb dX5_balance_35 ?_
        refine lv_iadd hx hb dX5_balance_36 ?_
        refine b_top (y := bal (due V ag nP i) (pd i) (mo + 1)) rfl ?_
        refine lv_istore_n (lv' := [(3, .int (bal (due V ag nP i) (pd i) (mo + 1))), (0, .ref (ad 0)), (1, .int (nI i)), (2, .ref (ad (16 + i))), (4, .int (nI mo))]) hx hb dX5_balance_37 rfl hl (by decide) rfl (fun ls hl => ?_)
        refine lv_iinc (v := (nI (mo + 1))) (lv' := [(4, .int (nI (mo + 1))), (3, .int (bal (due V ag nP i) (pd i) (mo + 1))), (0, .ref (ad 0)), (1, .int (nI i)), (2, .ref (ad (16 + i)))]) hx hb dX5_balance_38 hl (k := 4) rfl (nI_1 mo) (by decide) rfl (fun ls hl => ?_)
        refine lv_goto (tgt := 11) hx hb dX5_balance_41 (by decide) ?_
        exact ih i (mo + 1) jA_25 jB_25 jC_25 jD_25 jE_25 jF_25 jG_25 jH_25 rfl hi (by omega) (by omega) _ _ _ hW hS (lv_sub hl [2, 3, 4, 1, 0] rfl)
  refine lv_aload_n hx hb dX5_balance_0 rfl (lv_at hl 0 rfl) ?_
  refine lv_iload_n hx hb dX5_balance_1 rfl (lv_at hl 1 rfl) ?_
  refine b_xcq hQ (b_xrunV B hT hX hW hS (As := [.int x]) (rest := []) (fun sz => mt_houseNum hlf hI V T ag nP nH rN nf pn sp sk py pd so en rA rC rI aA aC aH aT aP x hti htz hth htp htt hH4 sz) (cwX5_99 B.2.2.2.2.1 ⟨Nat.le_of_ble_eq_true rfl, Nat.le_of_ble_eq_true rfl⟩) (b_recv B hW (by decide) cE_0 rfl) rfl hl.1 (Nat.le_of_ble_eq_true rfl) dX5_balance_2 ⟨Nat.le_of_ble_eq_true rfl, Nat.le_of_ble_eq_true rfl⟩) hS htb hlk (Nat.le_of_ble_eq_true rfl) (Nat.le_of_ble_eq_true rfl) (fun Ex E1 h => ⟨⟨h.1, by unfold kHou; rw [cif_f h.2.1]⟩, by rw [h.2.2]; exact CW.mk hInv⟩) (fun r_2 E1 H locs hp_2 hW hS => ?_)
  obtain ⟨hv_2, hr_, hE_⟩ := hp_2
  subst hr_
  have hW := hW.eq hE_
  obtain ⟨i, hi, rfl⟩ := vp_in_of hv_2 (by omega)
  refine W.eq (g2 := F0 m 5 ls [.ref (ad (16 + i))]) (by show F0 m 5 ls _ = _; rw [show ix (nI i) = i from nI_clamp (by omega)]; rfl) ?_
  refine lv_astore_n (lv' := [(2, .ref (ad (16 + i))), (0, .ref (ad 0)), (1, .int (nI i))]) hx hb dX5_balance_5 rfl hl (by decide) rfl (fun ls hl => ?_)
  refine lv_iconst (v := 0) hx hb dX5_balance_6 (by decide) ?_
  refine b_top (y := bal (due V ag nP i) (pd i) 0) rfl ?_
  refine lv_istore_n (lv' := [(3, .int (bal (due V ag nP i) (pd i) 0)), (2, .ref (ad (16 + i))), (0, .ref (ad 0)), (1, .int (nI i))]) hx hb dX5_balance_7 rfl hl (by decide) rfl (fun ls hl => ?_)
  refine lv_iconst (v := 0) hx hb dX5_balance_8 (by decide) ?_
  refine lv_istore (lv' := [(4, .int 0), (3, .int (bal (due V ag nP i) (pd i) 0)), (2, .ref (ad (16 + i))), (0, .ref (ad 0)), (1, .int (nI i))]) hx hb dX5_balance_9 hl (by decide) rfl (fun ls hl => ?_)
  exact L_11 13 i 0 rA rC rI aA aC aH aT aP rfl hi (by omega) (by omega) _ _ _ hW hS (lv_sub hl [3, 4, 2, 1, 0] rfl)
theorem stl_0 {u f : Nat → Int32} {k : Nat} : ∀ {n : Nat}, k < n → stl u f (k + 1) = 0 → stl u f n = 0
  | 0, h, _ => absurd h (Nat.not_lt_zero k)
  | n + 1, h, h0 => by
    rcases Nat.lt_or_eq_of_le (Nat.le_of_lt_succ h) with q | q
    · rw [stl, if_pos (stl_0 q h0)]
    · subst q; exact h0
set_option maxHeartbeats 4000000 in
set_option maxRecDepth 100000 in
theorem mt_isSettled {l : Launch} (hlf : l.stackTraces = false) {D : va_G} {tys : List (ClassId × FieldType)} {ad : Nat → Nat} (hI : aI ad 109) {cI cZ cH cP cT : ClassId} (V T : Nat → Nat → Int32) (ag : Nat → Int32) (nP nH rN : Nat) (nf pn : Int32) (sp sk : Int64) (py pd : Nat → Nat → Int32) (so en : Nat → Int32) (rA rC rI aA aC aH aT aP : Int32) (x : Int32) (hti : tys[0]? = some (cI, .int)) (htz : cZ = cI) (hth : tys[2]? = some (cH, .object RX1)) (htp : tys[3]? = some (cP, .object RX2)) (htt : tys[4]? = some (cT, .object RX4)) (hInv : Inv V T ag nP nH rN so pd)  (sz : Nat) : vx_Met l yX5_isSettled (Cond.code yX5_isSettled cX5_isSettled 4 (some .boolean) :: wsL_law) (rmk 6 8 48) (va_Pc [.ref (ad 0), .int x] (PC D tys ad 109 (cE cI cZ cH cP cT ad V T ag nP nH rN nf pn sp sk py pd so en rA rC rI aA aC aH aT aP) sz)) (Qi D ad 109 (fun r E1 => (kHou nH x = 0 ∧ r = stl (due V ag nP (ix x)) (pd (ix x)) rN) ∧ CW cI cZ cH cP cT ad V T ag nP nH rN nf pn sp sk py pd E1) (cA ad 109 sz)) (Xx D ad 109 (fun Ex E1 => (Ex = xIOB ∧ kHou nH x = 1) ∧ CW cI cZ cH cP cT ad V T ag nP nH rN nf pn sp sk py pd E1) (cA ad 109 sz)) 8 48 (cA ad 109 sz) := by
  refine cx_of (own := RX5) (Qc := Qi D ad 109 (fun r E1 => (kHou nH x = 0 ∧ r = stl (due V ag nP (ix x)) (pd (ix x)) rN) ∧ CW cI cZ cH cP cT ad V T ag nP nH rN nf pn sp sk py pd E1)) (XC := Xx D ad 109 (fun Ex E1 => (Ex = xIOB ∧ kHou nH x = 1) ∧ CW cI cZ cH cP cT ad V T ag nP nH rN nf pn sp sk py pd E1)) rfl (by decide +kernel) (Nat.le_of_ble_eq_true rfl) ?_ sz
  intro p e s m args below meth c ls Q B hT hX hW hr hlk htb hl hS hA hQ
  have hx := B.1
  have hb := B.2.1
  have hl : lv_has ls 4 [(0, .ref (ad 0)), (1, .int x)] := hl
  obtain ⟨⟨hP8, hH4, hR12⟩, hTb, -, hso, -, -, hpd⟩ := id hInv
  have L_8 : ∀ (n_ : Nat) (i : Nat) (mo : Nat) (rA1 : Int32) (rC1 : Int32) (rI1 : Int32) (aA1 : Int32) (aC1 : Int32) (aH1 : Int32) (aT1 : Int32) (aP1 : Int32), (hxi : x = nI i) → (hi : i < nH) → (hmo : mo ≤ rN) → (hn : rN < n_ + mo) → (hst : stl (due V ag nP i) (pd i) mo = 1) → ∀ (H : Heap) (locs : List Loc) (ls : Array Slot), hH D ad 109 (cE cI cZ cH cP cT ad V T ag nP nH rN nf pn sp sk py pd so en rA1 rC1 rI1 aA1 aC1 aH1 aT1 aP1) H → va_S (cA ad 109 s.heap.size) s.heap H locs → lv_has ls 4 [(0, .ref (ad 0)), (1, .int (nI i)), (2, .ref (ad (16 + i))), (3, .int (nI mo))] → W p l e (rmk 6 8 48) s m args below meth c H locs 2 12 Q (F0 m 8 ls []) := by
    intro n_
    induction n_ with
    | zero =>
      intro i mo rA1 rC1 rI1 aA1 aC1 aH1 aT1 aP1 hxi hi hmo hn hst
      omega
    | succ n_ ih =>
      intro i mo rA1 rC1 rI1 aA1 aC1 aH1 aT1 aP1 hxi hi hmo hn hst
      subst hxi
      have hcon : ∀ x, 0 < x → x < 360 → so x ≤ 0 → tot V ag nP i x = tot V ag nP i (x - 1) := fun x h1 h2 h3 => by unfold tot; rw [Inv_amt hInv (by omega) h1 h2 h3]
      intro H locs ls hW hS hl
      refine lv_iload_n hx hb dX5_isSettled_8 rfl (lv_at hl 3 rfl) ?_
      refine lv_aload_n hx hb dX5_isSettled_9 rfl (lv_at hl 0 rfl) ?_
      refine gfX5_131 B hT hW (by decide) cE_0 rfl dX5_isSettled_10 ?_
      refine lv_icmp_ge (tgt := 39) hx hb dX5_isSettled_13 (by decide) (fun c_13 => ?_) (fun c_13 => ?_)
      · skip
        refine lv_iconst (v := 1) hx hb dX5_isSettled_39 (by decide) ?_
        exact x_n hQ B hr hlk hS (by first | rfl | decide) hW dX5_isSettled_40 (Nat.le_of_ble_eq_true rfl) (Nat.le_of_ble_eq_true rfl) (by have q2 : mo = rN := Nat.le_antisymm hmo ((nI_leI (by omega) (by omega)).mp c_13); subst q2; exact ⟨⟨by unfold kHou; rw [cif_t (vp_in_nI hi (by omega))], by rw [ix_nI (by omega)]; exact hst.symm⟩, CW.mk hInv⟩)
      · skip
        have q13 : mo < rN := Nat.lt_of_not_le (fun q => c_13 ((nI_leI (by omega) (by omega)).mpr q))
        refine lv_aload_n hx hb dX5_isSettled_16 rfl (lv_at hl 0 rfl) ?_
        refine lv_iload_n hx hb dX5_isSettled_17 rfl (lv_at hl 1 rfl) ?_
        refine lv_iload_n hx hb dX5_isSettled_18 rfl (lv_at hl 3 rfl) ?_
        refine b_ci (b_runV B hT hX hW hS (As := [.int (nI i), .int (nI mo)]) (rest := []) (fun sz => mt_sumBS hI V T ag nP nH rN nf pn sp sk py pd so en rA1 rC1 rI1 aA1 aC1 aH1 aT1 aP1 i mo hti htz hth htp htt hP8 (by omega) (by omega) hcon sz) (cwX5_161 B.2.2.2.2.1 ⟨Nat.le_of_ble_eq_true rfl, Nat.le_of_ble_eq_true rfl⟩) (b_recv B hW (by decide) cE_0 rfl) rfl hl.1 (Nat.le_of_ble_eq_true rfl) dX5_isSettled_19 ⟨Nat.le_of_ble_eq_true rfl, Nat.le_of_ble_eq_true rfl⟩) hS (fun r_19 E1 H locs hp_19 hW hS => ?_)
        obtain ⟨hr_, jA_19, jB_19, jC_19, jD_19, jE_19, jF_19, jG_19, jH_19, hE_⟩ := hp_19
        subst hr_
        have hW := hW.eq hE_
        refine lv_aload_n hx hb dX5_isSettled_22 rfl (lv_at hl 2 rfl) ?_
        refine gfX5_158 B hT hW (by omega) (cE_hh (by omega)) rfl dX5_isSettled_23 ?_
        refine lv_iload_n hx hb dX5_isSettled_26 rfl (lv_at hl 3 rfl) ?_
        refine b_iald B hW hti (j := mo) (by omega) cE_pd (vp_in_nI (by omega) (Nat.le_of_ble_eq_true rfl)) (nI_clamp (by omega)) dX5_isSettled_27 ?_
        refine lv_icmp_eq (tgt := 33) hx hb dX5_isSettled_28 (by decide) (fun c_28 => ?_) (fun c_28 => ?_)
        · skip
          refine lv_iinc (v := (nI (mo + 1))) (lv' := [(3, .int (nI (mo + 1))), (0, .ref (ad 0)), (1, .int (nI i)), (2, .ref (ad (16 + i)))]) hx hb dX5_isSettled_33 hl (k := 3) rfl (nI_1 mo) (by decide) rfl (fun ls hl => ?_)
          refine lv_goto (tgt := 8) hx hb dX5_isSettled_36 (by decide) ?_
          exact ih i (mo + 1) jA_19 jB_19 jC_19 jD_19 jE_19 jF_19 jG_19 jH_19 rfl hi (by omega) (by omega) (by rw [stl, if_neg (by rw [hst]; decide), if_pos c_28]) _ _ _ hW hS (lv_sub hl [1, 2, 3, 0] rfl)
        · skip
          refine lv_iconst (v := 0) hx hb dX5_isSettled_31 (by decide) ?_
          exact x_n hQ B hr hlk hS (by first | rfl | decide) hW dX5_isSettled_32 (Nat.le_of_ble_eq_true rfl) (Nat.le_of_ble_eq_true rfl) (by exact ⟨⟨by unfold kHou; rw [cif_t (vp_in_nI hi (by omega))], by rw [ix_nI (by omega)]; exact (stl_0 q13 (by rw [stl, if_neg (by rw [hst]; decide), if_neg c_28])).symm⟩, CW.mk hInv⟩)
  refine lv_aload_n hx hb dX5_isSettled_0 rfl (lv_at hl 0 rfl) ?_
  refine lv_iload_n hx hb dX5_isSettled_1 rfl (lv_at hl 1 rfl) ?_
  refine b_xcq hQ (b_xrunV B hT hX hW hS (As := [.int x]) (rest := []) (fun sz => mt_houseNum hlf hI V T ag nP nH rN nf pn sp sk py pd so en rA rC rI aA aC aH aT aP x hti htz hth htp htt hH4 sz) (cwX5_99 B.2.2.2.2.1 ⟨Nat.le_of_ble_eq_true rfl, Nat.le_of_ble_eq_true rfl⟩) (b_recv B hW (by decide) cE_0 rfl) rfl hl.1 (Nat.le_of_ble_eq_true rfl) dX5_isSettled_2 ⟨Nat.le_of_ble_eq_true rfl, Nat.le_of_ble_eq_true rfl⟩) hS htb hlk (Nat.le_of_ble_eq_true rfl) (Nat.le_of_ble_eq_true rfl) (fun Ex E1 h => ⟨⟨h.1, by unfold kHou; rw [cif_f h.2.1]⟩, by rw [h.2.2]; exact CW.mk hInv⟩) (fun r_2 E1 H locs hp_2 hW hS => ?_)
  obtain ⟨hv_2, hr_, hE_⟩ := hp_2
  subst hr_
  have hW := hW.eq hE_
  obtain ⟨i, hi, rfl⟩ := vp_in_of hv_2 (by omega)
  refine W.eq (g2 := F0 m 5 ls [.ref (ad (16 + i))]) (by show F0 m 5 ls _ = _; rw [show ix (nI i) = i from nI_clamp (by omega)]; rfl) ?_
  refine lv_astore_n (lv' := [(2, .ref (ad (16 + i))), (0, .ref (ad 0)), (1, .int (nI i))]) hx hb dX5_isSettled_5 rfl hl (by decide) rfl (fun ls hl => ?_)
  refine lv_iconst (v := 0) hx hb dX5_isSettled_6 (by decide) ?_
  refine lv_istore_n (lv' := [(3, .int 0), (2, .ref (ad (16 + i))), (0, .ref (ad 0)), (1, .int (nI i))]) hx hb dX5_isSettled_7 rfl hl (by decide) rfl (fun ls hl => ?_)
  exact L_8 13 i 0 rA rC rI aA aC aH aT aP rfl hi (by omega) (by omega) rfl _ _ _ hW hS (lv_sub hl [2, 3, 1, 0] rfl)
theorem nxt_s {f : Nat → Int32 × Int32 × Int32} {z : Int32 × Int32 × Int32} {d : Nat} (h : d < 360) (h0 : f d = z) : nxt f z (360 - d) d = nxt f z (360 - (d + 1)) (d + 1) := by
  rw [show 360 - d = (360 - (d + 1)) + 1 by omega, nxt, if_pos h0]
theorem nxt_n {f : Nat → Int32 × Int32 × Int32} {z : Int32 × Int32 × Int32} {d : Nat} (h : d < 360) (h0 : ¬ f d = z) : nxt f z (360 - d) d = d := by
  rw [show 360 - d = (360 - (d + 1)) + 1 by omega, nxt, if_neg h0]
theorem am3_eq {V : Nat → Nat → Int32} {ag : Nat → Int32} {nP i d e : Nat} (h1 : (amt V ag nP i e).1 = (amt V ag nP i d).1) (h2 : (amt V ag nP i e).2.1 = (amt V ag nP i d).2.1) (h3 : (amt V ag nP i e).2.2.1 = (amt V ag nP i d).2.2.1) : am3 V ag nP i e = am3 V ag nP i d := by
  unfold am3
  rw [h1, h2, h3]
theorem am3_ne1 {V : Nat → Nat → Int32} {ag : Nat → Int32} {nP i d e : Nat} (h : ¬ (amt V ag nP i e).1 = (amt V ag nP i d).1) : ¬ am3 V ag nP i e = am3 V ag nP i d := fun q => h (congrArg (fun z => z.1) q)
theorem am3_ne2 {V : Nat → Nat → Int32} {ag : Nat → Int32} {nP i d e : Nat} (h : ¬ (amt V ag nP i e).2.1 = (amt V ag nP i d).2.1) : ¬ am3 V ag nP i e = am3 V ag nP i d := fun q => h (congrArg (fun z => z.2.1) q)
theorem am3_ne3 {V : Nat → Nat → Int32} {ag : Nat → Int32} {nP i d e : Nat} (h : ¬ (amt V ag nP i e).2.2.1 = (amt V ag nP i d).2.2.1) : ¬ am3 V ag nP i e = am3 V ag nP i d := fun q => h (congrArg (fun z => z.2.2) q)
set_option maxHeartbeats 4000000 in
set_option maxRecDepth 100000 in
theorem mt_nextChange {l : Launch} (hlf : l.stackTraces = false) {D : va_G} {tys : List (ClassId × FieldType)} {ad : Nat → Nat} (hI : aI ad 109) {cI cZ cH cP cT : ClassId} (V T : Nat → Nat → Int32) (ag : Nat → Int32) (nP nH rN : Nat) (nf pn : Int32) (sp sk : Int64) (py pd : Nat → Nat → Int32) (so en : Nat → Int32) (rA rC rI aA aC aH aT aP : Int32) (x dy : Int32) (hti : tys[0]? = some (cI, .int)) (htz : cZ = cI) (hth : tys[2]? = some (cH, .object RX1)) (htp : tys[3]? = some (cP, .object RX2)) (htt : tys[4]? = some (cT, .object RX4)) (hInv : Inv V T ag nP nH rN so pd)  (sz : Nat) : vx_Met l yX5_nextChange (Cond.code yX5_nextChange cX5_nextChange 7 (some .int) :: wsL_law) (rmk 6 8 48) (va_Pc [.ref (ad 0), .int x, .int dy] (PC D tys ad 109 (cE cI cZ cH cP cT ad V T ag nP nH rN nf pn sp sk py pd so en rA rC rI aA aC aH aT aP) sz)) (Qi D ad 109 (fun r E1 => (kNxt V ag nP nH x dy = 0 ∧ r = nI (nxD V ag nP (ix x) (ix dy))) ∧ CW cI cZ cH cP cT ad V T ag nP nH rN nf pn sp sk py pd E1) (cA ad 109 sz)) (Xx D ad 109 (fun Ex E1 => (Ex = xIOB ∧ kNxt V ag nP nH x dy = 1 ∨ Ex = xIAE ∧ kNxt V ag nP nH x dy = 2 ∨ Ex = xNSE ∧ kNxt V ag nP nH x dy = 3) ∧ CW cI cZ cH cP cT ad V T ag nP nH rN nf pn sp sk py pd E1) (cA ad 109 sz)) 8 48 (cA ad 109 sz) := by
  refine cx_of (own := RX5) (Qc := Qi D ad 109 (fun r E1 => (kNxt V ag nP nH x dy = 0 ∧ r = nI (nxD V ag nP (ix x) (ix dy))) ∧ CW cI cZ cH cP cT ad V T ag nP nH rN nf pn sp sk py pd E1)) (XC := Xx D ad 109 (fun Ex E1 => (Ex = xIOB ∧ kNxt V ag nP nH x dy = 1 ∨ Ex = xIAE ∧ kNxt V ag nP nH x dy = 2 ∨ Ex = xNSE ∧ kNxt V ag nP nH x dy = 3) ∧ CW cI cZ cH cP cT ad V T ag nP nH rN nf pn sp sk py pd E1)) rfl (by decide +kernel) (Nat.le_of_ble_eq_true rfl) ?_ sz
  intro p e s m args below meth c ls Q B hT hX hW hr hlk htb hl hS hA hQ
  have hx := B.1
  have hb := B.2.1
  have hl : lv_has ls 7 [(0, .ref (ad 0)), (1, .int x), (2, .int dy)] := hl
  obtain ⟨⟨hP8, hH4, hR12⟩, hTb, -, hso, -, -, hpd⟩ := id hInv
  have L_46 : ∀ (n_ : Nat) (i : Nat) (d : Nat) (dx : Nat) (rA1 : Int32) (rC1 : Int32) (rI1 : Int32) (aA1 : Int32) (aC1 : Int32) (aH1 : Int32) (aT1 : Int32) (aP1 : Int32), (hxi : x = nI i) → (hdd : dy = nI d) → (hi : i < nH) → (hd : d < 360) → (h1 : d < dx) → (h2 : dx ≤ 360) → (hn : 360 < n_ + dx) → (hpr : am3 V ag nP i (dx - 1) = am3 V ag nP i d) → (hnx : nxt (am3 V ag nP i) (am3 V ag nP i d) (360 - dx) dx = nxD V ag nP i d) → ∀ (H : Heap) (locs : List Loc) (ls : Array Slot), hH D ad 109 (cE cI cZ cH cP cT ad V T ag nP nH rN nf pn sp sk py pd so en rA1 rC1 rI1 aA1 aC1 aH1 aT1 aP1) H → va_S (cA ad 109 s.heap.size) s.heap H locs → lv_has ls 7 [(0, .ref (ad 0)), (1, .int (nI i)), (2, .int (nI d)), (3, .int ((amt V ag nP i d).1)), (4, .int ((amt V ag nP i d).2.1)), (5, .int ((amt V ag nP i d).2.2.1)), (6, .int (nI dx))] → W p l e (rmk 6 8 48) s m args below meth c H locs 2 12 Q (F0 m 46 ls []) := by
    intro n_
    induction n_ with
    | zero =>
      intro i d dx rA1 rC1 rI1 aA1 aC1 aH1 aT1 aP1 hxi hdd hi hd h1 h2 hn hpr hnx
      omega
    | succ n_ ih =>
      intro i d dx rA1 rC1 rI1 aA1 aC1 aH1 aT1 aP1 hxi hdd hi hd h1 h2 hn hpr hnx
      subst hxi
      subst hdd
      intro H locs ls hW hS hl
      refine lv_iload hx hb dX5_nextChange_46 (lv_at hl 6 rfl) ?_
      refine lv_sipush (v := (nI 360)) hx hb dX5_nextChange_48 (by decide) ?_
      refine lv_icmp_ge (tgt := 115) hx hb dX5_nextChange_51 (by decide) (fun c_51 => ?_) (fun c_51 => ?_)
      · skip
        exact b_throw hQ B hT hX hW hS hlf xf_NSE (List.mem_of_getElem? (i := 6) rfl) hl.1 dX5_nextChange_115 dX5_nextChange_118 dX5_nextChange_119 dX5_nextChange_121 dX5_nextChange_124 htb hlk (Nat.le_of_ble_eq_true rfl) (Nat.le_of_ble_eq_true rfl) (Nat.le_of_ble_eq_true rfl) (Nat.le_of_ble_eq_true rfl) (Nat.le_of_ble_eq_true rfl) (Nat.le_of_ble_eq_true rfl) (by have q2 : dx = 360 := Nat.le_antisymm h2 ((nI_leI (by omega) (by omega)).mp c_51); subst q2; have e9 : nxD V ag nP i d = 360 := (by rw [← hnx]; rfl); exact ⟨Or.inr (Or.inr (⟨rfl, by unfold kNxt; rw [cif_t (vp_in_nI hi (by omega)), cif_t (vp_in_nI hd (by omega)), ix_nI (by omega), ix_nI (by omega), e9, cif_f (by decide)]⟩)), CW.mk hInv⟩)
      · skip
        have q51 : dx < 360 := Nat.lt_of_not_le (fun q => c_51 ((nI_leI (by omega) (by omega)).mpr q))
        refine lv_aload_n hx hb dX5_nextChange_54 rfl (lv_at hl 0 rfl) ?_
        refine gfX5_27 B hT hW (by decide) cE_0 rfl dX5_nextChange_55 ?_
        refine lv_iload hx hb dX5_nextChange_58 (lv_at hl 6 rfl) ?_
        refine b_iald B hW hti (j := dx) (by decide) cE_4 (vp_in_nI (by omega) (Nat.le_of_ble_eq_true rfl)) (nI_clamp (by omega)) dX5_nextChange_60 ?_
        refine lv_if_le (tgt := 109) hx hb dX5_nextChange_61 (by decide) (fun c_61 => ?_) (fun c_61 => ?_)
        · skip
          refine lv_iinc (v := (nI (dx + 1))) (lv' := [(6, .int (nI (dx + 1))), (0, .ref (ad 0)), (1, .int (nI i)), (2, .int (nI d)), (3, .int ((amt V ag nP i d).1)), (4, .int ((amt V ag nP i d).2.1)), (5, .int ((amt V ag nP i d).2.2.1))]) hx hb dX5_nextChange_109 hl (k := 6) rfl (nI_1 dx) (by decide) rfl (fun ls hl => ?_)
          refine lv_goto (tgt := 46) hx hb dX5_nextChange_112 (by decide) ?_
          have he9 : am3 V ag nP i dx = am3 V ag nP i d := (by unfold am3; rw [Inv_amt hInv (by omega) (by omega) (by omega) c_61]; exact hpr)
          exact ih i d (dx + 1) rA1 rC1 rI1 aA1 aC1 aH1 aT1 aP1 rfl rfl hi hd (by omega) (by omega) (by omega) he9 (by rw [← nxt_s q51 he9]; exact hnx) _ _ _ hW hS (lv_sub hl [1, 2, 3, 4, 5, 6, 0] rfl)
        · skip
          refine lv_aload_n hx hb dX5_nextChange_64 rfl (lv_at hl 0 rfl) ?_
          refine lv_iload_n hx hb dX5_nextChange_65 rfl (lv_at hl 1 rfl) ?_
          refine lv_iload hx hb dX5_nextChange_66 (lv_at hl 6 rfl) ?_
          refine b_cv (b_runV B hT hX hW hS (As := [.int (nI i), .int (nI dx)]) (rest := []) (fun sz => mt_findAmt hI V T ag nP nH rN nf pn sp sk py pd so en rA1 rC1 rI1 aA1 aC1 aH1 aT1 aP1 i dx hti htz hth htp htt hP8 (by omega) (by omega) sz) (cwX5_183 B.2.2.2.2.1 ⟨Nat.le_of_ble_eq_true rfl, Nat.le_of_ble_eq_true rfl⟩) (b_recv B hW (by decide) cE_0 rfl) rfl hl.1 (Nat.le_of_ble_eq_true rfl) dX5_nextChange_68 ⟨Nat.le_of_ble_eq_true rfl, Nat.le_of_ble_eq_true rfl⟩) hS (fun E1 H locs hp_68 hW hS => ?_)
          have hW := hW.eq hp_68
          refine lv_aload_n hx hb dX5_nextChange_71 rfl (lv_at hl 0 rfl) ?_
          refine gfX5_41 B hT hW (by decide) cE_0 rfl dX5_nextChange_72 ?_
          refine gfX5_186 B hT hW (by decide) cE_6 rfl dX5_nextChange_75 ?_
          refine lv_iload_n hx hb dX5_nextChange_78 rfl (lv_at hl 3 rfl) ?_
          refine lv_icmp_ne (tgt := 106) hx hb dX5_nextChange_79 (by decide) (fun c_79 => ?_) (fun c_79 => ?_)
          · skip
            refine lv_iload hx hb dX5_nextChange_106 (lv_at hl 6 rfl) ?_
            exact x_i hQ B hr hlk hS hW dX5_nextChange_108 (Nat.le_of_ble_eq_true rfl) (Nat.le_of_ble_eq_true rfl) (by have e9 : nxD V ag nP i d = dx := (by rw [← hnx]; exact nxt_n q51 (am3_ne1 c_79)); rw [ix_nI (by omega), ix_nI (by omega), e9]; exact ⟨⟨by unfold kNxt; rw [cif_t (vp_in_nI hi (by omega)), cif_t (vp_in_nI hd (by omega)), ix_nI (by omega), ix_nI (by omega), e9, cif_t q51], rfl⟩, CW.mk hInv⟩)
          · skip
            refine lv_aload_n hx hb dX5_nextChange_82 rfl (lv_at hl 0 rfl) ?_
            refine gfX5_41 B hT hW (by decide) cE_0 rfl dX5_nextChange_83 ?_
            refine gfX5_189 B hT hW (by decide) cE_6 rfl dX5_nextChange_86 ?_
            refine lv_iload hx hb dX5_nextChange_89 (lv_at hl 4 rfl) ?_
            refine lv_icmp_ne (tgt := 106) hx hb dX5_nextChange_91 (by decide) (fun c_91 => ?_) (fun c_91 => ?_)
            · skip
              refine lv_iload hx hb dX5_nextChange_106 (lv_at hl 6 rfl) ?_
              exact x_i hQ B hr hlk hS hW dX5_nextChange_108 (Nat.le_of_ble_eq_true rfl) (Nat.le_of_ble_eq_true rfl) (by have e9 : nxD V ag nP i d = dx := (by rw [← hnx]; exact nxt_n q51 (am3_ne2 c_91)); rw [ix_nI (by omega), ix_nI (by omega), e9]; exact ⟨⟨by unfold kNxt; rw [cif_t (vp_in_nI hi (by omega)), cif_t (vp_in_nI hd (by omega)), ix_nI (by omega), ix_nI (by omega), e9, cif_t q51], rfl⟩, CW.mk hInv⟩)
            · skip
              refine lv_aload_n hx hb dX5_nextChange_94 rfl (lv_at hl 0 rfl) ?_
              refine gfX5_41 B hT hW (by decide) cE_0 rfl dX5_nextChange_95 ?_
              refine gfX5_192 B hT hW (by decide) cE_6 rfl dX5_nextChange_98 ?_
              refine lv_iload hx hb dX5_nextChange_101 (lv_at hl 5 rfl) ?_
              refine lv_icmp_eq (tgt := 109) hx hb dX5_nextChange_103 (by decide) (fun c_103 => ?_) (fun c_103 => ?_)
              · skip
                refine lv_iinc (v := (nI (dx + 1))) (lv' := [(6, .int (nI (dx + 1))), (0, .ref (ad 0)), (1, .int (nI i)), (2, .int (nI d)), (3, .int ((amt V ag nP i d).1)), (4, .int ((amt V ag nP i d).2.1)), (5, .int ((amt V ag nP i d).2.2.1))]) hx hb dX5_nextChange_109 hl (k := 6) rfl (nI_1 dx) (by decide) rfl (fun ls hl => ?_)
                refine lv_goto (tgt := 46) hx hb dX5_nextChange_112 (by decide) ?_
                have he9 : am3 V ag nP i dx = am3 V ag nP i d := (am3_eq c_79 c_91 c_103)
                exact ih i d (dx + 1) ((cnt V ag (nI i) dx nP).1) ((cnt V ag (nI i) dx nP).2.1) ((cnt V ag (nI i) dx nP).2.2) ((amt V ag nP i dx).1) ((amt V ag nP i dx).2.1) ((amt V ag nP i dx).2.2.1) ((amt V ag nP i dx).2.2.2.1) ((amt V ag nP i dx).2.2.2.2) rfl rfl hi hd (by omega) (by omega) (by omega) he9 (by rw [← nxt_s q51 he9]; exact hnx) _ _ _ hW hS (lv_sub hl [1, 2, 3, 4, 5, 6, 0] rfl)
              · skip
                refine lv_iload hx hb dX5_nextChange_106 (lv_at hl 6 rfl) ?_
                exact x_i hQ B hr hlk hS hW dX5_nextChange_108 (Nat.le_of_ble_eq_true rfl) (Nat.le_of_ble_eq_true rfl) (by have e9 : nxD V ag nP i d = dx := (by rw [← hnx]; exact nxt_n q51 (am3_ne3 c_103)); rw [ix_nI (by omega), ix_nI (by omega), e9]; exact ⟨⟨by unfold kNxt; rw [cif_t (vp_in_nI hi (by omega)), cif_t (vp_in_nI hd (by omega)), ix_nI (by omega), ix_nI (by omega), e9, cif_t q51], rfl⟩, CW.mk hInv⟩)
  refine lv_aload_n hx hb dX5_nextChange_0 rfl (lv_at hl 0 rfl) ?_
  refine lv_iload_n hx hb dX5_nextChange_1 rfl (lv_at hl 1 rfl) ?_
  refine b_xcv hQ (b_xrunV B hT hX hW hS (As := [.int x]) (rest := []) (fun sz => mt_reqHouse hlf hI V T ag nP nH rN nf pn sp sk py pd so en rA rC rI aA aC aH aT aP x hH4 sz) (cwX5_86 B.2.2.2.2.1 ⟨Nat.le_of_ble_eq_true rfl, Nat.le_of_ble_eq_true rfl⟩) (b_recv B hW (by decide) cE_0 rfl) rfl hl.1 (Nat.le_of_ble_eq_true rfl) dX5_nextChange_2 ⟨Nat.le_of_ble_eq_true rfl, Nat.le_of_ble_eq_true rfl⟩) hS htb hlk (Nat.le_of_ble_eq_true rfl) (Nat.le_of_ble_eq_true rfl) (fun Ex E1 h => ⟨Or.inl (⟨h.1, by unfold kNxt; rw [cif_f h.2.1]⟩), by rw [h.2.2]; exact CW.mk hInv⟩) (fun E1 H locs hp_2 hW hS => ?_)
  obtain ⟨hv_2, hE_⟩ := hp_2
  have hW := hW.eq hE_
  obtain ⟨i, hi, rfl⟩ := vp_in_of hv_2 (by omega)
  refine lv_iload_n hx hb dX5_nextChange_5 rfl (lv_at hl 2 rfl) ?_
  refine b_xcv hQ (b_xrunS B hT hX hW hS (As := [.int dy]) (rest := []) (fun sz => mt_reqDay hlf hI dy sz) (cwX5_89 B.2.2.2.2.1 ⟨Nat.le_of_ble_eq_true rfl, Nat.le_of_ble_eq_true rfl⟩) rfl hl.1 (Nat.le_of_ble_eq_true rfl) dX5_nextChange_6 ⟨Nat.le_of_ble_eq_true rfl, Nat.le_of_ble_eq_true rfl⟩) hS htb hlk (Nat.le_of_ble_eq_true rfl) (Nat.le_of_ble_eq_true rfl) (fun Ex E1 h => ⟨Or.inr (Or.inl (⟨h.1, by unfold kNxt; rw [cif_t (vp_in_nI hi (by omega)), cif_f h.2.1]⟩)), by rw [h.2.2]; exact CW.mk hInv⟩) (fun E1 H locs hp_6 hW hS => ?_)
  obtain ⟨hv_6, hE_⟩ := hp_6
  have hW := hW.eq hE_
  obtain ⟨d, hd, rfl⟩ := vp_in_of hv_6 (by omega)
  refine lv_aload_n hx hb dX5_nextChange_9 rfl (lv_at hl 0 rfl) ?_
  refine lv_iload_n hx hb dX5_nextChange_10 rfl (lv_at hl 1 rfl) ?_
  refine lv_iload_n hx hb dX5_nextChange_11 rfl (lv_at hl 2 rfl) ?_
  refine b_cv (b_runV B hT hX hW hS (As := [.int (nI i), .int (nI d)]) (rest := []) (fun sz => mt_findAmt hI V T ag nP nH rN nf pn sp sk py pd so en rA rC rI aA aC aH aT aP i d hti htz hth htp htt hP8 (by omega) (by omega) sz) (cwX5_183 B.2.2.2.2.1 ⟨Nat.le_of_ble_eq_true rfl, Nat.le_of_ble_eq_true rfl⟩) (b_recv B hW (by decide) cE_0 rfl) rfl hl.1 (Nat.le_of_ble_eq_true rfl) dX5_nextChange_12 ⟨Nat.le_of_ble_eq_true rfl, Nat.le_of_ble_eq_true rfl⟩) hS (fun E1 H locs hp_12 hW hS => ?_)
  have hW := hW.eq hp_12
  refine lv_aload_n hx hb dX5_nextChange_15 rfl (lv_at hl 0 rfl) ?_
  refine gfX5_41 B hT hW (by decide) cE_0 rfl dX5_nextChange_16 ?_
  refine gfX5_186 B hT hW (by decide) cE_6 rfl dX5_nextChange_19 ?_
  refine lv_istore_n (lv' := [(3, .int ((amt V ag nP i d).1)), (0, .ref (ad 0)), (1, .int (nI i)), (2, .int (nI d))]) hx hb dX5_nextChange_22 rfl hl (by decide) rfl (fun ls hl => ?_)
  refine lv_aload_n hx hb dX5_nextChange_23 rfl (lv_at hl 1 rfl) ?_
  refine gfX5_41 B hT hW (by decide) cE_0 rfl dX5_nextChange_24 ?_
  refine gfX5_189 B hT hW (by decide) cE_6 rfl dX5_nextChange_27 ?_
  refine lv_istore (lv' := [(4, .int ((amt V ag nP i d).2.1)), (3, .int ((amt V ag nP i d).1)), (0, .ref (ad 0)), (1, .int (nI i)), (2, .int (nI d))]) hx hb dX5_nextChange_30 hl (by decide) rfl (fun ls hl => ?_)
  refine lv_aload_n hx hb dX5_nextChange_32 rfl (lv_at hl 2 rfl) ?_
  refine gfX5_41 B hT hW (by decide) cE_0 rfl dX5_nextChange_33 ?_
  refine gfX5_192 B hT hW (by decide) cE_6 rfl dX5_nextChange_36 ?_
  refine lv_istore (lv' := [(5, .int ((amt V ag nP i d).2.2.1)), (4, .int ((amt V ag nP i d).2.1)), (3, .int ((amt V ag nP i d).1)), (0, .ref (ad 0)), (1, .int (nI i)), (2, .int (nI d))]) hx hb dX5_nextChange_39 hl (by decide) rfl (fun ls hl => ?_)
  refine lv_iload_n hx hb dX5_nextChange_41 rfl (lv_at hl 5 rfl) ?_
  refine lv_iconst (v := 1) hx hb dX5_nextChange_42 (by decide) ?_
  refine lv_iadd hx hb dX5_nextChange_43 ?_
  refine b_top (y := nI (d + 1)) (nI_1 d) ?_
  refine lv_istore (lv' := [(6, .int (nI (d + 1))), (5, .int ((amt V ag nP i d).2.2.1)), (4, .int ((amt V ag nP i d).2.1)), (3, .int ((amt V ag nP i d).1)), (0, .ref (ad 0)), (1, .int (nI i)), (2, .int (nI d))]) hx hb dX5_nextChange_44 hl (by decide) rfl (fun ls hl => ?_)
  exact L_46 361 i d (d + 1) ((cnt V ag (nI i) d nP).1) ((cnt V ag (nI i) d nP).2.1) ((cnt V ag (nI i) d nP).2.2) ((amt V ag nP i d).1) ((amt V ag nP i d).2.1) ((amt V ag nP i d).2.2.1) ((amt V ag nP i d).2.2.2.1) ((amt V ag nP i d).2.2.2.2) rfl rfl hi hd (by omega) (by omega) (by omega) rfl (by rw [nxD, show 360 - (d + 1) = 359 - d by omega]) _ _ _ hW hS (lv_sub hl [4, 5, 6, 3, 2, 1, 0] rfl)
set_option maxHeartbeats 4000000 in
set_option maxRecDepth 100000 in
theorem mt_paidMonths {l : Launch} {D : va_G} {tys : List (ClassId × FieldType)} {ad : Nat → Nat} (hI : aI ad 109) {cI cZ cH cP cT : ClassId} (V T : Nat → Nat → Int32) (ag : Nat → Int32) (nP nH rN : Nat) (nf pn : Int32) (sp sk : Int64) (py pd : Nat → Nat → Int32) (so en : Nat → Int32) (rA rC rI aA aC aH aT aP : Int32) (hti : tys[0]? = some (cI, .int)) (htz : cZ = cI) (hth : tys[2]? = some (cH, .object RX1)) (htp : tys[3]? = some (cP, .object RX2)) (htt : tys[4]? = some (cT, .object RX4)) (hInv : Inv V T ag nP nH rN so pd)  (sz : Nat) : Met l yX5_paidMonths (Cond.code yX5_paidMonths cX5_paidMonths 1 (some .int) :: wsL_law) (rmk 6 0 0) (va_Pc [.ref (ad 0)] (PC D tys ad 109 (cE cI cZ cH cP cT ad V T ag nP nH rN nf pn sp sk py pd so en rA rC rI aA aC aH aT aP) sz)) (Qi D ad 109 (fun r E1 => r = nI rN ∧ CW cI cZ cH cP cT ad V T ag nP nH rN nf pn sp sk py pd E1) (cA ad 109 sz)) 0 0 (cA ad 109 sz) := by
  refine cm_of (own := RX5) (Qc := Qi D ad 109 (fun r E1 => r = nI rN ∧ CW cI cZ cH cP cT ad V T ag nP nH rN nf pn sp sk py pd E1)) rfl (by decide +kernel) (Nat.le_of_ble_eq_true rfl) ?_ sz
  intro p e s m args below meth c ls Q B hT hX hW hr hlk hnm hl hS hA hQ
  have hx := B.1
  have hb := B.2.1
  have hl : lv_has ls 1 [(0, .ref (ad 0))] := hl
  obtain ⟨⟨hP8, hH4, hR12⟩, hTb, -, hso, -, -, hpd⟩ := id hInv
  refine lv_aload_n hx hb dX5_paidMonths_0 rfl (lv_at hl 0 rfl) ?_
  refine gfX5_131 B hT hW (by decide) cE_0 rfl dX5_paidMonths_1 ?_
  exact e_i hQ B hr hlk hS hW dX5_paidMonths_4 (Nat.le_of_ble_eq_true rfl) (Nat.le_of_ble_eq_true rfl) (⟨rfl, CW.mk hInv⟩)
set_option maxHeartbeats 4000000 in
set_option maxRecDepth 100000 in
theorem mt_totalPaid {l : Launch} {D : va_G} {tys : List (ClassId × FieldType)} {ad : Nat → Nat} (hI : aI ad 109) {cI cZ cH cP cT : ClassId} (V T : Nat → Nat → Int32) (ag : Nat → Int32) (nP nH rN : Nat) (nf pn : Int32) (sp sk : Int64) (py pd : Nat → Nat → Int32) (so en : Nat → Int32) (rA rC rI aA aC aH aT aP : Int32) (hti : tys[0]? = some (cI, .int)) (htz : cZ = cI) (hth : tys[2]? = some (cH, .object RX1)) (htp : tys[3]? = some (cP, .object RX2)) (htt : tys[4]? = some (cT, .object RX4)) (hInv : Inv V T ag nP nH rN so pd)  (sz : Nat) : Met l yX5_totalPaid (Cond.code yX5_totalPaid cX5_totalPaid 1 (some .long) :: wsL_law) (rmk 6 0 0) (va_Pc [.ref (ad 0)] (PC D tys ad 109 (cE cI cZ cH cP cT ad V T ag nP nH rN nf pn sp sk py pd so en rA rC rI aA aC aH aT aP) sz)) (Ql D ad 109 (fun r E1 => r = sp ∧ CW cI cZ cH cP cT ad V T ag nP nH rN nf pn sp sk py pd E1) (cA ad 109 sz)) 0 0 (cA ad 109 sz) := by
  refine cm_of (own := RX5) (Qc := Ql D ad 109 (fun r E1 => r = sp ∧ CW cI cZ cH cP cT ad V T ag nP nH rN nf pn sp sk py pd E1)) rfl (by decide +kernel) (Nat.le_of_ble_eq_true rfl) ?_ sz
  intro p e s m args below meth c ls Q B hT hX hW hr hlk hnm hl hS hA hQ
  have hx := B.1
  have hb := B.2.1
  have hl : lv_has ls 1 [(0, .ref (ad 0))] := hl
  obtain ⟨⟨hP8, hH4, hR12⟩, hTb, -, hso, -, -, hpd⟩ := id hInv
  refine lv_aload_n hx hb dX5_totalPaid_0 rfl (lv_at hl 0 rfl) ?_
  refine gfX5_143 B hT hW (by decide) cE_0 rfl dX5_totalPaid_1 ?_
  exact e_l hQ B hr hlk hS hW dX5_totalPaid_4 (Nat.le_of_ble_eq_true rfl) (Nat.le_of_ble_eq_true rfl) (⟨rfl, CW.mk hInv⟩)
set_option maxHeartbeats 4000000 in
set_option maxRecDepth 100000 in
theorem mt_keptBack {l : Launch} {D : va_G} {tys : List (ClassId × FieldType)} {ad : Nat → Nat} (hI : aI ad 109) {cI cZ cH cP cT : ClassId} (V T : Nat → Nat → Int32) (ag : Nat → Int32) (nP nH rN : Nat) (nf pn : Int32) (sp sk : Int64) (py pd : Nat → Nat → Int32) (so en : Nat → Int32) (rA rC rI aA aC aH aT aP : Int32) (hti : tys[0]? = some (cI, .int)) (htz : cZ = cI) (hth : tys[2]? = some (cH, .object RX1)) (htp : tys[3]? = some (cP, .object RX2)) (htt : tys[4]? = some (cT, .object RX4)) (hInv : Inv V T ag nP nH rN so pd)  (sz : Nat) : Met l yX5_keptBack (Cond.code yX5_keptBack cX5_keptBack 1 (some .long) :: wsL_law) (rmk 6 0 0) (va_Pc [.ref (ad 0)] (PC D tys ad 109 (cE cI cZ cH cP cT ad V T ag nP nH rN nf pn sp sk py pd so en rA rC rI aA aC aH aT aP) sz)) (Ql D ad 109 (fun r E1 => r = sk ∧ CW cI cZ cH cP cT ad V T ag nP nH rN nf pn sp sk py pd E1) (cA ad 109 sz)) 0 0 (cA ad 109 sz) := by
  refine cm_of (own := RX5) (Qc := Ql D ad 109 (fun r E1 => r = sk ∧ CW cI cZ cH cP cT ad V T ag nP nH rN nf pn sp sk py pd E1)) rfl (by decide +kernel) (Nat.le_of_ble_eq_true rfl) ?_ sz
  intro p e s m args below meth c ls Q B hT hX hW hr hlk hnm hl hS hA hQ
  have hx := B.1
  have hb := B.2.1
  have hl : lv_has ls 1 [(0, .ref (ad 0))] := hl
  obtain ⟨⟨hP8, hH4, hR12⟩, hTb, -, hso, -, -, hpd⟩ := id hInv
  refine lv_aload_n hx hb dX5_keptBack_0 rfl (lv_at hl 0 rfl) ?_
  refine gfX5_164 B hT hW (by decide) cE_0 rfl dX5_keptBack_1 ?_
  exact e_l hQ B hr hlk hS hW dX5_keptBack_4 (Nat.le_of_ble_eq_true rfl) (Nat.le_of_ble_eq_true rfl) (⟨rfl, CW.mk hInv⟩)
set_option maxHeartbeats 4000000 in
set_option maxRecDepth 100000 in
theorem mt_facts {l : Launch} {D : va_G} {tys : List (ClassId × FieldType)} {ad : Nat → Nat} (hI : aI ad 109) {cI cZ cH cP cT : ClassId} (V T : Nat → Nat → Int32) (ag : Nat → Int32) (nP nH rN : Nat) (nf pn : Int32) (sp sk : Int64) (py pd : Nat → Nat → Int32) (so en : Nat → Int32) (rA rC rI aA aC aH aT aP : Int32) (hti : tys[0]? = some (cI, .int)) (htz : cZ = cI) (hth : tys[2]? = some (cH, .object RX1)) (htp : tys[3]? = some (cP, .object RX2)) (htt : tys[4]? = some (cT, .object RX4)) (hInv : Inv V T ag nP nH rN so pd)  (sz : Nat) : Met l yX5_facts (Cond.code yX5_facts cX5_facts 1 (some .int) :: wsL_law) (rmk 6 0 0) (va_Pc [.ref (ad 0)] (PC D tys ad 109 (cE cI cZ cH cP cT ad V T ag nP nH rN nf pn sp sk py pd so en rA rC rI aA aC aH aT aP) sz)) (Qi D ad 109 (fun r E1 => r = nf ∧ CW cI cZ cH cP cT ad V T ag nP nH rN nf pn sp sk py pd E1) (cA ad 109 sz)) 0 0 (cA ad 109 sz) := by
  refine cm_of (own := RX5) (Qc := Qi D ad 109 (fun r E1 => r = nf ∧ CW cI cZ cH cP cT ad V T ag nP nH rN nf pn sp sk py pd E1)) rfl (by decide +kernel) (Nat.le_of_ble_eq_true rfl) ?_ sz
  intro p e s m args below meth c ls Q B hT hX hW hr hlk hnm hl hS hA hQ
  have hx := B.1
  have hb := B.2.1
  have hl : lv_has ls 1 [(0, .ref (ad 0))] := hl
  obtain ⟨⟨hP8, hH4, hR12⟩, hTb, -, hso, -, -, hpd⟩ := id hInv
  refine lv_aload_n hx hb dX5_facts_0 rfl (lv_at hl 0 rfl) ?_
  refine gfX5_208 B hT hW (by decide) cE_0 rfl dX5_facts_1 ?_
  exact e_i hQ B hr hlk hS hW dX5_facts_4 (Nat.le_of_ble_eq_true rfl) (Nat.le_of_ble_eq_true rfl) (⟨rfl, CW.mk hInv⟩)
noncomputable def kShare (sk sp : Int64) : Int32 := cif (sk + sp = 0) 1 0
noncomputable def kMean (pn : Int32) : Int32 := cif (pn = 0) 1 0
theorem n_share {k b : Int64} (h : b ≠ 0) : vf_n32 (FP.fdiv (FP.l2f k) (FP.l2f b)) := by
  refine Jvm.Free.Fl.noNaN32_no.mpr (FP.Core.fdiv_out ?_ (FP.Core.l2f_fin b) (fun q => FP.Core.l2f_ne_zero h ((FP.Core.zero_bits232 _).mp q)))
  rw [FP.Core.notNaN_iff32]
  exact (FP.Core.l2f_fin k).ne_nan
theorem n_mean {k : Int64} {b : Int32} (h : b ≠ 0) : vf_n64 (FP.ddiv (FP.l2d k) (FP.i2d b)) := by
  refine Jvm.Free.Fl.noNaN64_no.mpr (FP.Core.ddiv_out ?_ (FP.Core.i2d_fin b) (fun q => FP.Core.i2d_ne_zero h ((FP.Core.zero_bits2 _).mp q)))
  rw [FP.Core.notNaN_iff]
  exact (FP.Core.l2d_fin k).ne_nan
set_option maxHeartbeats 4000000 in
set_option maxRecDepth 100000 in
theorem mt_keptShare {l : Launch} (hlf : l.stackTraces = false) {D : va_G} {tys : List (ClassId × FieldType)} {ad : Nat → Nat} (hI : aI ad 109) {cI cZ cH cP cT : ClassId} (V T : Nat → Nat → Int32) (ag : Nat → Int32) (nP nH rN : Nat) (nf pn : Int32) (sp sk : Int64) (py pd : Nat → Nat → Int32) (so en : Nat → Int32) (rA rC rI aA aC aH aT aP : Int32) (hti : tys[0]? = some (cI, .int)) (htz : cZ = cI) (hth : tys[2]? = some (cH, .object RX1)) (htp : tys[3]? = some (cP, .object RX2)) (htt : tys[4]? = some (cT, .object RX4)) (hInv : Inv V T ag nP nH rN so pd)  (sz : Nat) : vx_Met l yX5_keptShare (Cond.code yX5_keptShare cX5_keptShare 3 (some .float) :: wsL_law) (rmk 6 8 48) (va_Pc [.ref (ad 0)] (PC D tys ad 109 (cE cI cZ cH cP cT ad V T ag nP nH rN nf pn sp sk py pd so en rA rC rI aA aC aH aT aP) sz)) (Qf D ad 109 (fun r E1 => (kShare sk sp = 0 ∧ r = FP.fdiv (FP.l2f sk) (FP.l2f (sk + sp))) ∧ CW cI cZ cH cP cT ad V T ag nP nH rN nf pn sp sk py pd E1) (cA ad 109 sz)) (Xx D ad 109 (fun Ex E1 => (Ex = xARE ∧ kShare sk sp = 1) ∧ CW cI cZ cH cP cT ad V T ag nP nH rN nf pn sp sk py pd E1) (cA ad 109 sz)) 8 48 (cA ad 109 sz) := by
  refine cx_of (own := RX5) (Qc := Qf D ad 109 (fun r E1 => (kShare sk sp = 0 ∧ r = FP.fdiv (FP.l2f sk) (FP.l2f (sk + sp))) ∧ CW cI cZ cH cP cT ad V T ag nP nH rN nf pn sp sk py pd E1)) (XC := Xx D ad 109 (fun Ex E1 => (Ex = xARE ∧ kShare sk sp = 1) ∧ CW cI cZ cH cP cT ad V T ag nP nH rN nf pn sp sk py pd E1)) rfl (by decide +kernel) (Nat.le_of_ble_eq_true rfl) ?_ sz
  intro p e s m args below meth c ls Q B hT hX hW hr hlk htb hl hS hA hQ
  have hx := B.1
  have hb := B.2.1
  have hl : lv_has ls 3 [(0, .ref (ad 0))] := hl
  obtain ⟨⟨hP8, hH4, hR12⟩, hTb, -, hso, -, -, hpd⟩ := id hInv
  refine lv_aload_n hx hb dX5_keptShare_0 rfl (lv_at hl 0 rfl) ?_
  refine gfX5_164 B hT hW (by decide) cE_0 rfl dX5_keptShare_1 ?_
  refine lv_aload_n hx hb dX5_keptShare_4 rfl (lv_at hl 0 rfl) ?_
  refine gfX5_143 B hT hW (by decide) cE_0 rfl dX5_keptShare_5 ?_
  refine lv_ladd hx hb dX5_keptShare_8 ?_
  refine lv_lstore_n (lv' := [(1, .long (sk + sp)), (0, .ref (ad 0))]) hx hb dX5_keptShare_9 rfl hl (by decide) rfl (fun ls hl => ?_)
  refine lv_lload_n hx hb dX5_keptShare_10 rfl (lv_at hl 0 rfl) ?_
  refine lv_lconst (v := 0) hx hb dX5_keptShare_11 (by decide) ?_
  refine b_lcmp hx hb dX5_keptShare_12 ?_
  refine lv_if_ne (tgt := 26) hx hb dX5_keptShare_13 (by decide) (fun c_13 => ?_) (fun c_13 => ?_)
  · skip
    have hne : sk + sp ≠ 0 := fun q => c_13 (lcm_0.mpr q)
    refine lv_aload_n hx hb dX5_keptShare_26 rfl (lv_at hl 1 rfl) ?_
    refine gfX5_164 B hT hW (by decide) cE_0 rfl dX5_keptShare_27 ?_
    refine lv_l2f hx hb dX5_keptShare_30 ?_
    refine lv_lload_n hx hb dX5_keptShare_31 rfl (lv_at hl 0 rfl) ?_
    refine lv_l2f hx hb dX5_keptShare_32 ?_
    refine lv_fdiv hx hb dX5_keptShare_33 (n_share hne) ?_
    exact x_f hQ B hr hlk hS hW dX5_keptShare_34 (Nat.le_of_ble_eq_true rfl) (Nat.le_of_ble_eq_true rfl) (⟨⟨by unfold kShare; rw [cif_f hne], rfl⟩, CW.mk hInv⟩)
  · skip
    exact b_throw hQ B hT hX hW hS hlf xf_ARE (List.mem_of_getElem? (i := 7) rfl) hl.1 dX5_keptShare_16 dX5_keptShare_19 dX5_keptShare_20 dX5_keptShare_22 dX5_keptShare_25 htb hlk (Nat.le_of_ble_eq_true rfl) (Nat.le_of_ble_eq_true rfl) (Nat.le_of_ble_eq_true rfl) (Nat.le_of_ble_eq_true rfl) (Nat.le_of_ble_eq_true rfl) (Nat.le_of_ble_eq_true rfl) (⟨⟨rfl, by unfold kShare; rw [cif_t (lcm_0.mp c_13)]⟩, CW.mk hInv⟩)
set_option maxHeartbeats 4000000 in
set_option maxRecDepth 100000 in
theorem mt_meanPayment {l : Launch} (hlf : l.stackTraces = false) {D : va_G} {tys : List (ClassId × FieldType)} {ad : Nat → Nat} (hI : aI ad 109) {cI cZ cH cP cT : ClassId} (V T : Nat → Nat → Int32) (ag : Nat → Int32) (nP nH rN : Nat) (nf pn : Int32) (sp sk : Int64) (py pd : Nat → Nat → Int32) (so en : Nat → Int32) (rA rC rI aA aC aH aT aP : Int32) (hti : tys[0]? = some (cI, .int)) (htz : cZ = cI) (hth : tys[2]? = some (cH, .object RX1)) (htp : tys[3]? = some (cP, .object RX2)) (htt : tys[4]? = some (cT, .object RX4)) (hInv : Inv V T ag nP nH rN so pd)  (sz : Nat) : vx_Met l yX5_meanPayment (Cond.code yX5_meanPayment cX5_meanPayment 1 (some .double) :: wsL_law) (rmk 6 8 48) (va_Pc [.ref (ad 0)] (PC D tys ad 109 (cE cI cZ cH cP cT ad V T ag nP nH rN nf pn sp sk py pd so en rA rC rI aA aC aH aT aP) sz)) (Qd D ad 109 (fun r E1 => (kMean pn = 0 ∧ r = FP.ddiv (FP.l2d sp) (FP.i2d pn)) ∧ CW cI cZ cH cP cT ad V T ag nP nH rN nf pn sp sk py pd E1) (cA ad 109 sz)) (Xx D ad 109 (fun Ex E1 => (Ex = xARE ∧ kMean pn = 1) ∧ CW cI cZ cH cP cT ad V T ag nP nH rN nf pn sp sk py pd E1) (cA ad 109 sz)) 8 48 (cA ad 109 sz) := by
  refine cx_of (own := RX5) (Qc := Qd D ad 109 (fun r E1 => (kMean pn = 0 ∧ r = FP.ddiv (FP.l2d sp) (FP.i2d pn)) ∧ CW cI cZ cH cP cT ad V T ag nP nH rN nf pn sp sk py pd E1)) (XC := Xx D ad 109 (fun Ex E1 => (Ex = xARE ∧ kMean pn = 1) ∧ CW cI cZ cH cP cT ad V T ag nP nH rN nf pn sp sk py pd E1)) rfl (by decide +kernel) (Nat.le_of_ble_eq_true rfl) ?_ sz
  intro p e s m args below meth c ls Q B hT hX hW hr hlk htb hl hS hA hQ
  have hx := B.1
  have hb := B.2.1
  have hl : lv_has ls 1 [(0, .ref (ad 0))] := hl
  obtain ⟨⟨hP8, hH4, hR12⟩, hTb, -, hso, -, -, hpd⟩ := id hInv
  refine lv_aload_n hx hb dX5_meanPayment_0 rfl (lv_at hl 0 rfl) ?_
  refine gfX5_140 B hT hW (by decide) cE_0 rfl dX5_meanPayment_1 ?_
  refine lv_if_ne (tgt := 17) hx hb dX5_meanPayment_4 (by decide) (fun c_4 => ?_) (fun c_4 => ?_)
  · skip
    refine lv_aload_n hx hb dX5_meanPayment_17 rfl (lv_at hl 0 rfl) ?_
    refine gfX5_143 B hT hW (by decide) cE_0 rfl dX5_meanPayment_18 ?_
    refine lv_l2d hx hb dX5_meanPayment_21 ?_
    refine lv_aload_n hx hb dX5_meanPayment_22 rfl (lv_at hl 0 rfl) ?_
    refine gfX5_140 B hT hW (by decide) cE_0 rfl dX5_meanPayment_23 ?_
    refine lv_i2d hx hb dX5_meanPayment_26 ?_
    refine lv_ddiv hx hb dX5_meanPayment_27 (n_mean c_4) ?_
    exact x_d hQ B hr hlk hS hW dX5_meanPayment_28 (Nat.le_of_ble_eq_true rfl) (Nat.le_of_ble_eq_true rfl) (⟨⟨by unfold kMean; rw [cif_f c_4], rfl⟩, CW.mk hInv⟩)
  · skip
    exact b_throw hQ B hT hX hW hS hlf xf_ARE (List.mem_of_getElem? (i := 8) rfl) hl.1 dX5_meanPayment_7 dX5_meanPayment_10 dX5_meanPayment_11 dX5_meanPayment_13 dX5_meanPayment_16 htb hlk (Nat.le_of_ble_eq_true rfl) (Nat.le_of_ble_eq_true rfl) (Nat.le_of_ble_eq_true rfl) (Nat.le_of_ble_eq_true rfl) (Nat.le_of_ble_eq_true rfl) (Nat.le_of_ble_eq_true rfl) (⟨⟨rfl, by unfold kMean; rw [cif_t c_4]⟩, CW.mk hInv⟩)
