theorem gfX6_145 {p : Program} {l : Launch} {e : Env} {R : Room} {s : State} {m : MethodId} {args : Array Value} {below : List Frame} {meth : Method} {c : Code} {H : Heap} {locs : List Loc} {cells slots : Nat} {Q : State → Prop} {cc : ByteArray} {pc nL : Nat} {ls : Array Slot} {rest : List Value} {D : va_G} {tys : List (ClassId × FieldType)} {ad : Nat → Nat} {N : Nat} {E : Nat → va_E} {k : Nat} {fs : List Value} {v : Value} (B : MB p c cc nL RX6 s m args D tys) (hT : TX s) (hW : hH D ad N E H) (hk : k < N) (he : E k = .inr (6, fs)) (hv : fs[3]? = some v) (hdg : decode cc pc = .ok (.getfield 145, 3)) (kk : W p l e R s m args below meth c H locs cells slots Q (F0 m (pc + 3) ls (v :: rest))) : W p l e R s m args below meth c H locs cells slots Q (F0 m pc ls (.ref (ad k) :: rest)) :=
  b_get B hW inlX6 rfl 3 (by decide) (r17_in _ (List.mem_of_getElem? (i := 8) rfl)) rfl hk he hv hdg kk
theorem gfX6_151 {p : Program} {l : Launch} {e : Env} {R : Room} {s : State} {m : MethodId} {args : Array Value} {below : List Frame} {meth : Method} {c : Code} {H : Heap} {locs : List Loc} {cells slots : Nat} {Q : State → Prop} {cc : ByteArray} {pc nL : Nat} {ls : Array Slot} {rest : List Value} {D : va_G} {tys : List (ClassId × FieldType)} {ad : Nat → Nat} {N : Nat} {E : Nat → va_E} {k : Nat} {fs : List Value} {v : Value} (B : MB p c cc nL RX6 s m args D tys) (hT : TX s) (hW : hH D ad N E H) (hk : k < N) (he : E k = .inr (6, fs)) (hv : fs[7]? = some v) (hdg : decode cc pc = .ok (.getfield 151, 3)) (kk : W p l e R s m args below meth c H locs cells slots Q (F0 m (pc + 3) ls (v :: rest))) : W p l e R s m args below meth c H locs cells slots Q (F0 m pc ls (.ref (ad k) :: rest)) :=
  b_get B hW inlX6 rfl 7 (by decide) (r17_in _ (List.mem_of_getElem? (i := 15) rfl)) rfl hk he hv hdg kk
theorem pfX6_151 {p : Program} {l : Launch} {e : Env} {R : Room} {s : State} {m : MethodId} {args : Array Value} {below : List Frame} {meth : Method} {c : Code} {H : Heap} {locs : List Loc} {cells slots : Nat} {Q : State → Prop} {cc : ByteArray} {pc nL : Nat} {ls : Array Slot} {rest : List Value} {D : va_G} {tys : List (ClassId × FieldType)} {ad : Nat → Nat} {N : Nat} {E : Nat → va_E} {k : Nat} {fs : List Value} {v : Value} {A : Nat → Prop} {H0 : Heap} (B : MB p c cc nL RX6 s m args D tys) (hT : TX s) (hI : aI ad N) (hA : ∀ k : Nat, k < N → A (ad k)) (hW : hH D ad N E H) (hS : va_S A H0 H locs) (hk : k < N) (he : E k = .inr (6, fs)) (hl : 7 < fs.length) (hn : narrow .long v = v) (hfit : fits .long v = true) (hdg : decode cc pc = .ok (.putfield 151, 3)) (kk : ∀ (H1 : Heap) (locs1 : List Loc), hH D ad N (va_up E k (.inr (6, fs.set 7 v))) H1 → va_S A H0 H1 locs1 → W p l e R s m args below meth c H1 locs1 cells slots Q (F0 m (pc + 3) ls rest)) : W p l e R s m args below meth c H locs cells slots Q (F0 m pc ls (v :: .ref (ad k) :: rest)) :=
  b_put B hI hA hW hS inlX6 tyX6 tyX6_ok nmX6 rfl 7 (by decide) (r17_in _ (List.mem_of_getElem? (i := 15) rfl)) rfl rfl (by decide +kernel) hk he hl hn hfit hdg kk
theorem gfX6_48 {p : Program} {l : Launch} {e : Env} {R : Room} {s : State} {m : MethodId} {args : Array Value} {below : List Frame} {meth : Method} {c : Code} {H : Heap} {locs : List Loc} {cells slots : Nat} {Q : State → Prop} {cc : ByteArray} {pc nL : Nat} {ls : Array Slot} {rest : List Value} {D : va_G} {tys : List (ClassId × FieldType)} {ad : Nat → Nat} {N : Nat} {E : Nat → va_E} {k : Nat} {fs : List Value} {v : Value} (B : MB p c cc nL RX6 s m args D tys) (hT : TX s) (hW : hH D ad N E H) (hk : k < N) (he : E k = .inr (6, fs)) (hv : fs[19]? = some v) (hdg : decode cc pc = .ok (.getfield 48, 3)) (kk : W p l e R s m args below meth c H locs cells slots Q (F0 m (pc + 3) ls (v :: rest))) : W p l e R s m args below meth c H locs cells slots Q (F0 m pc ls (.ref (ad k) :: rest)) :=
  b_get B hW inlX6 rfl 19 (by decide) (r5_in _ (List.mem_of_getElem? (i := 16) rfl)) rfl hk he hv hdg kk
theorem gfX6_42 {p : Program} {l : Launch} {e : Env} {R : Room} {s : State} {m : MethodId} {args : Array Value} {below : List Frame} {meth : Method} {c : Code} {H : Heap} {locs : List Loc} {cells slots : Nat} {Q : State → Prop} {cc : ByteArray} {pc nL : Nat} {ls : Array Slot} {rest : List Value} {D : va_G} {tys : List (ClassId × FieldType)} {ad : Nat → Nat} {N : Nat} {E : Nat → va_E} {k : Nat} {fs : List Value} {v : Value} (B : MB p c cc nL RX6 s m args D tys) (hT : TX s) (hW : hH D ad N E H) (hk : k < N) (he : E k = .inr (6, fs)) (hv : fs[17]? = some v) (hdg : decode cc pc = .ok (.getfield 42, 3)) (kk : W p l e R s m args below meth c H locs cells slots Q (F0 m (pc + 3) ls (v :: rest))) : W p l e R s m args below meth c H locs cells slots Q (F0 m pc ls (.ref (ad k) :: rest)) :=
  b_get B hW inlX6 rfl 17 (by decide) (r5_in _ (List.mem_of_getElem? (i := 14) rfl)) rfl hk he hv hdg kk
theorem cwX6_148 {R : Room} {s : State} {args : Array Value} {rm : Room} (hts : ∀ w ∈ wsL_law, w.before args s = true) (hR : rm.frames + 1 ≤ R.frames ∧ 8 + (5 + 11) + rm.locals ≤ R.locals) : CWV R s args RX6 RX6 148 yX6_sumOf cX6_sumOf 5 (some .int) rm rm.cells rm.slots 2 :=
  cwV 2 hts (gi_V (r17_in _ (List.mem_of_getElem? (i := 16) rfl)) (r17_in _ (List.mem_of_getElem? (i := 17) rfl)) (r17_in _ (List.mem_of_getElem? (i := 18) rfl)) (r1_in _ (List.mem_of_getElem? (i := 5) rfl)) (r17_in _ (List.mem_of_getElem? (i := 19) rfl))) rfl rfl rfl (by decide +kernel) hR
theorem gap_st {f u : Nat → Int32} {g x : Int32} {i : Nat} (hf : ∀ j, j < 12 → bd (f j) 100000000) (hu : ∀ j, j < 12 → bd (u j) 100000) (hi : i < 12) (hg : g.toInt = gap f u i) (hx : x.toInt = exc f u i) : (u i - f i ≤ 0 → (g + 0).toInt = gap f u (i + 1)) ∧ (¬ u i - f i ≤ 0 → (g + (u i - f i)).toInt = gap f u (i + 1)) ∧ (0 ≤ u i - f i → (x + 0).toInt = exc f u (i + 1)) ∧ (¬ 0 ≤ u i - f i → (x + -(u i - f i)).toInt = exc f u (i + 1)) := by
  obtain ⟨⟨a1, a2⟩, ⟨a3, a4⟩⟩ := gap_bd hf hu i (by omega)
  obtain ⟨f1, f2⟩ := hf i hi
  obtain ⟨u1, u2⟩ := hu i hi
  have es := i_sub u1 f1
  have en : (-(u i - f i)).toInt = (f i).toInt - (u i).toInt := by rw [fb_negI (by omega), es]; omega
  have l1 : ∀ {y : Int32}, y ≤ 0 ↔ y.toInt ≤ 0 := fun {y} => by rw [fa_le, i32_0]
  have l2 : ∀ {y : Int32}, 0 ≤ y ↔ 0 ≤ y.toInt := fun {y} => by rw [fa_le, i32_0]
  refine ⟨fun h => ?_, fun h => ?_, fun h => ?_, fun h => ?_⟩
  · rw [l1, es] at h
    rw [Int32.add_zero, gap, if_neg (by omega), hg]; omega
  · rw [l1, es] at h
    rw [fb_addI (by omega) (by omega), es, gap, if_pos (by omega), hg]
  · rw [l2, es] at h
    rw [Int32.add_zero, exc, hx]
    by_cases q : (f i).toInt < (u i).toInt
    · rw [if_pos q]; omega
    · rw [if_neg q]; omega
  · rw [l2, es] at h
    rw [fb_addI (by omega) (by omega), en, exc, if_neg (by omega), hx]
theorem pay_eq {D g x s : Int32} (hD : bd D 100000) (g1 : 0 ≤ g.toInt) (g2 : g.toInt ≤ 1200000) (x1 : 0 ≤ x.toInt) (x2 : x.toInt ≤ 1200000000) (hs : s.toInt = x.toInt - g.toInt) : D + g - x = D - s := by
  obtain ⟨d1, d2⟩ := hD
  have e1 : (D + g).toInt = D.toInt + g.toInt := fb_addI (by omega) (by omega)
  rw [fa_eq, fb_subI (by omega) (by omega), fb_subI (by omega) (by omega), e1]
  omega
def rowM (f u : Nat → Int32) (k : Int32) (mo n : Nat) : Nat → Int32 := fun j => if j < n then (sip2 (sip1 f u k mo).2 u (sip1 f u k mo).1 n).2 j else f j
def lftM (f u : Nat → Int32) (k : Int32) (mo n : Nat) : Int32 := (sip2 (sip1 f u k mo).2 u (sip1 f u k mo).1 n).1
theorem rowM_0 {f u : Nat → Int32} {k : Int32} {mo : Nat} : rowM f u k mo 0 = f := by
  funext j
  unfold rowM
  rw [if_neg (Nat.not_lt_zero j)]
theorem rowM_n {f u : Nat → Int32} {k : Int32} {mo n : Nat} : rowM f u k mo n n = f n := if_neg (Nat.lt_irrefl n)
theorem imin_0 {x : Int32} (h : 0 ≤ x.toInt) : imin x 0 = 0 := by rw [fa_eq, i_min, i32_0]; omega
theorem lft_nn {f u : Nat → Int32} {k : Int32} {mo n : Nat} (hf : ∀ j, j < 12 → bd (f j) 100000000) (hu : ∀ j, j < 12 → bd (u j) 100000) (hk : bd k 100000) (hm : mo < 12) (hn : n ≤ mo) : 0 ≤ (lftM f u k mo n).toInt ∧ (sip2 (sip1 f u k mo).2 u (sip1 f u k mo).1 n).2 n = (sip1 f u k mo).2 n := by
  obtain ⟨s1, s2⟩ := sip1_le hf hu hk (mo := mo) (by omega)
  have hl := (sip1_spec hf hu hk mo (by omega)).1
  obtain ⟨⟨g1, g2⟩, _⟩ := gap_bd hf hu mo (by omega)
  obtain ⟨k1, k2⟩ := id hk
  have z := sip2_spec (f := (sip1 f u k mo).2) (u := u) (l := (sip1 f u k mo).1) s1 hu (by omega) mo (by omega) s2 n hn
  exact ⟨z.1, z.2.1 n (Nat.le_refl n)⟩
theorem row_step {f u : Nat → Int32} {k : Int32} {mo n : Nat} (hf : ∀ j, j < 12 → bd (f j) 100000000) (hu : ∀ j, j < 12 → bd (u j) 100000) (hk : bd k 100000) (hm : mo < 12) (hn : n < mo) : rowM f u k mo (n + 1) = upd (rowM f u k mo n) n ((sip1 f u k mo).2 n - imin (lftM f u k mo n) ((sip1 f u k mo).2 n - u n)) ∧ lftM f u k mo (n + 1) = lftM f u k mo n - imin (lftM f u k mo n) ((sip1 f u k mo).2 n - u n) := by
  obtain ⟨z1, z2⟩ := lft_nn (n := n) hf hu hk hm (by omega)
  refine ⟨?_, ?_⟩
  · funext j
    unfold rowM
    rw [sip2, z2]
    by_cases hj : j = n
    · subst hj
      rw [if_pos (by omega), pk_us]
      show upd _ j _ j = _
      rw [pk_us]
      rfl
    · rw [pk_un hj]
      by_cases hj2 : j < n
      · rw [if_pos (by omega), if_pos hj2]
        show upd _ n _ j = _
        rw [pk_un hj]
      · rw [if_neg (by omega), if_neg hj2]
  · show (sip2 (sip1 f u k mo).2 u (sip1 f u k mo).1 (n + 1)).1 = _
    rw [sip2, z2]
    rfl
theorem row_less {f u : Nat → Int32} {k : Int32} {mo n : Nat} (hf : ∀ j, j < 12 → bd (f j) 100000000) (hu : ∀ j, j < 12 → bd (u j) 100000) (hk : bd k 100000) (hm : mo < 12) (hn : n < mo) (h : f n < u n ∨ f n = u n) : upd (rowM f u k mo n) n (u n) = rowM f u k mo (n + 1) ∧ lftM f u k mo n = lftM f u k mo (n + 1) := by
  obtain ⟨z1, z2⟩ := lft_nn (n := n) hf hu hk hm (by omega)
  obtain ⟨r1, r2⟩ := row_step (n := n) hf hu hk hm hn
  have e : (sip1 f u k mo).2 n = u n := by
    rw [(sip1_spec hf hu hk mo (by omega)).2]
    by_cases q : n < mo ∧ f n < u n
    · rw [if_pos q]
    · rw [if_neg q]
      exact h.elim (fun z => absurd ⟨hn, z⟩ q) id
  rw [e, Int32.sub_self, imin_0 z1, Int32.sub_zero] at r1
  rw [e, Int32.sub_self, imin_0 z1, Int32.sub_zero] at r2
  exact ⟨r1.symm, r2.symm⟩
theorem row_more {f u : Nat → Int32} {k : Int32} {mo n : Nat} (hf : ∀ j, j < 12 → bd (f j) 100000000) (hu : ∀ j, j < 12 → bd (u j) 100000) (hk : bd k 100000) (hm : mo < 12) (hn : n < mo) (h : ¬ f n < u n) : upd (rowM f u k mo n) n (f n - imin (f n - u n) (lftM f u k mo n)) = rowM f u k mo (n + 1) ∧ lftM f u k mo n - imin (f n - u n) (lftM f u k mo n) = lftM f u k mo (n + 1) := by
  obtain ⟨r1, r2⟩ := row_step (n := n) hf hu hk hm hn
  have e : (sip1 f u k mo).2 n = f n := by
    rw [(sip1_spec hf hu hk mo (by omega)).2, if_neg (fun q => h q.2)]
  rw [e, imin_c] at r1
  rw [e, imin_c] at r2
  exact ⟨r1.symm, r2.symm⟩
theorem row_end {f u : Nat → Int32} {k : Int32} {mo : Nat} (hf : ∀ j, j < 12 → bd (f j) 100000000) (hu : ∀ j, j < 12 → bd (u j) 100000) (hk : bd k 100000) (hm : mo < 12) : upd (rowM f u k mo mo) mo (u mo) = sipF f u mo k := by
  obtain ⟨s1, s2⟩ := sip1_le hf hu hk (mo := mo) (by omega)
  have hl := (sip1_spec hf hu hk mo (by omega)).1
  obtain ⟨⟨g1, g2⟩, _⟩ := gap_bd hf hu mo (by omega)
  obtain ⟨k1, k2⟩ := id hk
  have z := sip2_spec (f := (sip1 f u k mo).2) (u := u) (l := (sip1 f u k mo).1) s1 hu (by omega) mo (by omega) s2 mo (Nat.le_refl mo)
  unfold sipF
  funext j
  by_cases hj : j = mo
  · subst hj; rw [pk_us, pk_us]
  · rw [pk_un hj, pk_un hj]
    unfold rowM
    by_cases hj2 : j < mo
    · rw [if_pos hj2]
    · rw [if_neg hj2, z.2.1 j (by omega), (sip1_spec hf hu hk mo (by omega)).2, if_neg (by omega)]
theorem lft_0 {f u : Nat → Int32} {k : Int32} {mo : Nat} (hf : ∀ j, j < 12 → bd (f j) 100000000) (hu : ∀ j, j < 12 → bd (u j) 100000) (hk : bd k 100000) (hm : mo < 12) {b : Int32} (hb : b.toInt = gap f u mo + k.toInt) : b = lftM f u k mo 0 := by
  have hl := (sip1_spec hf hu hk mo (by omega)).1
  rw [fa_eq]
  show _ = (sip1 f u k mo).1.toInt
  rw [hl]
  omega
theorem sub_0 {x y : Int32} (h : x - y = 0) : x = y := by
  have := congrArg (fun z => z + y) h
  simpa [Int32.sub_add_cancel] using this
set_option maxHeartbeats 4000000 in
set_option maxRecDepth 100000 in
theorem mm_hands {l : Launch} {D : va_G} {tys : List (ClassId × FieldType)} {ad : Nat → Nat} (hI : aI ad 13) {cI cZ : ClassId} (th : Int32) (nP nH rN : Nat) (nf pn : Int32) (sp sk : Int64) (ag : Nat → Int32) (V T : Nat → Nat → Int32) (pd py : Nat → Nat → Int32) (du : Nat → Int32) (mA mC mH mG mS mI mT mP : Int32) (h : Nat) (so : Nat → Int32) (hti : tys[0]? = some (cI, .int)) (htz : tys[1]? = some (cZ, .boolean)) (hInv : Inv V T ag nP nH rN so pd) (hh : h < 4) (hr12 : rN < 12) (sz : Nat) : Met l yX6_hands (Cond.code yX6_hands cX6_hands 10 (some .int) :: wsL_law) (rmk 4 0 0) (va_Pc [.ref (ad 0), .int (nI h)] (PC D tys ad 13 (mE cI cZ ad th nP nH rN nf pn sp sk ag (RV V) (RV T) (FL pd) (FL py) du mA mC mH mG mS mI mT mP) sz)) (Qi D ad 13 (fun r E1 => r = payP (due V ag nP h) (pd h) rN ∧ ∃ du1 mA1 mC1 mH1 mG1 mS1 mI1 mT1 mP1, E1 = mE cI cZ ad th nP nH rN nf pn sp (payK (due V ag nP h) (pd h) rN sk) ag (RV V) (RV T) (FL (upd2 pd h (payD (due V ag nP h) (pd h) rN))) (FL py) du1 mA1 mC1 mH1 mG1 mS1 mI1 mT1 mP1) (cA ad 13 sz)) 0 0 (cA ad 13 sz) := by
  refine cm_of (own := RX6) (Qc := Qi D ad 13 (fun r E1 => r = payP (due V ag nP h) (pd h) rN ∧ ∃ du1 mA1 mC1 mH1 mG1 mS1 mI1 mT1 mP1, E1 = mE cI cZ ad th nP nH rN nf pn sp (payK (due V ag nP h) (pd h) rN sk) ag (RV V) (RV T) (FL (upd2 pd h (payD (due V ag nP h) (pd h) rN))) (FL py) du1 mA1 mC1 mH1 mG1 mS1 mI1 mT1 mP1)) rfl (by decide +kernel) (Nat.le_of_ble_eq_true rfl) ?_ sz
  intro p e s m args below meth c ls Q B hT hX hW hr hlk hnm hl hS hA hQ
  have hx := B.1
  have hb := B.2.1
  have hl : lv_has ls 10 [(0, .ref (ad 0)), (1, .int (nI h))] := hl
  have hfp : ∀ j, j < 12 → bd (pd h j) 100000000 := fun j hj => hInv.2.2.2.2.2.2 h hh j hj
  have hup : ∀ j, j < 12 → bd (due V ag nP h j) 100000 := fun j hj => due_bd hInv hh hj
  have L_189 : ∀ (n_ : Nat) (i : Nat) (gg : Int32) (xx : Int32) (f1 : Nat → Int32) (bk : Int32) (mA1 : Int32) (mC1 : Int32) (mH1 : Int32) (mG1 : Int32) (mS1 : Int32) (mI1 : Int32) (mT1 : Int32) (mP1 : Int32), (hi : i ≤ rN + 1) → (hn : rN + 1 < n_ + i) → (hds : (dsum (pd h) (due V ag nP h) rN).toInt = xx.toInt - gg.toInt) → (hle : ¬ (dsum (pd h) (due V ag nP h) rN) ≤ 0) → (hkb : bd (imin (dsum (pd h) (due V ag nP h) rN) ((due V ag nP h) rN / 5)) 100000) → (hlo : i ≤ rN → f1 = rowM (pd h) (due V ag nP h) (imin (dsum (pd h) (due V ag nP h) rN) ((due V ag nP h) rN / 5)) rN i ∧ bk = lftM (pd h) (due V ag nP h) (imin (dsum (pd h) (due V ag nP h) rN) ((due V ag nP h) rN / 5)) rN i) → (hhi : i = rN + 1 → f1 = sipF (pd h) (due V ag nP h) rN (imin (dsum (pd h) (due V ag nP h) rN) ((due V ag nP h) rN / 5))) → ∀ (H : Heap) (locs : List Loc) (ls : Array Slot), hH D ad 13 (mE cI cZ ad th nP nH rN nf pn sp sk ag (RV V) (RV T) (FL (upd2 pd h f1)) (FL py) (sett du (due V ag nP h) (rN + 1)) mA1 mC1 mH1 mG1 mS1 mI1 mT1 mP1) H → va_S (cA ad 13 s.heap.size) s.heap H locs → lv_has ls 10 [(0, .ref (ad 0)), (1, .int (nI h)), (2, .int gg), (3, .int xx), (4, .int (imin (dsum (pd h) (due V ag nP h) rN) ((due V ag nP h) rN / 5))), (5, .int bk), (6, .int (nI i))] → W p l e (rmk 4 0 0) s m args below meth c H locs 0 0 Q (F0 m 189 ls []) := by
    intro n_
    induction n_ with
    | zero =>
      intro i gg xx f1 bk mA1 mC1 mH1 mG1 mS1 mI1 mT1 mP1 hi hn hds hle hkb hlo hhi
      omega
    | succ n_ ih =>
      intro i gg xx f1 bk mA1 mC1 mH1 mG1 mS1 mI1 mT1 mP1 hi hn hds hle hkb hlo hhi H locs ls hW hS hl
      refine lv_iload hx hb dX6_hands_189 (lv_at hl 6 rfl) ?_
      refine lv_aload_n hx hb dX6_hands_191 rfl (lv_at hl 0 rfl) ?_
      refine gfX6_145 B hT hW (by decide) mE_0 rfl dX6_hands_192 ?_
      refine lv_icmp_gt (tgt := 310) hx hb dX6_hands_195 (by decide) (fun c_195 => ?_) (fun c_195 => ?_)
      · skip
        have q195 : rN < i := (nI_ltI (by omega) (by omega)).mp c_195
        refine lv_aload_n hx hb dX6_hands_310 rfl (lv_at hl 0 rfl) ?_
        refine lv_dup hx hb dX6_hands_311 rfl ?_
        refine gfX6_151 B hT hW (by decide) mE_0 rfl dX6_hands_312 ?_
        refine lv_iload hx hb dX6_hands_315 (lv_at hl 4 rfl) ?_
        refine lv_i2l hx hb dX6_hands_317 rfl ?_
        refine lv_ladd hx hb dX6_hands_318 ?_
        refine pfX6_151 B hT hI hA hW hS (by decide) mE_0 (Nat.le_of_ble_eq_true rfl) rfl (by first | rfl | decide) dX6_hands_319 (fun H locs hW hS => ?_)
        have hW := hW.eq (E' := mE cI cZ ad th nP nH rN nf pn sp (sk + ((imin (dsum (pd h) (due V ag nP h) rN) ((due V ag nP h) rN / 5)).toInt64)) ag (RV V) (RV T) (FL (upd2 pd h f1)) (FL py) (sett du (due V ag nP h) (rN + 1)) mA1 mC1 mH1 mG1 mS1 mI1 mT1 mP1) (mE_u0 _ _ _ _ _ _ _ _ _ _ _ _ _ _ _ _)
        refine lv_aload_n hx hb dX6_hands_322 rfl (lv_at hl 0 rfl) ?_
        refine gfX6_48 B hT hW (by decide) mE_0 rfl dX6_hands_323 ?_
        refine lv_aload_n hx hb dX6_hands_326 rfl (lv_at hl 0 rfl) ?_
        refine gfX6_145 B hT hW (by decide) mE_0 rfl dX6_hands_327 ?_
        refine b_iald B hW hti (j := rN) (by decide) mE_12 (vp_in_nI (by omega) (Nat.le_of_ble_eq_true rfl)) (nI_clamp (by omega)) dX6_hands_330 ?_
        refine b_top (y := (due V ag nP h) rN) (show sett du (due V ag nP h) (rN + 1) rN = _ from if_pos (by omega)) ?_
        refine lv_iload hx hb dX6_hands_331 (lv_at hl 4 rfl) ?_
        refine lv_isub hx hb dX6_hands_333 ?_
        exact e_i hQ B hr hlk hS hW dX6_hands_334 (Nat.le_of_ble_eq_true rfl) (Nat.le_of_ble_eq_true rfl) (⟨by unfold payP; rw [if_neg hle], _, _, _, _, _, _, _, _, _, by unfold payD payK; rw [if_neg hle, if_neg hle, hhi (by have := (nI_ltI (by omega) (by omega)).mp c_195; omega)]⟩)
      · skip
        have q195 : i ≤ rN := Nat.le_of_not_lt (fun q => c_195 ((nI_ltI (by omega) (by omega)).mpr q))
        refine lv_bipush (v := (nI 12)) hx hb dX6_hands_198 (by decide) ?_
        refine lv_iload_n hx hb dX6_hands_200 rfl (lv_at hl 1 rfl) ?_
        refine lv_imul hx hb dX6_hands_201 ?_
        refine b_top (y := nI (12 * h)) (pk_mul _ _) ?_
        refine lv_iload hx hb dX6_hands_202 (lv_at hl 6 rfl) ?_
        refine lv_iadd hx hb dX6_hands_204 ?_
        refine b_top (y := nI (12 * h + i)) (nI_add _ _) ?_
        refine lv_istore (lv' := [(7, .int (nI (12 * h + i))), (0, .ref (ad 0)), (1, .int (nI h)), (2, .int gg), (3, .int xx), (4, .int (imin (dsum (pd h) (due V ag nP h) rN) ((due V ag nP h) rN / 5))), (5, .int bk), (6, .int (nI i))]) hx hb dX6_hands_205 hl (by decide) rfl (fun ls hl => ?_)
        refine lv_iload hx hb dX6_hands_207 (lv_at hl 7 rfl) ?_
        refine lv_aload_n hx hb dX6_hands_209 rfl (lv_at hl 1 rfl) ?_
        refine gfX6_145 B hT hW (by decide) mE_0 rfl dX6_hands_210 ?_
        refine lv_icmp_eq (tgt := 233) hx hb dX6_hands_213 (by decide) (fun c_213 => ?_) (fun c_213 => ?_)
        · skip
          refine lv_iconst (v := 0) hx hb dX6_hands_233 (by decide) ?_
          refine lv_goto (tgt := 252) hx hb dX6_hands_234 (by decide) ?_
          refine lv_istore (lv' := [(8, .int 0), (7, .int (nI (12 * h + i))), (0, .ref (ad 0)), (1, .int (nI h)), (2, .int gg), (3, .int xx), (4, .int (imin (dsum (pd h) (due V ag nP h) rN) ((due V ag nP h) rN / 5))), (5, .int bk), (6, .int (nI i))]) hx hb dX6_hands_252 hl (by decide) rfl (fun ls hl => ?_)
          refine lv_iload hx hb dX6_hands_254 (lv_at hl 0 rfl) ?_
          refine lv_if_ne (tgt := 276) hx hb dX6_hands_256 (by decide) (fun c_256 => ?_) (fun c_256 => ?_)
          · exact absurd rfl c_256
          · skip
            refine lv_aload_n hx hb dX6_hands_259 rfl (lv_at hl 2 rfl) ?_
            refine gfX6_42 B hT hW (by decide) mE_0 rfl dX6_hands_260 ?_
            refine lv_iload hx hb dX6_hands_263 (lv_at hl 1 rfl) ?_
            refine lv_aload_n hx hb dX6_hands_265 rfl (lv_at hl 2 rfl) ?_
            refine gfX6_48 B hT hW (by decide) mE_0 rfl dX6_hands_266 ?_
            refine lv_iload hx hb dX6_hands_269 (lv_at hl 8 rfl) ?_
            refine b_iald B hW hti (j := i) (by decide) mE_12 (vp_in_nI (by omega) (Nat.le_of_ble_eq_true rfl)) (nI_clamp (by omega)) dX6_hands_271 ?_
            refine b_top (y := (due V ag nP h) i) (show sett du (due V ag nP h) (rN + 1) i = _ from if_pos (by omega)) ?_
            refine b_iast B hI hA hW hS hti (j := (12 * h + i)) (by decide) mE_10 (vp_in_nI (by omega) (Nat.le_of_ble_eq_true rfl)) (nI_clamp (by omega)) dX6_hands_272 (fun H locs hW hS => ?_)
            have hW := hW.eq (E' := mE cI cZ ad th nP nH rN nf pn sp sk ag (RV V) (RV T) (upd (FL (upd2 pd h f1)) (12 * h + i) ((due V ag nP h) i)) (FL py) (sett du (due V ag nP h) (rN + 1)) mA1 mC1 mH1 mG1 mS1 mI1 mT1 mP1) (mE_u10 _)
            have hW := hW.eq (E' := mE cI cZ ad th nP nH rN nf pn sp sk ag (RV V) (RV T) (FL (upd2 pd h (upd f1 i ((due V ag nP h) i)))) (FL py) (sett du (due V ag nP h) (rN + 1)) mA1 mC1 mH1 mG1 mS1 mI1 mT1 mP1) (by rw [FL_up2 hh (by omega)])
            refine lv_goto (tgt := 304) hx hb dX6_hands_273 (by decide) ?_
            refine lv_iinc (v := (nI (i + 1))) (lv' := [(6, .int (nI (i + 1))), (8, .int 0), (7, .int (nI (12 * h + i))), (0, .ref (ad 0)), (1, .int (nI h)), (2, .int gg), (3, .int xx), (4, .int (imin (dsum (pd h) (due V ag nP h) rN) ((due V ag nP h) rN / 5))), (5, .int bk)]) hx hb dX6_hands_304 hl (k := 8) rfl (nI_1 i) (by decide) rfl (fun ls hl => ?_)
            refine lv_goto (tgt := 189) hx hb dX6_hands_307 (by decide) ?_
            have e213 : i = rN := (nI_eq (by omega) (by omega)).mp c_213
            obtain ⟨hf1, hb1⟩ := hlo (by omega)
            exact ih (i + 1) gg xx (upd f1 i ((due V ag nP h) i)) bk mA1 mC1 mH1 mG1 mS1 mI1 mT1 mP1 (by omega) (by omega) hds hle hkb (fun q => absurd q (by omega)) (fun _ => by rw [hf1, e213]; exact row_end hfp hup hkb hr12) _ _ _ hW hS (lv_sub hl [3, 4, 5, 6, 7, 8, 0] rfl)
        · skip
          refine lv_aload_n hx hb dX6_hands_216 rfl (lv_at hl 1 rfl) ?_
          refine gfX6_42 B hT hW (by decide) mE_0 rfl dX6_hands_217 ?_
          refine lv_iload hx hb dX6_hands_220 (lv_at hl 0 rfl) ?_
          refine b_iald B hW hti (j := (12 * h + i)) (by decide) mE_10 (vp_in_nI (by omega) (Nat.le_of_ble_eq_true rfl)) (nI_clamp (by omega)) dX6_hands_222 ?_
          refine b_top (y := f1 i) ((FL_at (f := upd2 pd h f1) (by omega) (by omega)).trans (by rw [upd2_s])) ?_
          refine lv_aload_n hx hb dX6_hands_223 rfl (lv_at hl 1 rfl) ?_
          refine gfX6_48 B hT hW (by decide) mE_0 rfl dX6_hands_224 ?_
          refine lv_iload hx hb dX6_hands_227 (lv_at hl 7 rfl) ?_
          refine b_iald B hW hti (j := i) (by decide) mE_12 (vp_in_nI (by omega) (Nat.le_of_ble_eq_true rfl)) (nI_clamp (by omega)) dX6_hands_229 ?_
          refine b_top (y := (due V ag nP h) i) (show sett du (due V ag nP h) (rN + 1) i = _ from if_pos (by omega)) ?_
          refine lv_icmp_ge (tgt := 237) hx hb dX6_hands_230 (by decide) (fun c_230 => ?_) (fun c_230 => ?_)
          · skip
            refine lv_aload_n hx hb dX6_hands_237 rfl (lv_at hl 1 rfl) ?_
            refine gfX6_42 B hT hW (by decide) mE_0 rfl dX6_hands_238 ?_
            refine lv_iload hx hb dX6_hands_241 (lv_at hl 0 rfl) ?_
            refine b_iald B hW hti (j := (12 * h + i)) (by decide) mE_10 (vp_in_nI (by omega) (Nat.le_of_ble_eq_true rfl)) (nI_clamp (by omega)) dX6_hands_243 ?_
            refine b_top (y := f1 i) ((FL_at (f := upd2 pd h f1) (by omega) (by omega)).trans (by rw [upd2_s])) ?_
            refine lv_aload_n hx hb dX6_hands_244 rfl (lv_at hl 1 rfl) ?_
            refine gfX6_48 B hT hW (by decide) mE_0 rfl dX6_hands_245 ?_
            refine lv_iload hx hb dX6_hands_248 (lv_at hl 7 rfl) ?_
            refine b_iald B hW hti (j := i) (by decide) mE_12 (vp_in_nI (by omega) (Nat.le_of_ble_eq_true rfl)) (nI_clamp (by omega)) dX6_hands_250 ?_
            refine b_top (y := (due V ag nP h) i) (show sett du (due V ag nP h) (rN + 1) i = _ from if_pos (by omega)) ?_
            refine lv_isub hx hb dX6_hands_251 ?_
            refine lv_istore (lv' := [(8, .int ((f1 i) - ((due V ag nP h) i))), (7, .int (nI (12 * h + i))), (0, .ref (ad 0)), (1, .int (nI h)), (2, .int gg), (3, .int xx), (4, .int (imin (dsum (pd h) (due V ag nP h) rN) ((due V ag nP h) rN / 5))), (5, .int bk), (6, .int (nI i))]) hx hb dX6_hands_252 hl (by decide) rfl (fun ls hl => ?_)
            refine lv_iload hx hb dX6_hands_254 (lv_at hl 0 rfl) ?_
            refine lv_if_ne (tgt := 276) hx hb dX6_hands_256 (by decide) (fun c_256 => ?_) (fun c_256 => ?_)
            · skip
              refine lv_iload hx hb dX6_hands_276 (lv_at hl 0 rfl) ?_
              refine lv_iload hx hb dX6_hands_278 (lv_at hl 7 rfl) ?_
              refine b_ci (b_runS B hT hX hW hS (As := [.int ((f1 i) - ((due V ag nP h) i)), .int bk]) (rest := []) (fun sz => mm_lesser hI ((f1 i) - ((due V ag nP h) i)) bk sz) (cwX6_115 B.2.2.2.2.1 ⟨Nat.le_of_ble_eq_true rfl, Nat.le_of_ble_eq_true rfl⟩) rfl hl.1 (Nat.le_of_ble_eq_true rfl) dX6_hands_280 ⟨Nat.le_of_ble_eq_true rfl, Nat.le_of_ble_eq_true rfl⟩) hS (fun r_280 E1 H locs hp_280 hW hS => ?_)
              obtain ⟨hr_, hE_⟩ := hp_280
              subst hr_
              have hW := hW.eq hE_
              refine lv_istore (lv' := [(9, .int (imin ((f1 i) - ((due V ag nP h) i)) bk)), (8, .int ((f1 i) - ((due V ag nP h) i))), (7, .int (nI (12 * h + i))), (0, .ref (ad 0)), (1, .int (nI h)), (2, .int gg), (3, .int xx), (4, .int (imin (dsum (pd h) (due V ag nP h) rN) ((due V ag nP h) rN / 5))), (5, .int bk), (6, .int (nI i))]) hx hb dX6_hands_283 hl (by decide) rfl (fun ls hl => ?_)
              refine lv_aload_n hx hb dX6_hands_285 rfl (lv_at hl 3 rfl) ?_
              refine gfX6_42 B hT hW (by decide) mE_0 rfl dX6_hands_286 ?_
              refine lv_iload hx hb dX6_hands_289 (lv_at hl 2 rfl) ?_
              refine lv_dup2_11 hx hb dX6_hands_291 rfl rfl ?_
              refine b_iald B hW hti (j := (12 * h + i)) (by decide) mE_10 (vp_in_nI (by omega) (Nat.le_of_ble_eq_true rfl)) (nI_clamp (by omega)) dX6_hands_292 ?_
              refine b_top (y := f1 i) ((FL_at (f := upd2 pd h f1) (by omega) (by omega)).trans (by rw [upd2_s])) ?_
              refine lv_iload hx hb dX6_hands_293 (lv_at hl 0 rfl) ?_
              refine lv_isub hx hb dX6_hands_295 ?_
              refine b_iast B hI hA hW hS hti (j := (12 * h + i)) (by decide) mE_10 (vp_in_nI (by omega) (Nat.le_of_ble_eq_true rfl)) (nI_clamp (by omega)) dX6_hands_296 (fun H locs hW hS => ?_)
              have hW := hW.eq (E' := mE cI cZ ad th nP nH rN nf pn sp sk ag (RV V) (RV T) (upd (FL (upd2 pd h f1)) (12 * h + i) ((f1 i) - (imin ((f1 i) - ((due V ag nP h) i)) bk))) (FL py) (sett du (due V ag nP h) (rN + 1)) mA1 mC1 mH1 mG1 mS1 mI1 mT1 mP1) (mE_u10 _)
              have hW := hW.eq (E' := mE cI cZ ad th nP nH rN nf pn sp sk ag (RV V) (RV T) (FL (upd2 pd h (upd f1 i (f1 i - imin (f1 i - (due V ag nP h) i) bk)))) (FL py) (sett du (due V ag nP h) (rN + 1)) mA1 mC1 mH1 mG1 mS1 mI1 mT1 mP1) (by rw [FL_up2 hh (by omega)])
              refine lv_iload hx hb dX6_hands_297 (lv_at hl 8 rfl) ?_
              refine lv_iload hx hb dX6_hands_299 (lv_at hl 0 rfl) ?_
              refine lv_isub hx hb dX6_hands_301 ?_
              refine lv_istore (lv' := [(5, .int (bk - (imin ((f1 i) - ((due V ag nP h) i)) bk))), (9, .int (imin ((f1 i) - ((due V ag nP h) i)) bk)), (8, .int ((f1 i) - ((due V ag nP h) i))), (7, .int (nI (12 * h + i))), (0, .ref (ad 0)), (1, .int (nI h)), (2, .int gg), (3, .int xx), (4, .int (imin (dsum (pd h) (due V ag nP h) rN) ((due V ag nP h) rN / 5))), (6, .int (nI i))]) hx hb dX6_hands_302 hl (by decide) rfl (fun ls hl => ?_)
              refine lv_iinc (v := (nI (i + 1))) (lv' := [(6, .int (nI (i + 1))), (5, .int (bk - (imin ((f1 i) - ((due V ag nP h) i)) bk))), (9, .int (imin ((f1 i) - ((due V ag nP h) i)) bk)), (8, .int ((f1 i) - ((due V ag nP h) i))), (7, .int (nI (12 * h + i))), (0, .ref (ad 0)), (1, .int (nI h)), (2, .int gg), (3, .int xx), (4, .int (imin (dsum (pd h) (due V ag nP h) rN) ((due V ag nP h) rN / 5)))]) hx hb dX6_hands_304 hl (k := 9) rfl (nI_1 i) (by decide) rfl (fun ls hl => ?_)
              refine lv_goto (tgt := 189) hx hb dX6_hands_307 (by decide) ?_
              have n213 : i < rN := Nat.lt_of_le_of_ne (by omega) (fun q => c_213 (by rw [q]))
              obtain ⟨hf1, hb1⟩ := hlo (by omega)
              have rs := row_more hfp hup hkb hr12 n213 (Int32.not_lt.mpr (by have := c_230; rwa [hf1, rowM_n] at this))
              exact ih (i + 1) gg xx (upd f1 i (f1 i - imin (f1 i - (due V ag nP h) i) bk)) (bk - (imin ((f1 i) - ((due V ag nP h) i)) bk)) mA1 mC1 mH1 mG1 mS1 mI1 mT1 mP1 (by omega) (by omega) hds hle hkb (fun _ => by rw [hf1, hb1, rowM_n]; exact rs) (fun q => absurd q (by omega)) _ _ _ hW hS (lv_sub hl [5, 6, 7, 8, 9, 1, 0] rfl)
            · skip
              refine lv_aload_n hx hb dX6_hands_259 rfl (lv_at hl 2 rfl) ?_
              refine gfX6_42 B hT hW (by decide) mE_0 rfl dX6_hands_260 ?_
              refine lv_iload hx hb dX6_hands_263 (lv_at hl 1 rfl) ?_
              refine lv_aload_n hx hb dX6_hands_265 rfl (lv_at hl 2 rfl) ?_
              refine gfX6_48 B hT hW (by decide) mE_0 rfl dX6_hands_266 ?_
              refine lv_iload hx hb dX6_hands_269 (lv_at hl 8 rfl) ?_
              refine b_iald B hW hti (j := i) (by decide) mE_12 (vp_in_nI (by omega) (Nat.le_of_ble_eq_true rfl)) (nI_clamp (by omega)) dX6_hands_271 ?_
              refine b_top (y := (due V ag nP h) i) (show sett du (due V ag nP h) (rN + 1) i = _ from if_pos (by omega)) ?_
              refine b_iast B hI hA hW hS hti (j := (12 * h + i)) (by decide) mE_10 (vp_in_nI (by omega) (Nat.le_of_ble_eq_true rfl)) (nI_clamp (by omega)) dX6_hands_272 (fun H locs hW hS => ?_)
              have hW := hW.eq (E' := mE cI cZ ad th nP nH rN nf pn sp sk ag (RV V) (RV T) (upd (FL (upd2 pd h f1)) (12 * h + i) ((due V ag nP h) i)) (FL py) (sett du (due V ag nP h) (rN + 1)) mA1 mC1 mH1 mG1 mS1 mI1 mT1 mP1) (mE_u10 _)
              have hW := hW.eq (E' := mE cI cZ ad th nP nH rN nf pn sp sk ag (RV V) (RV T) (FL (upd2 pd h (upd f1 i ((due V ag nP h) i)))) (FL py) (sett du (due V ag nP h) (rN + 1)) mA1 mC1 mH1 mG1 mS1 mI1 mT1 mP1) (by rw [FL_up2 hh (by omega)])
              refine lv_goto (tgt := 304) hx hb dX6_hands_273 (by decide) ?_
              refine lv_iinc (v := (nI (i + 1))) (lv' := [(6, .int (nI (i + 1))), (8, .int ((f1 i) - ((due V ag nP h) i))), (7, .int (nI (12 * h + i))), (0, .ref (ad 0)), (1, .int (nI h)), (2, .int gg), (3, .int xx), (4, .int (imin (dsum (pd h) (due V ag nP h) rN) ((due V ag nP h) rN / 5))), (5, .int bk)]) hx hb dX6_hands_304 hl (k := 8) rfl (nI_1 i) (by decide) rfl (fun ls hl => ?_)
              refine lv_goto (tgt := 189) hx hb dX6_hands_307 (by decide) ?_
              have n213 : i < rN := Nat.lt_of_le_of_ne (by omega) (fun q => c_213 (by rw [q]))
              obtain ⟨hf1, hb1⟩ := hlo (by omega)
              have rs := row_less hfp hup hkb hr12 n213 (Or.inr (sub_0 (by have := c_256; rwa [hf1, rowM_n] at this)))
              exact ih (i + 1) gg xx (upd f1 i ((due V ag nP h) i)) bk mA1 mC1 mH1 mG1 mS1 mI1 mT1 mP1 (by omega) (by omega) hds hle hkb (fun _ => by rw [hf1, hb1]; exact rs) (fun q => absurd q (by omega)) _ _ _ hW hS (lv_sub hl [3, 4, 5, 6, 7, 8, 0] rfl)
          · skip
            refine lv_iconst (v := 0) hx hb dX6_hands_233 (by decide) ?_
            refine lv_goto (tgt := 252) hx hb dX6_hands_234 (by decide) ?_
            refine lv_istore (lv' := [(8, .int 0), (7, .int (nI (12 * h + i))), (0, .ref (ad 0)), (1, .int (nI h)), (2, .int gg), (3, .int xx), (4, .int (imin (dsum (pd h) (due V ag nP h) rN) ((due V ag nP h) rN / 5))), (5, .int bk), (6, .int (nI i))]) hx hb dX6_hands_252 hl (by decide) rfl (fun ls hl => ?_)
            refine lv_iload hx hb dX6_hands_254 (lv_at hl 0 rfl) ?_
            refine lv_if_ne (tgt := 276) hx hb dX6_hands_256 (by decide) (fun c_256 => ?_) (fun c_256 => ?_)
            · exact absurd rfl c_256
            · skip
              refine lv_aload_n hx hb dX6_hands_259 rfl (lv_at hl 2 rfl) ?_
              refine gfX6_42 B hT hW (by decide) mE_0 rfl dX6_hands_260 ?_
              refine lv_iload hx hb dX6_hands_263 (lv_at hl 1 rfl) ?_
              refine lv_aload_n hx hb dX6_hands_265 rfl (lv_at hl 2 rfl) ?_
              refine gfX6_48 B hT hW (by decide) mE_0 rfl dX6_hands_266 ?_
              refine lv_iload hx hb dX6_hands_269 (lv_at hl 8 rfl) ?_
              refine b_iald B hW hti (j := i) (by decide) mE_12 (vp_in_nI (by omega) (Nat.le_of_ble_eq_true rfl)) (nI_clamp (by omega)) dX6_hands_271 ?_
              refine b_top (y := (due V ag nP h) i) (show sett du (due V ag nP h) (rN + 1) i = _ from if_pos (by omega)) ?_
              refine b_iast B hI hA hW hS hti (j := (12 * h + i)) (by decide) mE_10 (vp_in_nI (by omega) (Nat.le_of_ble_eq_true rfl)) (nI_clamp (by omega)) dX6_hands_272 (fun H locs hW hS => ?_)
              have hW := hW.eq (E' := mE cI cZ ad th nP nH rN nf pn sp sk ag (RV V) (RV T) (upd (FL (upd2 pd h f1)) (12 * h + i) ((due V ag nP h) i)) (FL py) (sett du (due V ag nP h) (rN + 1)) mA1 mC1 mH1 mG1 mS1 mI1 mT1 mP1) (mE_u10 _)
              have hW := hW.eq (E' := mE cI cZ ad th nP nH rN nf pn sp sk ag (RV V) (RV T) (FL (upd2 pd h (upd f1 i ((due V ag nP h) i)))) (FL py) (sett du (due V ag nP h) (rN + 1)) mA1 mC1 mH1 mG1 mS1 mI1 mT1 mP1) (by rw [FL_up2 hh (by omega)])
              refine lv_goto (tgt := 304) hx hb dX6_hands_273 (by decide) ?_
              refine lv_iinc (v := (nI (i + 1))) (lv' := [(6, .int (nI (i + 1))), (8, .int 0), (7, .int (nI (12 * h + i))), (0, .ref (ad 0)), (1, .int (nI h)), (2, .int gg), (3, .int xx), (4, .int (imin (dsum (pd h) (due V ag nP h) rN) ((due V ag nP h) rN / 5))), (5, .int bk)]) hx hb dX6_hands_304 hl (k := 8) rfl (nI_1 i) (by decide) rfl (fun ls hl => ?_)
              refine lv_goto (tgt := 189) hx hb dX6_hands_307 (by decide) ?_
              have n213 : i < rN := Nat.lt_of_le_of_ne (by omega) (fun q => c_213 (by rw [q]))
              obtain ⟨hf1, hb1⟩ := hlo (by omega)
              have rs := row_less hfp hup hkb hr12 n213 (Or.inl (Int32.not_le.mp (by have := c_230; rwa [hf1, rowM_n] at this)))
              exact ih (i + 1) gg xx (upd f1 i ((due V ag nP h) i)) bk mA1 mC1 mH1 mG1 mS1 mI1 mT1 mP1 (by omega) (by omega) hds hle hkb (fun _ => by rw [hf1, hb1]; exact rs) (fun q => absurd q (by omega)) _ _ _ hW hS (lv_sub hl [3, 4, 5, 6, 7, 8, 0] rfl)
  have L_113 : ∀ (n_ : Nat) (i : Nat) (gg : Int32) (xx : Int32) (mA1 : Int32) (mC1 : Int32) (mH1 : Int32) (mG1 : Int32) (mS1 : Int32) (mI1 : Int32) (mT1 : Int32) (mP1 : Int32), (hi : i ≤ rN + 1) → (hn : rN + 1 < n_ + i) → (hgg : 0 ≤ gg.toInt ∧ gg.toInt ≤ 1200000) → (hxx : 0 ≤ xx.toInt ∧ xx.toInt ≤ 1200000000) → (hds : (dsum (pd h) (due V ag nP h) rN).toInt = xx.toInt - gg.toInt) → (hle : (dsum (pd h) (due V ag nP h) rN) ≤ 0) → ∀ (H : Heap) (locs : List Loc) (ls : Array Slot), hH D ad 13 (mE cI cZ ad th nP nH rN nf pn sp sk ag (RV V) (RV T) (FL (upd2 pd h (sett (pd h) (due V ag nP h) i))) (FL py) (sett du (due V ag nP h) (rN + 1)) mA1 mC1 mH1 mG1 mS1 mI1 mT1 mP1) H → va_S (cA ad 13 s.heap.size) s.heap H locs → lv_has ls 10 [(0, .ref (ad 0)), (1, .int (nI h)), (2, .int gg), (3, .int xx), (4, .int (nI i))] → W p l e (rmk 4 0 0) s m args below meth c H locs 0 0 Q (F0 m 113 ls []) := by
    intro n_
    induction n_ with
    | zero =>
      intro i gg xx mA1 mC1 mH1 mG1 mS1 mI1 mT1 mP1 hi hn hgg hxx hds hle
      omega
    | succ n_ ih =>
      intro i gg xx mA1 mC1 mH1 mG1 mS1 mI1 mT1 mP1 hi hn hgg hxx hds hle H locs ls hW hS hl
      refine lv_iload hx hb dX6_hands_113 (lv_at hl 4 rfl) ?_
      refine lv_aload_n hx hb dX6_hands_115 rfl (lv_at hl 0 rfl) ?_
      refine gfX6_145 B hT hW (by decide) mE_0 rfl dX6_hands_116 ?_
      refine lv_icmp_gt (tgt := 147) hx hb dX6_hands_119 (by decide) (fun c_119 => ?_) (fun c_119 => ?_)
      · skip
        have q119 : rN < i := (nI_ltI (by omega) (by omega)).mp c_119
        refine lv_aload_n hx hb dX6_hands_147 rfl (lv_at hl 0 rfl) ?_
        refine gfX6_48 B hT hW (by decide) mE_0 rfl dX6_hands_148 ?_
        refine lv_aload_n hx hb dX6_hands_151 rfl (lv_at hl 0 rfl) ?_
        refine gfX6_145 B hT hW (by decide) mE_0 rfl dX6_hands_152 ?_
        refine b_iald B hW hti (j := rN) (by decide) mE_12 (vp_in_nI (by omega) (Nat.le_of_ble_eq_true rfl)) (nI_clamp (by omega)) dX6_hands_155 ?_
        refine b_top (y := (due V ag nP h) rN) (show sett du (due V ag nP h) (rN + 1) rN = _ from if_pos (by omega)) ?_
        refine lv_iload_n hx hb dX6_hands_156 rfl (lv_at hl 2 rfl) ?_
        refine lv_iadd hx hb dX6_hands_157 ?_
        refine lv_iload_n hx hb dX6_hands_158 rfl (lv_at hl 3 rfl) ?_
        refine lv_isub hx hb dX6_hands_159 ?_
        exact e_i hQ B hr hlk hS hW dX6_hands_160 (Nat.le_of_ble_eq_true rfl) (Nat.le_of_ble_eq_true rfl) (⟨by unfold payP; rw [if_pos hle]; exact pay_eq (hup rN hr12) hgg.1 hgg.2 hxx.1 hxx.2 hds, _, _, _, _, _, _, _, _, _, by unfold payD payK; rw [if_pos hle, if_pos hle]; rw [show i = rN + 1 by have := (nI_ltI (by omega) (by omega)).mp c_119; omega]⟩)
      · skip
        have q119 : i ≤ rN := Nat.le_of_not_lt (fun q => c_119 ((nI_ltI (by omega) (by omega)).mpr q))
        refine lv_aload_n hx hb dX6_hands_122 rfl (lv_at hl 0 rfl) ?_
        refine gfX6_42 B hT hW (by decide) mE_0 rfl dX6_hands_123 ?_
        refine lv_bipush (v := (nI 12)) hx hb dX6_hands_126 (by decide) ?_
        refine lv_iload_n hx hb dX6_hands_128 rfl (lv_at hl 1 rfl) ?_
        refine lv_imul hx hb dX6_hands_129 ?_
        refine b_top (y := nI (12 * h)) (pk_mul _ _) ?_
        refine lv_iload hx hb dX6_hands_130 (lv_at hl 4 rfl) ?_
        refine lv_iadd hx hb dX6_hands_132 ?_
        refine b_top (y := nI (12 * h + i)) (nI_add _ _) ?_
        refine lv_aload_n hx hb dX6_hands_133 rfl (lv_at hl 0 rfl) ?_
        refine gfX6_48 B hT hW (by decide) mE_0 rfl dX6_hands_134 ?_
        refine lv_iload hx hb dX6_hands_137 (lv_at hl 4 rfl) ?_
        refine b_iald B hW hti (j := i) (by decide) mE_12 (vp_in_nI (by omega) (Nat.le_of_ble_eq_true rfl)) (nI_clamp (by omega)) dX6_hands_139 ?_
        refine b_top (y := (due V ag nP h) i) (show sett du (due V ag nP h) (rN + 1) i = _ from if_pos (by omega)) ?_
        refine b_iast B hI hA hW hS hti (j := (12 * h + i)) (by decide) mE_10 (vp_in_nI (by omega) (Nat.le_of_ble_eq_true rfl)) (nI_clamp (by omega)) dX6_hands_140 (fun H locs hW hS => ?_)
        have hW := hW.eq (E' := mE cI cZ ad th nP nH rN nf pn sp sk ag (RV V) (RV T) (upd (FL (upd2 pd h (sett (pd h) (due V ag nP h) i))) (12 * h + i) ((due V ag nP h) i)) (FL py) (sett du (due V ag nP h) (rN + 1)) mA1 mC1 mH1 mG1 mS1 mI1 mT1 mP1) (mE_u10 _)
        have hW := hW.eq (E' := mE cI cZ ad th nP nH rN nf pn sp sk ag (RV V) (RV T) (FL (upd2 pd h (upd (sett (pd h) (due V ag nP h) i) i ((due V ag nP h) i)))) (FL py) (sett du (due V ag nP h) (rN + 1)) mA1 mC1 mH1 mG1 mS1 mI1 mT1 mP1) (by rw [FL_up2 hh (by omega)])
        refine lv_iinc (v := (nI (i + 1))) (lv' := [(4, .int (nI (i + 1))), (0, .ref (ad 0)), (1, .int (nI h)), (2, .int gg), (3, .int xx)]) hx hb dX6_hands_141 hl (k := 4) rfl (nI_1 i) (by decide) rfl (fun ls hl => ?_)
        refine lv_goto (tgt := 113) hx hb dX6_hands_144 (by decide) ?_
        exact ih (i + 1) gg xx mA1 mC1 mH1 mG1 mS1 mI1 mT1 mP1 (by omega) (by omega) hgg hxx hds hle _ _ _ (hW.eq (by rw [sett_s])) hS (lv_sub hl [1, 2, 3, 4, 0] rfl)
  have L_39 : ∀ (n_ : Nat) (i : Nat) (gg : Int32) (xx : Int32) (mA1 : Int32) (mC1 : Int32) (mH1 : Int32) (mG1 : Int32) (mS1 : Int32) (mI1 : Int32) (mT1 : Int32) (mP1 : Int32), (hi : i ≤ rN) → (hn : rN < n_ + i) → (hgg : gg.toInt = gap (pd h) (due V ag nP h) i) → (hxx : xx.toInt = exc (pd h) (due V ag nP h) i) → ∀ (H : Heap) (locs : List Loc) (ls : Array Slot), hH D ad 13 (mE cI cZ ad th nP nH rN nf pn sp sk ag (RV V) (RV T) (FL pd) (FL py) (sett du (due V ag nP h) (rN + 1)) mA1 mC1 mH1 mG1 mS1 mI1 mT1 mP1) H → va_S (cA ad 13 s.heap.size) s.heap H locs → lv_has ls 10 [(0, .ref (ad 0)), (1, .int (nI h)), (2, .int gg), (3, .int xx), (4, .int (nI i))] → W p l e (rmk 4 0 0) s m args below meth c H locs 0 0 Q (F0 m 39 ls []) := by
    intro n_
    induction n_ with
    | zero =>
      intro i gg xx mA1 mC1 mH1 mG1 mS1 mI1 mT1 mP1 hi hn hgg hxx
      omega
    | succ n_ ih =>
      intro i gg xx mA1 mC1 mH1 mG1 mS1 mI1 mT1 mP1 hi hn hgg hxx H locs ls hW hS hl
      refine lv_iload hx hb dX6_hands_39 (lv_at hl 4 rfl) ?_
      refine lv_aload_n hx hb dX6_hands_41 rfl (lv_at hl 0 rfl) ?_
      refine gfX6_145 B hT hW (by decide) mE_0 rfl dX6_hands_42 ?_
      refine lv_icmp_ge (tgt := 105) hx hb dX6_hands_45 (by decide) (fun c_45 => ?_) (fun c_45 => ?_)
      · skip
        have qi : rN = i := Nat.le_antisymm ((nI_leI (by omega) (by omega)).mp c_45) hi
        rw [← qi] at hgg hxx
        have gb := gap_bd hfp hup rN (by omega)
        have hds : (dsum (pd h) (due V ag nP h) rN).toInt = xx.toInt - gg.toInt := by rw [dsum_int hfp hup rN (by omega), hgg, hxx]
        refine lv_iload_n hx hb dX6_hands_105 rfl (lv_at hl 3 rfl) ?_
        refine lv_iload_n hx hb dX6_hands_106 rfl (lv_at hl 2 rfl) ?_
        refine lv_icmp_gt (tgt := 161) hx hb dX6_hands_107 (by decide) (fun c_107 => ?_) (fun c_107 => ?_)
        · skip
          have hle : ¬ (dsum (pd h) (due V ag nP h) rN) ≤ 0 := fun q => by have q2 := (fa_le _ _).mp q; rw [i32_0, hds] at q2; have := (fa_lt _ _).mp c_107; omega
          have hkb := kept_bd (f := pd h) hup hr12 hle
          have exg : xx - gg = (dsum (pd h) (due V ag nP h) rN) := by rw [fa_eq, i_sub (by omega) (by omega), hds]
          refine lv_iload_n hx hb dX6_hands_161 rfl (lv_at hl 3 rfl) ?_
          refine lv_iload_n hx hb dX6_hands_162 rfl (lv_at hl 2 rfl) ?_
          refine lv_isub hx hb dX6_hands_163 ?_
          refine b_top (y := (dsum (pd h) (due V ag nP h) rN)) exg ?_
          refine lv_aload_n hx hb dX6_hands_164 rfl (lv_at hl 0 rfl) ?_
          refine gfX6_48 B hT hW (by decide) mE_0 rfl dX6_hands_165 ?_
          refine lv_aload_n hx hb dX6_hands_168 rfl (lv_at hl 0 rfl) ?_
          refine gfX6_145 B hT hW (by decide) mE_0 rfl dX6_hands_169 ?_
          refine b_iald B hW hti (j := rN) (by decide) mE_12 (vp_in_nI (by omega) (Nat.le_of_ble_eq_true rfl)) (nI_clamp (by omega)) dX6_hands_172 ?_
          refine b_top (y := (due V ag nP h) rN) (show sett du (due V ag nP h) (rN + 1) rN = _ from if_pos (by omega)) ?_
          refine lv_iconst (v := 5) hx hb dX6_hands_173 (by decide) ?_
          refine lv_idiv hx hb dX6_hands_174 (by decide) ?_
          refine b_ci (b_runS B hT hX hW hS (As := [.int (dsum (pd h) (due V ag nP h) rN), .int (((due V ag nP h) rN) / 5)]) (rest := []) (fun sz => mm_lesser hI (dsum (pd h) (due V ag nP h) rN) (((due V ag nP h) rN) / 5) sz) (cwX6_115 B.2.2.2.2.1 ⟨Nat.le_of_ble_eq_true rfl, Nat.le_of_ble_eq_true rfl⟩) rfl hl.1 (Nat.le_of_ble_eq_true rfl) dX6_hands_175 ⟨Nat.le_of_ble_eq_true rfl, Nat.le_of_ble_eq_true rfl⟩) hS (fun r_175 E1 H locs hp_175 hW hS => ?_)
          obtain ⟨hr_, hE_⟩ := hp_175
          subst hr_
          have hW := hW.eq hE_
          refine lv_istore (lv' := [(4, .int (imin (dsum (pd h) (due V ag nP h) rN) (((due V ag nP h) rN) / 5))), (0, .ref (ad 0)), (1, .int (nI h)), (2, .int gg), (3, .int xx)]) hx hb dX6_hands_178 hl (by decide) rfl (fun ls hl => ?_)
          refine lv_iload_n hx hb dX6_hands_180 rfl (lv_at hl 3 rfl) ?_
          refine lv_iload hx hb dX6_hands_181 (lv_at hl 0 rfl) ?_
          refine lv_iadd hx hb dX6_hands_183 ?_
          have hbb : (gg + (imin (dsum (pd h) (due V ag nP h) rN) ((due V ag nP h) rN / 5))).toInt = gap (pd h) (due V ag nP h) rN + (imin (dsum (pd h) (due V ag nP h) rN) ((due V ag nP h) rN / 5)).toInt := by rw [fb_addI (by have := hkb.1; omega) (by have := hkb.2; omega), hgg]
          refine lv_istore (lv' := [(5, .int (gg + (imin (dsum (pd h) (due V ag nP h) rN) (((due V ag nP h) rN) / 5)))), (4, .int (imin (dsum (pd h) (due V ag nP h) rN) (((due V ag nP h) rN) / 5))), (0, .ref (ad 0)), (1, .int (nI h)), (2, .int gg), (3, .int xx)]) hx hb dX6_hands_184 hl (by decide) rfl (fun ls hl => ?_)
          refine lv_iconst (v := 0) hx hb dX6_hands_186 (by decide) ?_
          refine lv_istore (lv' := [(6, .int 0), (5, .int (gg + (imin (dsum (pd h) (due V ag nP h) rN) (((due V ag nP h) rN) / 5)))), (4, .int (imin (dsum (pd h) (due V ag nP h) rN) (((due V ag nP h) rN) / 5))), (0, .ref (ad 0)), (1, .int (nI h)), (2, .int gg), (3, .int xx)]) hx hb dX6_hands_187 hl (by decide) rfl (fun ls hl => ?_)
          exact L_189 (rN + 2) 0 gg xx (pd h) (gg + (imin (dsum (pd h) (due V ag nP h) rN) ((due V ag nP h) rN / 5))) mA1 mC1 mH1 mG1 mS1 mI1 mT1 mP1 (by omega) (by omega) hds hle hkb (fun _ => ⟨rowM_0.symm, lft_0 hfp hup hkb hr12 hbb⟩) (fun q => absurd q (by omega)) _ _ _ (hW.eq (by rw [upd2_id])) hS (lv_sub hl [3, 4, 5, 6, 2, 1, 0] rfl)
        · skip
          have hle : (dsum (pd h) (due V ag nP h) rN) ≤ 0 := (fa_le _ _).mpr (by rw [i32_0, hds]; have := mt (fa_lt _ _).mpr c_107; omega)
          replace hgg : 0 ≤ gg.toInt ∧ gg.toInt ≤ 1200000 := ⟨by omega, by omega⟩
          replace hxx : 0 ≤ xx.toInt ∧ xx.toInt ≤ 1200000000 := ⟨by omega, by omega⟩
          refine lv_iconst (v := 0) hx hb dX6_hands_110 (by decide) ?_
          refine lv_istore (lv' := [(4, .int 0), (0, .ref (ad 0)), (1, .int (nI h)), (2, .int gg), (3, .int xx)]) hx hb dX6_hands_111 hl (by decide) rfl (fun ls hl => ?_)
          exact L_113 (rN + 2) 0 gg xx mA1 mC1 mH1 mG1 mS1 mI1 mT1 mP1 (by omega) (by omega) hgg hxx hds hle _ _ _ (hW.eq (by rw [sett_0, upd2_id])) hS (lv_sub hl [1, 2, 3, 4, 0] rfl)
      · skip
        have q45 : i < rN := Nat.lt_of_not_le (fun q => c_45 ((nI_leI (by omega) (by omega)).mpr q))
        refine lv_aload_n hx hb dX6_hands_48 rfl (lv_at hl 0 rfl) ?_
        refine gfX6_48 B hT hW (by decide) mE_0 rfl dX6_hands_49 ?_
        refine lv_iload hx hb dX6_hands_52 (lv_at hl 4 rfl) ?_
        refine b_iald B hW hti (j := i) (by decide) mE_12 (vp_in_nI (by omega) (Nat.le_of_ble_eq_true rfl)) (nI_clamp (by omega)) dX6_hands_54 ?_
        refine b_top (y := (due V ag nP h) i) (show sett du (due V ag nP h) (rN + 1) i = _ from if_pos (by omega)) ?_
        refine lv_aload_n hx hb dX6_hands_55 rfl (lv_at hl 0 rfl) ?_
        refine gfX6_42 B hT hW (by decide) mE_0 rfl dX6_hands_56 ?_
        refine lv_bipush (v := (nI 12)) hx hb dX6_hands_59 (by decide) ?_
        refine lv_iload_n hx hb dX6_hands_61 rfl (lv_at hl 1 rfl) ?_
        refine lv_imul hx hb dX6_hands_62 ?_
        refine b_top (y := nI (12 * h)) (pk_mul _ _) ?_
        refine lv_iload hx hb dX6_hands_63 (lv_at hl 4 rfl) ?_
        refine lv_iadd hx hb dX6_hands_65 ?_
        refine b_top (y := nI (12 * h + i)) (nI_add _ _) ?_
        refine b_iald B hW hti (j := (12 * h + i)) (by decide) mE_10 (vp_in_nI (by omega) (Nat.le_of_ble_eq_true rfl)) (nI_clamp (by omega)) dX6_hands_66 ?_
        refine b_top (y := pd h i) (FL_at (by omega) (by omega)) ?_
        refine lv_isub hx hb dX6_hands_67 ?_
        refine lv_istore (lv' := [(5, .int (((due V ag nP h) i) - (pd h i))), (0, .ref (ad 0)), (1, .int (nI h)), (2, .int gg), (3, .int xx), (4, .int (nI i))]) hx hb dX6_hands_68 hl (by decide) rfl (fun ls hl => ?_)
        have gst := gap_st (i := i) hfp hup (by omega) hgg hxx
        refine lv_iload_n hx hb dX6_hands_70 rfl (lv_at hl 3 rfl) ?_
        refine lv_iload hx hb dX6_hands_71 (lv_at hl 0 rfl) ?_
        refine lv_if_le (tgt := 81) hx hb dX6_hands_73 (by decide) (fun c_73 => ?_) (fun c_73 => ?_)
        · skip
          refine lv_iconst (v := 0) hx hb dX6_hands_81 (by decide) ?_
          refine lv_iadd hx hb dX6_hands_82 ?_
          refine lv_istore_n (lv' := [(2, .int (gg + 0)), (5, .int (((due V ag nP h) i) - (pd h i))), (0, .ref (ad 0)), (1, .int (nI h)), (3, .int xx), (4, .int (nI i))]) hx hb dX6_hands_83 rfl hl (by decide) rfl (fun ls hl => ?_)
          refine lv_iload_n hx hb dX6_hands_84 rfl (lv_at hl 4 rfl) ?_
          refine lv_iload hx hb dX6_hands_85 (lv_at hl 1 rfl) ?_
          refine lv_if_ge (tgt := 96) hx hb dX6_hands_87 (by decide) (fun c_87 => ?_) (fun c_87 => ?_)
          · skip
            refine lv_iconst (v := 0) hx hb dX6_hands_96 (by decide) ?_
            refine lv_iadd hx hb dX6_hands_97 ?_
            refine lv_istore_n (lv' := [(3, .int (xx + 0)), (2, .int (gg + 0)), (5, .int (((due V ag nP h) i) - (pd h i))), (0, .ref (ad 0)), (1, .int (nI h)), (4, .int (nI i))]) hx hb dX6_hands_98 rfl hl (by decide) rfl (fun ls hl => ?_)
            refine lv_iinc (v := (nI (i + 1))) (lv' := [(4, .int (nI (i + 1))), (3, .int (xx + 0)), (2, .int (gg + 0)), (5, .int (((due V ag nP h) i) - (pd h i))), (0, .ref (ad 0)), (1, .int (nI h))]) hx hb dX6_hands_99 hl (k := 5) rfl (nI_1 i) (by decide) rfl (fun ls hl => ?_)
            refine lv_goto (tgt := 39) hx hb dX6_hands_102 (by decide) ?_
            exact ih (i + 1) (gg + 0) (xx + 0) mA1 mC1 mH1 mG1 mS1 mI1 mT1 mP1 (by omega) (by omega) (gst.1 c_73) (gst.2.2.1 c_87) _ _ _ hW hS (lv_sub hl [4, 5, 2, 1, 0] rfl)
          · skip
            refine lv_iload hx hb dX6_hands_90 (lv_at hl 1 rfl) ?_
            refine lv_ineg hx hb dX6_hands_92 ?_
            refine lv_goto (tgt := 97) hx hb dX6_hands_93 (by decide) ?_
            refine lv_iadd hx hb dX6_hands_97 ?_
            refine lv_istore_n (lv' := [(3, .int (xx + (-(((due V ag nP h) i) - (pd h i))))), (2, .int (gg + 0)), (5, .int (((due V ag nP h) i) - (pd h i))), (0, .ref (ad 0)), (1, .int (nI h)), (4, .int (nI i))]) hx hb dX6_hands_98 rfl hl (by decide) rfl (fun ls hl => ?_)
            refine lv_iinc (v := (nI (i + 1))) (lv' := [(4, .int (nI (i + 1))), (3, .int (xx + (-(((due V ag nP h) i) - (pd h i))))), (2, .int (gg + 0)), (5, .int (((due V ag nP h) i) - (pd h i))), (0, .ref (ad 0)), (1, .int (nI h))]) hx hb dX6_hands_99 hl (k := 5) rfl (nI_1 i) (by decide) rfl (fun ls hl => ?_)
            refine lv_goto (tgt := 39) hx hb dX6_hands_102 (by decide) ?_
            exact ih (i + 1) (gg + 0) (xx + (-(((due V ag nP h) i) - (pd h i)))) mA1 mC1 mH1 mG1 mS1 mI1 mT1 mP1 (by omega) (by omega) (gst.1 c_73) (gst.2.2.2 c_87) _ _ _ hW hS (lv_sub hl [4, 5, 2, 1, 0] rfl)
        · skip
          refine lv_iload hx hb dX6_hands_76 (lv_at hl 0 rfl) ?_
          refine lv_goto (tgt := 82) hx hb dX6_hands_78 (by decide) ?_
          refine lv_iadd hx hb dX6_hands_82 ?_
          refine lv_istore_n (lv' := [(2, .int (gg + (((due V ag nP h) i) - (pd h i)))), (5, .int (((due V ag nP h) i) - (pd h i))), (0, .ref (ad 0)), (1, .int (nI h)), (3, .int xx), (4, .int (nI i))]) hx hb dX6_hands_83 rfl hl (by decide) rfl (fun ls hl => ?_)
          refine lv_iload_n hx hb dX6_hands_84 rfl (lv_at hl 4 rfl) ?_
          refine lv_iload hx hb dX6_hands_85 (lv_at hl 1 rfl) ?_
          refine lv_if_ge (tgt := 96) hx hb dX6_hands_87 (by decide) (fun c_87 => ?_) (fun c_87 => ?_)
          · skip
            refine lv_iconst (v := 0) hx hb dX6_hands_96 (by decide) ?_
            refine lv_iadd hx hb dX6_hands_97 ?_
            refine lv_istore_n (lv' := [(3, .int (xx + 0)), (2, .int (gg + (((due V ag nP h) i) - (pd h i)))), (5, .int (((due V ag nP h) i) - (pd h i))), (0, .ref (ad 0)), (1, .int (nI h)), (4, .int (nI i))]) hx hb dX6_hands_98 rfl hl (by decide) rfl (fun ls hl => ?_)
            refine lv_iinc (v := (nI (i + 1))) (lv' := [(4, .int (nI (i + 1))), (3, .int (xx + 0)), (2, .int (gg + (((due V ag nP h) i) - (pd h i)))), (5, .int (((due V ag nP h) i) - (pd h i))), (0, .ref (ad 0)), (1, .int (nI h))]) hx hb dX6_hands_99 hl (k := 5) rfl (nI_1 i) (by decide) rfl (fun ls hl => ?_)
            refine lv_goto (tgt := 39) hx hb dX6_hands_102 (by decide) ?_
            exact ih (i + 1) (gg + (((due V ag nP h) i) - (pd h i))) (xx + 0) mA1 mC1 mH1 mG1 mS1 mI1 mT1 mP1 (by omega) (by omega) (gst.2.1 c_73) (gst.2.2.1 c_87) _ _ _ hW hS (lv_sub hl [4, 5, 2, 1, 0] rfl)
          · skip
            refine lv_iload hx hb dX6_hands_90 (lv_at hl 1 rfl) ?_
            refine lv_ineg hx hb dX6_hands_92 ?_
            refine lv_goto (tgt := 97) hx hb dX6_hands_93 (by decide) ?_
            refine lv_iadd hx hb dX6_hands_97 ?_
            refine lv_istore_n (lv' := [(3, .int (xx + (-(((due V ag nP h) i) - (pd h i))))), (2, .int (gg + (((due V ag nP h) i) - (pd h i)))), (5, .int (((due V ag nP h) i) - (pd h i))), (0, .ref (ad 0)), (1, .int (nI h)), (4, .int (nI i))]) hx hb dX6_hands_98 rfl hl (by decide) rfl (fun ls hl => ?_)
            refine lv_iinc (v := (nI (i + 1))) (lv' := [(4, .int (nI (i + 1))), (3, .int (xx + (-(((due V ag nP h) i) - (pd h i))))), (2, .int (gg + (((due V ag nP h) i) - (pd h i)))), (5, .int (((due V ag nP h) i) - (pd h i))), (0, .ref (ad 0)), (1, .int (nI h))]) hx hb dX6_hands_99 hl (k := 5) rfl (nI_1 i) (by decide) rfl (fun ls hl => ?_)
            refine lv_goto (tgt := 39) hx hb dX6_hands_102 (by decide) ?_
            exact ih (i + 1) (gg + (((due V ag nP h) i) - (pd h i))) (xx + (-(((due V ag nP h) i) - (pd h i)))) mA1 mC1 mH1 mG1 mS1 mI1 mT1 mP1 (by omega) (by omega) (gst.2.1 c_73) (gst.2.2.2 c_87) _ _ _ hW hS (lv_sub hl [4, 5, 2, 1, 0] rfl)
  have L_7 : ∀ (n_ : Nat) (i : Nat) (mA1 : Int32) (mC1 : Int32) (mH1 : Int32) (mG1 : Int32) (mS1 : Int32) (mI1 : Int32) (mT1 : Int32) (mP1 : Int32), (hi : i ≤ rN + 1) → (hn : rN + 1 < n_ + i) → ∀ (H : Heap) (locs : List Loc) (ls : Array Slot), hH D ad 13 (mE cI cZ ad th nP nH rN nf pn sp sk ag (RV V) (RV T) (FL pd) (FL py) (sett du (due V ag nP h) i) mA1 mC1 mH1 mG1 mS1 mI1 mT1 mP1) H → va_S (cA ad 13 s.heap.size) s.heap H locs → lv_has ls 10 [(0, .ref (ad 0)), (1, .int (nI h)), (2, .int 0), (3, .int 0), (4, .int (nI i))] → W p l e (rmk 4 0 0) s m args below meth c H locs 0 0 Q (F0 m 7 ls []) := by
    intro n_
    induction n_ with
    | zero =>
      intro i mA1 mC1 mH1 mG1 mS1 mI1 mT1 mP1 hi hn
      omega
    | succ n_ ih =>
      intro i mA1 mC1 mH1 mG1 mS1 mI1 mT1 mP1 hi hn H locs ls hW hS hl
      refine lv_iload hx hb dX6_hands_7 (lv_at hl 4 rfl) ?_
      refine lv_aload_n hx hb dX6_hands_9 rfl (lv_at hl 0 rfl) ?_
      refine gfX6_145 B hT hW (by decide) mE_0 rfl dX6_hands_10 ?_
      refine lv_icmp_gt (tgt := 36) hx hb dX6_hands_13 (by decide) (fun c_13 => ?_) (fun c_13 => ?_)
      · skip
        have qe : i = rN + 1 := by have := (nI_ltI (by omega) (by omega)).mp c_13; omega
        have hW := hW.eq (E' := mE cI cZ ad th nP nH rN nf pn sp sk ag (RV V) (RV T) (FL pd) (FL py) (sett du (due V ag nP h) (rN + 1)) mA1 mC1 mH1 mG1 mS1 mI1 mT1 mP1) (by rw [qe])
        refine lv_iconst (v := 0) hx hb dX6_hands_36 (by decide) ?_
        refine lv_istore (lv' := [(4, .int 0), (0, .ref (ad 0)), (1, .int (nI h)), (2, .int 0), (3, .int 0)]) hx hb dX6_hands_37 hl (by decide) rfl (fun ls hl => ?_)
        exact L_39 (rN + 1) 0 0 0 mA1 mC1 mH1 mG1 mS1 mI1 mT1 mP1 (by omega) (by omega) rfl rfl _ _ _ hW hS (lv_sub hl [1, 2, 3, 4, 0] rfl)
      · skip
        have q13 : i ≤ rN := Nat.le_of_not_lt (fun q => c_13 ((nI_ltI (by omega) (by omega)).mpr q))
        refine lv_aload_n hx hb dX6_hands_16 rfl (lv_at hl 0 rfl) ?_
        refine gfX6_48 B hT hW (by decide) mE_0 rfl dX6_hands_17 ?_
        refine lv_iload hx hb dX6_hands_20 (lv_at hl 4 rfl) ?_
        refine lv_aload_n hx hb dX6_hands_22 rfl (lv_at hl 0 rfl) ?_
        refine lv_iload_n hx hb dX6_hands_23 rfl (lv_at hl 1 rfl) ?_
        refine lv_iload hx hb dX6_hands_24 (lv_at hl 4 rfl) ?_
        refine b_ci (b_runV B hT hX hW hS (As := [.int (nI h), .int (nI i)]) (rest := [.int (nI i), .ref (ad 12)]) (fun sz => mm_sumOf hI th nP nH rN nf pn sp sk ag V T pd py (sett du (due V ag nP h) i) mA1 mC1 mH1 mG1 mS1 mI1 mT1 mP1 h i so hti htz hInv (by omega) (by omega) sz) (cwX6_148 B.2.2.2.2.1 ⟨Nat.le_of_ble_eq_true rfl, Nat.le_of_ble_eq_true rfl⟩) (b_recv B hW (by decide) mE_0 rfl) rfl hl.1 (Nat.le_of_ble_eq_true rfl) dX6_hands_26 ⟨Nat.le_of_ble_eq_true rfl, Nat.le_of_ble_eq_true rfl⟩) hS (fun r_26 E1 H locs hp_26 hW hS => ?_)
        obtain ⟨hr_, jA_26, jB_26, jC_26, jD_26, jE_26, jF_26, jG_26, jH_26, hE_⟩ := hp_26
        subst hr_
        have hW := hW.eq hE_
        refine b_iast B hI hA hW hS hti (j := i) (by decide) mE_12 (vp_in_nI (by omega) (Nat.le_of_ble_eq_true rfl)) (nI_clamp (by omega)) dX6_hands_29 (fun H locs hW hS => ?_)
        have hW := hW.eq (E' := mE cI cZ ad th nP nH rN nf pn sp sk ag (RV V) (RV T) (FL pd) (FL py) (upd (sett du (due V ag nP h) i) i (due V ag nP h i)) jA_26 jB_26 jC_26 jD_26 jE_26 jF_26 jG_26 jH_26) (mE_u12 _)
        refine lv_iinc (v := (nI (i + 1))) (lv' := [(4, .int (nI (i + 1))), (0, .ref (ad 0)), (1, .int (nI h)), (2, .int 0), (3, .int 0)]) hx hb dX6_hands_30 hl (k := 4) rfl (nI_1 i) (by decide) rfl (fun ls hl => ?_)
        refine lv_goto (tgt := 7) hx hb dX6_hands_33 (by decide) ?_
        exact ih (i + 1) jA_26 jB_26 jC_26 jD_26 jE_26 jF_26 jG_26 jH_26 (by omega) (by omega) _ _ _ (hW.eq (by rw [sett_s])) hS (lv_sub hl [1, 2, 3, 4, 0] rfl)
  refine lv_iconst (v := 0) hx hb dX6_hands_0 (by decide) ?_
  refine lv_istore_n (lv' := [(2, .int 0), (0, .ref (ad 0)), (1, .int (nI h))]) hx hb dX6_hands_1 rfl hl (by decide) rfl (fun ls hl => ?_)
  refine lv_iconst (v := 0) hx hb dX6_hands_2 (by decide) ?_
  refine lv_istore_n (lv' := [(3, .int 0), (2, .int 0), (0, .ref (ad 0)), (1, .int (nI h))]) hx hb dX6_hands_3 rfl hl (by decide) rfl (fun ls hl => ?_)
  refine lv_iconst (v := 0) hx hb dX6_hands_4 (by decide) ?_
  refine lv_istore (lv' := [(4, .int 0), (3, .int 0), (2, .int 0), (0, .ref (ad 0)), (1, .int (nI h))]) hx hb dX6_hands_5 hl (by decide) rfl (fun ls hl => ?_)
  exact L_7 (rN + 2) 0 mA mC mH mG mS mI mT mP (by omega) (by omega) _ _ _ (hW.eq (by rw [sett_0])) hS (lv_sub hl [3, 4, 2, 1, 0] rfl)
