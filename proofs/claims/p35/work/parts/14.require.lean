theorem gfX5_77 {p : Program} {l : Launch} {e : Env} {R : Room} {s : State} {m : MethodId} {args : Array Value} {below : List Frame} {meth : Method} {c : Code} {H : Heap} {locs : List Loc} {cells slots : Nat} {Q : State → Prop} {cc : ByteArray} {pc nL : Nat} {ls : Array Slot} {rest : List Value} {D : va_G} {tys : List (ClassId × FieldType)} {ad : Nat → Nat} {N : Nat} {E : Nat → va_E} {k : Nat} {fs : List Value} {v : Value} (B : MB p c cc nL RX5 s m args D tys) (hT : TX s) (hW : hH D ad N E H) (hk : k < N) (he : E k = .inr (5, fs)) (hv : fs[4]? = some v) (hdg : decode cc pc = .ok (.getfield 77, 3)) (kk : W p l e R s m args below meth c H locs cells slots Q (F0 m (pc + 3) ls (v :: rest))) : W p l e R s m args below meth c H locs cells slots Q (F0 m pc ls (.ref (ad k) :: rest)) :=
  b_get B hW inlX5 rfl 4 (by decide) (r6_in _ (List.mem_of_getElem? (i := 2) rfl)) rfl hk he hv hdg kk
theorem gfX5_63 {p : Program} {l : Launch} {e : Env} {R : Room} {s : State} {m : MethodId} {args : Array Value} {below : List Frame} {meth : Method} {c : Code} {H : Heap} {locs : List Loc} {cells slots : Nat} {Q : State → Prop} {cc : ByteArray} {pc nL : Nat} {ls : Array Slot} {rest : List Value} {D : va_G} {tys : List (ClassId × FieldType)} {ad : Nat → Nat} {N : Nat} {E : Nat → va_E} {k : Nat} {fs : List Value} {v : Value} (B : MB p c cc nL RX5 s m args D tys) (hT : TX s) (hW : hH D ad N E H) (hk : k < N) (he : E k = .inr (5, fs)) (hv : fs[3]? = some v) (hdg : decode cc pc = .ok (.getfield 63, 3)) (kk : W p l e R s m args below meth c H locs cells slots Q (F0 m (pc + 3) ls (v :: rest))) : W p l e R s m args below meth c H locs cells slots Q (F0 m pc ls (.ref (ad k) :: rest)) :=
  b_get B hW inlX5 rfl 3 (by decide) (r5_in _ (List.mem_of_getElem? (i := 13) rfl)) rfl hk he hv hdg kk
theorem gfX5_11 {p : Program} {l : Launch} {e : Env} {R : Room} {s : State} {m : MethodId} {args : Array Value} {below : List Frame} {meth : Method} {c : Code} {H : Heap} {locs : List Loc} {cells slots : Nat} {Q : State → Prop} {cc : ByteArray} {pc nL : Nat} {ls : Array Slot} {rest : List Value} {D : va_G} {tys : List (ClassId × FieldType)} {ad : Nat → Nat} {N : Nat} {E : Nat → va_E} {k : Nat} {fs : List Value} {v : Value} (B : MB p c cc nL RX5 s m args D tys) (hT : TX s) (hW : hH D ad N E H) (hk : k < N) (he : E k = .inr (5, fs)) (hv : fs[0]? = some v) (hdg : decode cc pc = .ok (.getfield 11, 3)) (kk : W p l e R s m args below meth c H locs cells slots Q (F0 m (pc + 3) ls (v :: rest))) : W p l e R s m args below meth c H locs cells slots Q (F0 m pc ls (.ref (ad k) :: rest)) :=
  b_get B hW inlX5 rfl 0 (by decide) (r1_in _ (List.mem_of_getElem? (i := 10) rfl)) rfl hk he hv hdg kk
theorem cwX5_86 {R : Room} {s : State} {args : Array Value} {rm : Room} (hts : ∀ w ∈ wsL_law, w.before args s = true) (hR : rm.frames + 1 ≤ R.frames ∧ 8 + (2 + 11) + rm.locals ≤ R.locals) : CWV R s args RX5 RX5 86 yX5_requireHousehold cX5_requireHousehold 2 none rm rm.cells rm.slots 1 :=
  cwV 1 hts (gi_V (r6_in _ (List.mem_of_getElem? (i := 17) rfl)) (r6_in _ (List.mem_of_getElem? (i := 18) rfl)) (r6_in _ (List.mem_of_getElem? (i := 19) rfl)) (r1_in _ (List.mem_of_getElem? (i := 2) rfl)) (r6_in _ (List.mem_of_getElem? (i := 20) rfl))) rfl rfl rfl (by decide +kernel) hR
theorem gfX5_17 {p : Program} {l : Launch} {e : Env} {R : Room} {s : State} {m : MethodId} {args : Array Value} {below : List Frame} {meth : Method} {c : Code} {H : Heap} {locs : List Loc} {cells slots : Nat} {Q : State → Prop} {cc : ByteArray} {pc nL : Nat} {ls : Array Slot} {rest : List Value} {D : va_G} {tys : List (ClassId × FieldType)} {ad : Nat → Nat} {N : Nat} {E : Nat → va_E} {k : Nat} {fs : List Value} {v : Value} (B : MB p c cc nL RX5 s m args D tys) (hT : TX s) (hW : hH D ad N E H) (hk : k < N) (he : E k = .inr (5, fs)) (hv : fs[1]? = some v) (hdg : decode cc pc = .ok (.getfield 17, 3)) (kk : W p l e R s m args below meth c H locs cells slots Q (F0 m (pc + 3) ls (v :: rest))) : W p l e R s m args below meth c H locs cells slots Q (F0 m pc ls (.ref (ad k) :: rest)) :=
  b_get B hW inlX5 rfl 1 (by decide) (r1_in _ (List.mem_of_getElem? (i := 12) rfl)) rfl hk he hv hdg kk
theorem cwX5_237 {R : Room} {s : State} {args : Array Value} {rm : Room} (hts : ∀ w ∈ wsL_law, w.before args s = true) (hR : rm.frames + 1 ≤ R.frames ∧ 8 + (2 + 11) + rm.locals ≤ R.locals) : CWV R s args RX5 RX4 237 yX4_isToldFor cX4_isToldFor 2 (some .boolean) rm rm.cells rm.slots 1 :=
  cwV 1 hts (gi_V (r4_in _ (List.mem_of_getElem? (i := 2) rfl)) (r4_in _ (List.mem_of_getElem? (i := 3) rfl)) (r4_in _ (List.mem_of_getElem? (i := 4) rfl)) (r2_in _ (List.mem_of_getElem? (i := 7) rfl)) (r4_in _ (List.mem_of_getElem? (i := 5) rfl))) rfl rfl rfl (by decide +kernel) hR
theorem cwX5_167 {R : Room} {s : State} {args : Array Value} {rm : Room} (hts : ∀ w ∈ wsL_law, w.before args s = true) (hR : rm.frames + 1 ≤ R.frames ∧ 8 + (2 + 11) + rm.locals ≤ R.locals) : CWV R s args RX5 RX4 167 yX4_valueOn cX4_valueOn 2 (some .int) rm rm.cells rm.slots 1 :=
  cwV 1 hts (gi_V (r3_in _ (List.mem_of_getElem? (i := 22) rfl)) (r3_in _ (List.mem_of_getElem? (i := 23) rfl)) (r4_in _ (List.mem_of_getElem? (i := 0) rfl)) (r2_in _ (List.mem_of_getElem? (i := 7) rfl)) (r4_in _ (List.mem_of_getElem? (i := 1) rfl))) rfl rfl rfl (by decide +kernel) hR
theorem cwX5_243 {R : Room} {s : State} {args : Array Value} {rm : Room} (hts : ∀ w ∈ wsL_law, w.before args s = true) (hR : rm.frames + 1 ≤ R.frames ∧ 8 + (3 + 11) + rm.locals ≤ R.locals) : CWV R s args RX5 RX4 243 yX4_put cX4_put 3 none rm rm.cells rm.slots 2 :=
  cwV 2 hts (gi_V (r4_in _ (List.mem_of_getElem? (i := 9) rfl)) (r4_in _ (List.mem_of_getElem? (i := 10) rfl)) (r4_in _ (List.mem_of_getElem? (i := 11) rfl)) (r2_in _ (List.mem_of_getElem? (i := 7) rfl)) (r4_in _ (List.mem_of_getElem? (i := 12) rfl))) rfl rfl rfl (by decide +kernel) hR
theorem gfX5_27 {p : Program} {l : Launch} {e : Env} {R : Room} {s : State} {m : MethodId} {args : Array Value} {below : List Frame} {meth : Method} {c : Code} {H : Heap} {locs : List Loc} {cells slots : Nat} {Q : State → Prop} {cc : ByteArray} {pc nL : Nat} {ls : Array Slot} {rest : List Value} {D : va_G} {tys : List (ClassId × FieldType)} {ad : Nat → Nat} {N : Nat} {E : Nat → va_E} {k : Nat} {fs : List Value} {v : Value} (B : MB p c cc nL RX5 s m args D tys) (hT : TX s) (hW : hH D ad N E H) (hk : k < N) (he : E k = .inr (5, fs)) (hv : fs[5]? = some v) (hdg : decode cc pc = .ok (.getfield 27, 3)) (kk : W p l e R s m args below meth c H locs cells slots Q (F0 m (pc + 3) ls (v :: rest))) : W p l e R s m args below meth c H locs cells slots Q (F0 m pc ls (.ref (ad k) :: rest)) :=
  b_get B hW inlX5 rfl 5 (by decide) (r1_in _ (List.mem_of_getElem? (i := 16) rfl)) rfl hk he hv hdg kk
theorem gfX5_208 {p : Program} {l : Launch} {e : Env} {R : Room} {s : State} {m : MethodId} {args : Array Value} {below : List Frame} {meth : Method} {c : Code} {H : Heap} {locs : List Loc} {cells slots : Nat} {Q : State → Prop} {cc : ByteArray} {pc nL : Nat} {ls : Array Slot} {rest : List Value} {D : va_G} {tys : List (ClassId × FieldType)} {ad : Nat → Nat} {N : Nat} {E : Nat → va_E} {k : Nat} {fs : List Value} {v : Value} (B : MB p c cc nL RX5 s m args D tys) (hT : TX s) (hW : hH D ad N E H) (hk : k < N) (he : E k = .inr (5, fs)) (hv : fs[6]? = some v) (hdg : decode cc pc = .ok (.getfield 208, 3)) (kk : W p l e R s m args below meth c H locs cells slots Q (F0 m (pc + 3) ls (v :: rest))) : W p l e R s m args below meth c H locs cells slots Q (F0 m pc ls (.ref (ad k) :: rest)) :=
  b_get B hW inlX5 rfl 6 (by decide) (r3_in _ (List.mem_of_getElem? (i := 21) rfl)) rfl hk he hv hdg kk
theorem pfX5_208 {p : Program} {l : Launch} {e : Env} {R : Room} {s : State} {m : MethodId} {args : Array Value} {below : List Frame} {meth : Method} {c : Code} {H : Heap} {locs : List Loc} {cells slots : Nat} {Q : State → Prop} {cc : ByteArray} {pc nL : Nat} {ls : Array Slot} {rest : List Value} {D : va_G} {tys : List (ClassId × FieldType)} {ad : Nat → Nat} {N : Nat} {E : Nat → va_E} {k : Nat} {fs : List Value} {v : Value} {A : Nat → Prop} {H0 : Heap} (B : MB p c cc nL RX5 s m args D tys) (hT : TX s) (hI : aI ad N) (hA : ∀ k : Nat, k < N → A (ad k)) (hW : hH D ad N E H) (hS : va_S A H0 H locs) (hk : k < N) (he : E k = .inr (5, fs)) (hl : 6 < fs.length) (hn : narrow .int v = v) (hfit : fits .int v = true) (hdg : decode cc pc = .ok (.putfield 208, 3)) (kk : ∀ (H1 : Heap) (locs1 : List Loc), hH D ad N (va_up E k (.inr (5, fs.set 6 v))) H1 → va_S A H0 H1 locs1 → W p l e R s m args below meth c H1 locs1 cells slots Q (F0 m (pc + 3) ls rest)) : W p l e R s m args below meth c H locs cells slots Q (F0 m pc ls (v :: .ref (ad k) :: rest)) :=
  b_put B hI hA hW hS inlX5 tyX5 tyX5_ok nmX5 rfl 6 (by decide) (r3_in _ (List.mem_of_getElem? (i := 21) rfl)) rfl rfl (by decide +kernel) hk he hl hn hfit hdg kk
theorem cwX5_246 {R : Room} {s : State} {args : Array Value} {rm : Room} (hts : ∀ w ∈ wsL_law, w.before args s = true) (hR : rm.frames + 1 ≤ R.frames ∧ 8 + (2 + 11) + rm.locals ≤ R.locals) : CWV R s args RX5 RX4 246 yX4_remove cX4_remove 2 none rm rm.cells rm.slots 1 :=
  cwV 1 hts (gi_V (r13_in _ (List.mem_of_getElem? (i := 10) rfl)) (r13_in _ (List.mem_of_getElem? (i := 11) rfl)) (r13_in _ (List.mem_of_getElem? (i := 12) rfl)) (r2_in _ (List.mem_of_getElem? (i := 7) rfl)) (r13_in _ (List.mem_of_getElem? (i := 13) rfl))) rfl rfl rfl (by decide +kernel) hR
theorem gfX5_92 {p : Program} {l : Launch} {e : Env} {R : Room} {s : State} {m : MethodId} {args : Array Value} {below : List Frame} {meth : Method} {c : Code} {H : Heap} {locs : List Loc} {cells slots : Nat} {Q : State → Prop} {cc : ByteArray} {pc nL : Nat} {ls : Array Slot} {rest : List Value} {D : va_G} {tys : List (ClassId × FieldType)} {ad : Nat → Nat} {N : Nat} {E : Nat → va_E} {k : Nat} {fs : List Value} {v : Value} (B : MB p c cc nL RX5 s m args D tys) (hT : TX s) (hW : hH D ad N E H) (hk : k < N) (he : E k = .inr (2, fs)) (hv : fs[1]? = some v) (hdg : decode cc pc = .ok (.getfield 92, 3)) (kk : W p l e R s m args below meth c H locs cells slots Q (F0 m (pc + 3) ls (v :: rest))) : W p l e R s m args below meth c H locs cells slots Q (F0 m pc ls (.ref (ad k) :: rest)) :=
  b_getN B hT hW (host := "BenefitOffice") inlX2 rfl 1 (by decide) (List.mem_of_getElem? (i := 10) rfl) rfl hk he hv hdg kk
theorem gfX5_34 {p : Program} {l : Launch} {e : Env} {R : Room} {s : State} {m : MethodId} {args : Array Value} {below : List Frame} {meth : Method} {c : Code} {H : Heap} {locs : List Loc} {cells slots : Nat} {Q : State → Prop} {cc : ByteArray} {pc nL : Nat} {ls : Array Slot} {rest : List Value} {D : va_G} {tys : List (ClassId × FieldType)} {ad : Nat → Nat} {N : Nat} {E : Nat → va_E} {k : Nat} {fs : List Value} {v : Value} (B : MB p c cc nL RX5 s m args D tys) (hT : TX s) (hW : hH D ad N E H) (hk : k < N) (he : E k = .inr (5, fs)) (hv : fs[11]? = some v) (hdg : decode cc pc = .ok (.getfield 34, 3)) (kk : W p l e R s m args below meth c H locs cells slots Q (F0 m (pc + 3) ls (v :: rest))) : W p l e R s m args below meth c H locs cells slots Q (F0 m pc ls (.ref (ad k) :: rest)) :=
  b_get B hW inlX5 rfl 11 (by decide) (r1_in _ (List.mem_of_getElem? (i := 20) rfl)) rfl hk he hv hdg kk
theorem cwX5_252 {R : Room} {s : State} {args : Array Value} {rm : Room} (hts : ∀ w ∈ wsL_law, w.before args s = true) (hR : rm.frames + 1 ≤ R.frames ∧ 8 + (3 + 11) + rm.locals ≤ R.locals) : CWV R s args RX5 RX3 252 yX3_add cX3_add 3 none rm rm.cells rm.slots 2 :=
  cwV 2 hts (gi_V (r9_in _ (List.mem_of_getElem? (i := 7) rfl)) (r9_in _ (List.mem_of_getElem? (i := 8) rfl)) (r9_in _ (List.mem_of_getElem? (i := 9) rfl)) (r1_in _ (List.mem_of_getElem? (i := 19) rfl)) (r9_in _ (List.mem_of_getElem? (i := 10) rfl))) rfl rfl rfl (by decide +kernel) hR
theorem cwX5_249 {R : Room} {s : State} {args : Array Value} {rm : Room} (hts : ∀ w ∈ wsL_law, w.before args s = true) (hR : rm.frames + 1 ≤ R.frames ∧ 8 + (1 + 11) + rm.locals ≤ R.locals) : CWV R s args RX5 RX3 249 yX3_clear cX3_clear 1 none rm rm.cells rm.slots 0 :=
  cwV 0 hts (gi_V (r9_in _ (List.mem_of_getElem? (i := 0) rfl)) (r9_in _ (List.mem_of_getElem? (i := 1) rfl)) (r9_in _ (List.mem_of_getElem? (i := 2) rfl)) (r1_in _ (List.mem_of_getElem? (i := 19) rfl)) (r9_in _ (List.mem_of_getElem? (i := 3) rfl))) rfl rfl rfl (by decide +kernel) hR
theorem cwX5_171 {R : Room} {s : State} {args : Array Value} {rm : Room} (hts : ∀ w ∈ wsL_law, w.before args s = true) (hR : rm.frames + 1 ≤ R.frames ∧ 8 + (4 + 11) + rm.locals ≤ R.locals) : CWV R s args RX5 RX5 171 yX5_findResidents cX5_findResidents 4 none rm rm.cells rm.slots 2 :=
  cwV 2 hts (gi_V (r8_in _ (List.mem_of_getElem? (i := 20) rfl)) (r8_in _ (List.mem_of_getElem? (i := 21) rfl)) (r8_in _ (List.mem_of_getElem? (i := 22) rfl)) (r1_in _ (List.mem_of_getElem? (i := 2) rfl)) (r8_in _ (List.mem_of_getElem? (i := 23) rfl))) rfl rfl rfl (by decide +kernel) hR
theorem gfX5_41 {p : Program} {l : Launch} {e : Env} {R : Room} {s : State} {m : MethodId} {args : Array Value} {below : List Frame} {meth : Method} {c : Code} {H : Heap} {locs : List Loc} {cells slots : Nat} {Q : State → Prop} {cc : ByteArray} {pc nL : Nat} {ls : Array Slot} {rest : List Value} {D : va_G} {tys : List (ClassId × FieldType)} {ad : Nat → Nat} {N : Nat} {E : Nat → va_E} {k : Nat} {fs : List Value} {v : Value} (B : MB p c cc nL RX5 s m args D tys) (hT : TX s) (hW : hH D ad N E H) (hk : k < N) (he : E k = .inr (5, fs)) (hv : fs[12]? = some v) (hdg : decode cc pc = .ok (.getfield 41, 3)) (kk : W p l e R s m args below meth c H locs cells slots Q (F0 m (pc + 3) ls (v :: rest))) : W p l e R s m args below meth c H locs cells slots Q (F0 m pc ls (.ref (ad k) :: rest)) :=
  b_get B hW inlX5 rfl 12 (by decide) (r2_in _ (List.mem_of_getElem? (i := 0) rfl)) rfl hk he hv hdg kk
theorem cwX5_256 {R : Room} {s : State} {args : Array Value} {rm : Room} (hts : ∀ w ∈ wsL_law, w.before args s = true) (hR : rm.frames + 1 ≤ R.frames ∧ 8 + (1 + 11) + rm.locals ≤ R.locals) : CWV R s args RX5 RX0 256 yX0_clear cX0_clear 1 none rm rm.cells rm.slots 0 :=
  cwV 0 hts (gi_V (r9_in _ (List.mem_of_getElem? (i := 12) rfl)) (r9_in _ (List.mem_of_getElem? (i := 13) rfl)) (r9_in _ (List.mem_of_getElem? (i := 14) rfl)) (r1_in _ (List.mem_of_getElem? (i := 23) rfl)) (r9_in _ (List.mem_of_getElem? (i := 15) rfl))) rfl rfl rfl (by decide +kernel) hR
theorem gfX5_175 {p : Program} {l : Launch} {e : Env} {R : Room} {s : State} {m : MethodId} {args : Array Value} {below : List Frame} {meth : Method} {c : Code} {H : Heap} {locs : List Loc} {cells slots : Nat} {Q : State → Prop} {cc : ByteArray} {pc nL : Nat} {ls : Array Slot} {rest : List Value} {D : va_G} {tys : List (ClassId × FieldType)} {ad : Nat → Nat} {N : Nat} {E : Nat → va_E} {k : Nat} {fs : List Value} {v : Value} (B : MB p c cc nL RX5 s m args D tys) (hT : TX s) (hW : hH D ad N E H) (hk : k < N) (he : E k = .inr (3, fs)) (hv : fs[0]? = some v) (hdg : decode cc pc = .ok (.getfield 175, 3)) (kk : W p l e R s m args below meth c H locs cells slots Q (F0 m (pc + 3) ls (v :: rest))) : W p l e R s m args below meth c H locs cells slots Q (F0 m pc ls (.ref (ad k) :: rest)) :=
  b_getN B hT hW (host := "BenefitOffice") inlX3 rfl 0 (by decide) (List.mem_of_getElem? (i := 0) rfl) rfl hk he hv hdg kk
theorem gfX5_23 {p : Program} {l : Launch} {e : Env} {R : Room} {s : State} {m : MethodId} {args : Array Value} {below : List Frame} {meth : Method} {c : Code} {H : Heap} {locs : List Loc} {cells slots : Nat} {Q : State → Prop} {cc : ByteArray} {pc nL : Nat} {ls : Array Slot} {rest : List Value} {D : va_G} {tys : List (ClassId × FieldType)} {ad : Nat → Nat} {N : Nat} {E : Nat → va_E} {k : Nat} {fs : List Value} {v : Value} (B : MB p c cc nL RX5 s m args D tys) (hT : TX s) (hW : hH D ad N E H) (hk : k < N) (he : E k = .inr (5, fs)) (hv : fs[2]? = some v) (hdg : decode cc pc = .ok (.getfield 23, 3)) (kk : W p l e R s m args below meth c H locs cells slots Q (F0 m (pc + 3) ls (v :: rest))) : W p l e R s m args below meth c H locs cells slots Q (F0 m pc ls (.ref (ad k) :: rest)) :=
  b_get B hW inlX5 rfl 2 (by decide) (r1_in _ (List.mem_of_getElem? (i := 14) rfl)) rfl hk he hv hdg kk
theorem pfX5_186 {p : Program} {l : Launch} {e : Env} {R : Room} {s : State} {m : MethodId} {args : Array Value} {below : List Frame} {meth : Method} {c : Code} {H : Heap} {locs : List Loc} {cells slots : Nat} {Q : State → Prop} {cc : ByteArray} {pc nL : Nat} {ls : Array Slot} {rest : List Value} {D : va_G} {tys : List (ClassId × FieldType)} {ad : Nat → Nat} {N : Nat} {E : Nat → va_E} {k : Nat} {fs : List Value} {v : Value} {A : Nat → Prop} {H0 : Heap} (B : MB p c cc nL RX5 s m args D tys) (hT : TX s) (hI : aI ad N) (hA : ∀ k : Nat, k < N → A (ad k)) (hW : hH D ad N E H) (hS : va_S A H0 H locs) (hk : k < N) (he : E k = .inr (0, fs)) (hl : 0 < fs.length) (hn : narrow .int v = v) (hfit : fits .int v = true) (hdg : decode cc pc = .ok (.putfield 186, 3)) (kk : ∀ (H1 : Heap) (locs1 : List Loc), hH D ad N (va_up E k (.inr (0, fs.set 0 v))) H1 → va_S A H0 H1 locs1 → W p l e R s m args below meth c H1 locs1 cells slots Q (F0 m (pc + 3) ls rest)) : W p l e R s m args below meth c H locs cells slots Q (F0 m pc ls (v :: .ref (ad k) :: rest)) :=
  b_putN B hT hI hA hW hS (host := "BenefitOffice") inlX0 tyX0 tyX0_ok nmX0 rfl 0 (by decide) (List.mem_of_getElem? (i := 3) rfl) rfl rfl (by decide +kernel) hk he hl hn hfit hdg kk
theorem gfX5_178 {p : Program} {l : Launch} {e : Env} {R : Room} {s : State} {m : MethodId} {args : Array Value} {below : List Frame} {meth : Method} {c : Code} {H : Heap} {locs : List Loc} {cells slots : Nat} {Q : State → Prop} {cc : ByteArray} {pc nL : Nat} {ls : Array Slot} {rest : List Value} {D : va_G} {tys : List (ClassId × FieldType)} {ad : Nat → Nat} {N : Nat} {E : Nat → va_E} {k : Nat} {fs : List Value} {v : Value} (B : MB p c cc nL RX5 s m args D tys) (hT : TX s) (hW : hH D ad N E H) (hk : k < N) (he : E k = .inr (3, fs)) (hv : fs[1]? = some v) (hdg : decode cc pc = .ok (.getfield 178, 3)) (kk : W p l e R s m args below meth c H locs cells slots Q (F0 m (pc + 3) ls (v :: rest))) : W p l e R s m args below meth c H locs cells slots Q (F0 m pc ls (.ref (ad k) :: rest)) :=
  b_getN B hT hW (host := "BenefitOffice") inlX3 rfl 1 (by decide) (List.mem_of_getElem? (i := 1) rfl) rfl hk he hv hdg kk
theorem pfX5_189 {p : Program} {l : Launch} {e : Env} {R : Room} {s : State} {m : MethodId} {args : Array Value} {below : List Frame} {meth : Method} {c : Code} {H : Heap} {locs : List Loc} {cells slots : Nat} {Q : State → Prop} {cc : ByteArray} {pc nL : Nat} {ls : Array Slot} {rest : List Value} {D : va_G} {tys : List (ClassId × FieldType)} {ad : Nat → Nat} {N : Nat} {E : Nat → va_E} {k : Nat} {fs : List Value} {v : Value} {A : Nat → Prop} {H0 : Heap} (B : MB p c cc nL RX5 s m args D tys) (hT : TX s) (hI : aI ad N) (hA : ∀ k : Nat, k < N → A (ad k)) (hW : hH D ad N E H) (hS : va_S A H0 H locs) (hk : k < N) (he : E k = .inr (0, fs)) (hl : 1 < fs.length) (hn : narrow .int v = v) (hfit : fits .int v = true) (hdg : decode cc pc = .ok (.putfield 189, 3)) (kk : ∀ (H1 : Heap) (locs1 : List Loc), hH D ad N (va_up E k (.inr (0, fs.set 1 v))) H1 → va_S A H0 H1 locs1 → W p l e R s m args below meth c H1 locs1 cells slots Q (F0 m (pc + 3) ls rest)) : W p l e R s m args below meth c H locs cells slots Q (F0 m pc ls (v :: .ref (ad k) :: rest)) :=
  b_putN B hT hI hA hW hS (host := "BenefitOffice") inlX0 tyX0 tyX0_ok nmX0 rfl 1 (by decide) (List.mem_of_getElem? (i := 4) rfl) rfl rfl (by decide +kernel) hk he hl hn hfit hdg kk
theorem gfX5_103 {p : Program} {l : Launch} {e : Env} {R : Room} {s : State} {m : MethodId} {args : Array Value} {below : List Frame} {meth : Method} {c : Code} {H : Heap} {locs : List Loc} {cells slots : Nat} {Q : State → Prop} {cc : ByteArray} {pc nL : Nat} {ls : Array Slot} {rest : List Value} {D : va_G} {tys : List (ClassId × FieldType)} {ad : Nat → Nat} {N : Nat} {E : Nat → va_E} {k : Nat} {fs : List Value} {v : Value} (B : MB p c cc nL RX5 s m args D tys) (hT : TX s) (hW : hH D ad N E H) (hk : k < N) (he : E k = .inr (1, fs)) (hv : fs[0]? = some v) (hdg : decode cc pc = .ok (.getfield 103, 3)) (kk : W p l e R s m args below meth c H locs cells slots Q (F0 m (pc + 3) ls (v :: rest))) : W p l e R s m args below meth c H locs cells slots Q (F0 m pc ls (.ref (ad k) :: rest)) :=
  b_getN B hT hW (host := "BenefitOffice") inlX1 rfl 0 (by decide) (List.mem_of_getElem? (i := 13) rfl) rfl hk he hv hdg kk
theorem pfX5_192 {p : Program} {l : Launch} {e : Env} {R : Room} {s : State} {m : MethodId} {args : Array Value} {below : List Frame} {meth : Method} {c : Code} {H : Heap} {locs : List Loc} {cells slots : Nat} {Q : State → Prop} {cc : ByteArray} {pc nL : Nat} {ls : Array Slot} {rest : List Value} {D : va_G} {tys : List (ClassId × FieldType)} {ad : Nat → Nat} {N : Nat} {E : Nat → va_E} {k : Nat} {fs : List Value} {v : Value} {A : Nat → Prop} {H0 : Heap} (B : MB p c cc nL RX5 s m args D tys) (hT : TX s) (hI : aI ad N) (hA : ∀ k : Nat, k < N → A (ad k)) (hW : hH D ad N E H) (hS : va_S A H0 H locs) (hk : k < N) (he : E k = .inr (0, fs)) (hl : 2 < fs.length) (hn : narrow .int v = v) (hfit : fits .int v = true) (hdg : decode cc pc = .ok (.putfield 192, 3)) (kk : ∀ (H1 : Heap) (locs1 : List Loc), hH D ad N (va_up E k (.inr (0, fs.set 2 v))) H1 → va_S A H0 H1 locs1 → W p l e R s m args below meth c H1 locs1 cells slots Q (F0 m (pc + 3) ls rest)) : W p l e R s m args below meth c H locs cells slots Q (F0 m pc ls (v :: .ref (ad k) :: rest)) :=
  b_putN B hT hI hA hW hS (host := "BenefitOffice") inlX0 tyX0 tyX0_ok nmX0 rfl 2 (by decide) (List.mem_of_getElem? (i := 5) rfl) rfl rfl (by decide +kernel) hk he hl hn hfit hdg kk
theorem gfX5_181 {p : Program} {l : Launch} {e : Env} {R : Room} {s : State} {m : MethodId} {args : Array Value} {below : List Frame} {meth : Method} {c : Code} {H : Heap} {locs : List Loc} {cells slots : Nat} {Q : State → Prop} {cc : ByteArray} {pc nL : Nat} {ls : Array Slot} {rest : List Value} {D : va_G} {tys : List (ClassId × FieldType)} {ad : Nat → Nat} {N : Nat} {E : Nat → va_E} {k : Nat} {fs : List Value} {v : Value} (B : MB p c cc nL RX5 s m args D tys) (hT : TX s) (hW : hH D ad N E H) (hk : k < N) (he : E k = .inr (3, fs)) (hv : fs[2]? = some v) (hdg : decode cc pc = .ok (.getfield 181, 3)) (kk : W p l e R s m args below meth c H locs cells slots Q (F0 m (pc + 3) ls (v :: rest))) : W p l e R s m args below meth c H locs cells slots Q (F0 m pc ls (.ref (ad k) :: rest)) :=
  b_getN B hT hW (host := "BenefitOffice") inlX3 rfl 2 (by decide) (List.mem_of_getElem? (i := 2) rfl) rfl hk he hv hdg kk
theorem cwX5_265 {R : Room} {s : State} {args : Array Value} {rm : Room} (hts : ∀ w ∈ wsL_law, w.before args s = true) (hR : rm.frames + 1 ≤ R.frames ∧ 8 + (7 + 11) + rm.locals ≤ R.locals) : CWV R s args RX5 RX0 265 yX0_limitTo cX0_limitTo 7 none rm rm.cells rm.slots 1 :=
  cwV 1 hts (gi_V (r10_in _ (List.mem_of_getElem? (i := 2) rfl)) (r10_in _ (List.mem_of_getElem? (i := 3) rfl)) (r10_in _ (List.mem_of_getElem? (i := 4) rfl)) (r1_in _ (List.mem_of_getElem? (i := 23) rfl)) (r10_in _ (List.mem_of_getElem? (i := 5) rfl))) rfl rfl rfl (by decide +kernel) hR
theorem cwX5_262 {R : Room} {s : State} {args : Array Value} {rm : Room} (hts : ∀ w ∈ wsL_law, w.before args s = true) (hR : rm.frames + 1 ≤ R.frames ∧ 8 + (4 + 11) + rm.locals ≤ R.locals) : CWV R s args RX5 RX0 262 yX0_taper cX0_taper 4 none rm rm.cells rm.slots 1 :=
  cwV 1 hts (gi_V (r9_in _ (List.mem_of_getElem? (i := 21) rfl)) (r9_in _ (List.mem_of_getElem? (i := 22) rfl)) (r9_in _ (List.mem_of_getElem? (i := 23) rfl)) (r1_in _ (List.mem_of_getElem? (i := 23) rfl)) (r10_in _ (List.mem_of_getElem? (i := 0) rfl))) rfl rfl rfl (by decide +kernel) hR
theorem gfX5_189 {p : Program} {l : Launch} {e : Env} {R : Room} {s : State} {m : MethodId} {args : Array Value} {below : List Frame} {meth : Method} {c : Code} {H : Heap} {locs : List Loc} {cells slots : Nat} {Q : State → Prop} {cc : ByteArray} {pc nL : Nat} {ls : Array Slot} {rest : List Value} {D : va_G} {tys : List (ClassId × FieldType)} {ad : Nat → Nat} {N : Nat} {E : Nat → va_E} {k : Nat} {fs : List Value} {v : Value} (B : MB p c cc nL RX5 s m args D tys) (hT : TX s) (hW : hH D ad N E H) (hk : k < N) (he : E k = .inr (0, fs)) (hv : fs[1]? = some v) (hdg : decode cc pc = .ok (.getfield 189, 3)) (kk : W p l e R s m args below meth c H locs cells slots Q (F0 m (pc + 3) ls (v :: rest))) : W p l e R s m args below meth c H locs cells slots Q (F0 m pc ls (.ref (ad k) :: rest)) :=
  b_getN B hT hW (host := "BenefitOffice") inlX0 rfl 1 (by decide) (List.mem_of_getElem? (i := 4) rfl) rfl hk he hv hdg kk
theorem cwX5_183 {R : Room} {s : State} {args : Array Value} {rm : Room} (hts : ∀ w ∈ wsL_law, w.before args s = true) (hR : rm.frames + 1 ≤ R.frames ∧ 8 + (4 + 11) + rm.locals ≤ R.locals) : CWV R s args RX5 RX5 183 yX5_findAmounts cX5_findAmounts 4 none rm rm.cells rm.slots 2 :=
  cwV 2 hts (gi_V (r8_in _ (List.mem_of_getElem? (i := 12) rfl)) (r8_in _ (List.mem_of_getElem? (i := 13) rfl)) (r8_in _ (List.mem_of_getElem? (i := 14) rfl)) (r1_in _ (List.mem_of_getElem? (i := 2) rfl)) (r8_in _ (List.mem_of_getElem? (i := 15) rfl))) rfl rfl rfl (by decide +kernel) hR
theorem cwX5_204 {R : Room} {s : State} {args : Array Value} {rm : Room} (hts : ∀ w ∈ wsL_law, w.before args s = true) (hR : rm.frames + 1 ≤ R.frames ∧ 8 + (1 + 11) + rm.locals ≤ R.locals) : CWV R s args RX5 RX0 204 yX0_sum cX0_sum 1 (some .int) rm rm.cells rm.slots 0 :=
  cwV 0 hts (gi_V (r10_in _ (List.mem_of_getElem? (i := 10) rfl)) (r10_in _ (List.mem_of_getElem? (i := 7) rfl)) (r10_in _ (List.mem_of_getElem? (i := 8) rfl)) (r1_in _ (List.mem_of_getElem? (i := 23) rfl)) (r10_in _ (List.mem_of_getElem? (i := 9) rfl))) rfl rfl rfl (by decide +kernel) hR
theorem gfX5_45 {p : Program} {l : Launch} {e : Env} {R : Room} {s : State} {m : MethodId} {args : Array Value} {below : List Frame} {meth : Method} {c : Code} {H : Heap} {locs : List Loc} {cells slots : Nat} {Q : State → Prop} {cc : ByteArray} {pc nL : Nat} {ls : Array Slot} {rest : List Value} {D : va_G} {tys : List (ClassId × FieldType)} {ad : Nat → Nat} {N : Nat} {E : Nat → va_E} {k : Nat} {fs : List Value} {v : Value} (B : MB p c cc nL RX5 s m args D tys) (hT : TX s) (hW : hH D ad N E H) (hk : k < N) (he : E k = .inr (5, fs)) (hv : fs[13]? = some v) (hdg : decode cc pc = .ok (.getfield 45, 3)) (kk : W p l e R s m args below meth c H locs cells slots Q (F0 m (pc + 3) ls (v :: rest))) : W p l e R s m args below meth c H locs cells slots Q (F0 m pc ls (.ref (ad k) :: rest)) :=
  b_get B hW inlX5 rfl 13 (by decide) (r2_in _ (List.mem_of_getElem? (i := 1) rfl)) rfl hk he hv hdg kk
theorem cwX5_268 {R : Room} {s : State} {args : Array Value} {rm : Room} (hts : ∀ w ∈ wsL_law, w.before args s = true) (hR : rm.frames + 1 ≤ R.frames ∧ 8 + (5 + 11) + rm.locals ≤ R.locals) : CWV R s args RX5 RX1 268 yX1_debtBefore cX1_debtBefore 5 (some .int) rm rm.cells rm.slots 2 :=
  cwV 2 hts (gi_V (r14_in _ (List.mem_of_getElem? (i := 22) rfl)) (r14_in _ (List.mem_of_getElem? (i := 23) rfl)) (r15_in _ (List.mem_of_getElem? (i := 0) rfl)) (r2_in _ (List.mem_of_getElem? (i := 5) rfl)) (r15_in _ (List.mem_of_getElem? (i := 1) rfl))) rfl rfl rfl (by decide +kernel) hR
theorem cwX5_276 {R : Room} {s : State} {args : Array Value} {rm : Room} (hts : ∀ w ∈ wsL_law, w.before args s = true) (hR : rm.frames + 1 ≤ R.frames ∧ 8 + (7 + 11) + rm.locals ≤ R.locals) : CWV R s args RX5 RX1 276 yX1_settleInPart cX1_settleInPart 7 none rm rm.cells rm.slots 3 :=
  cwV 3 hts (gi_V (r15_in _ (List.mem_of_getElem? (i := 6) rfl)) (r15_in _ (List.mem_of_getElem? (i := 7) rfl)) (r15_in _ (List.mem_of_getElem? (i := 8) rfl)) (r2_in _ (List.mem_of_getElem? (i := 5) rfl)) (r15_in _ (List.mem_of_getElem? (i := 9) rfl))) rfl rfl rfl (by decide +kernel) hR
theorem gfX5_164 {p : Program} {l : Launch} {e : Env} {R : Room} {s : State} {m : MethodId} {args : Array Value} {below : List Frame} {meth : Method} {c : Code} {H : Heap} {locs : List Loc} {cells slots : Nat} {Q : State → Prop} {cc : ByteArray} {pc nL : Nat} {ls : Array Slot} {rest : List Value} {D : va_G} {tys : List (ClassId × FieldType)} {ad : Nat → Nat} {N : Nat} {E : Nat → va_E} {k : Nat} {fs : List Value} {v : Value} (B : MB p c cc nL RX5 s m args D tys) (hT : TX s) (hW : hH D ad N E H) (hk : k < N) (he : E k = .inr (5, fs)) (hv : fs[10]? = some v) (hdg : decode cc pc = .ok (.getfield 164, 3)) (kk : W p l e R s m args below meth c H locs cells slots Q (F0 m (pc + 3) ls (v :: rest))) : W p l e R s m args below meth c H locs cells slots Q (F0 m pc ls (.ref (ad k) :: rest)) :=
  b_get B hW inlX5 rfl 10 (by decide) (r7_in _ (List.mem_of_getElem? (i := 19) rfl)) rfl hk he hv hdg kk
theorem pfX5_164 {p : Program} {l : Launch} {e : Env} {R : Room} {s : State} {m : MethodId} {args : Array Value} {below : List Frame} {meth : Method} {c : Code} {H : Heap} {locs : List Loc} {cells slots : Nat} {Q : State → Prop} {cc : ByteArray} {pc nL : Nat} {ls : Array Slot} {rest : List Value} {D : va_G} {tys : List (ClassId × FieldType)} {ad : Nat → Nat} {N : Nat} {E : Nat → va_E} {k : Nat} {fs : List Value} {v : Value} {A : Nat → Prop} {H0 : Heap} (B : MB p c cc nL RX5 s m args D tys) (hT : TX s) (hI : aI ad N) (hA : ∀ k : Nat, k < N → A (ad k)) (hW : hH D ad N E H) (hS : va_S A H0 H locs) (hk : k < N) (he : E k = .inr (5, fs)) (hl : 10 < fs.length) (hn : narrow .long v = v) (hfit : fits .long v = true) (hdg : decode cc pc = .ok (.putfield 164, 3)) (kk : ∀ (H1 : Heap) (locs1 : List Loc), hH D ad N (va_up E k (.inr (5, fs.set 10 v))) H1 → va_S A H0 H1 locs1 → W p l e R s m args below meth c H1 locs1 cells slots Q (F0 m (pc + 3) ls rest)) : W p l e R s m args below meth c H locs cells slots Q (F0 m pc ls (v :: .ref (ad k) :: rest)) :=
  b_put B hI hA hW hS inlX5 tyX5 tyX5_ok nmX5 rfl 10 (by decide) (r7_in _ (List.mem_of_getElem? (i := 19) rfl)) rfl rfl (by decide +kernel) hk he hl hn hfit hdg kk
theorem gfX5_155 {p : Program} {l : Launch} {e : Env} {R : Room} {s : State} {m : MethodId} {args : Array Value} {below : List Frame} {meth : Method} {c : Code} {H : Heap} {locs : List Loc} {cells slots : Nat} {Q : State → Prop} {cc : ByteArray} {pc nL : Nat} {ls : Array Slot} {rest : List Value} {D : va_G} {tys : List (ClassId × FieldType)} {ad : Nat → Nat} {N : Nat} {E : Nat → va_E} {k : Nat} {fs : List Value} {v : Value} (B : MB p c cc nL RX5 s m args D tys) (hT : TX s) (hW : hH D ad N E H) (hk : k < N) (he : E k = .inr (1, fs)) (hv : fs[1]? = some v) (hdg : decode cc pc = .ok (.getfield 155, 3)) (kk : W p l e R s m args below meth c H locs cells slots Q (F0 m (pc + 3) ls (v :: rest))) : W p l e R s m args below meth c H locs cells slots Q (F0 m pc ls (.ref (ad k) :: rest)) :=
  b_getN B hT hW (host := "BenefitOffice") inlX1 rfl 1 (by decide) (List.mem_of_getElem? (i := 14) rfl) rfl hk he hv hdg kk
theorem cwX5_272 {R : Room} {s : State} {args : Array Value} {rm : Room} (hts : ∀ w ∈ wsL_law, w.before args s = true) (hR : rm.frames + 1 ≤ R.frames ∧ 8 + (4 + 11) + rm.locals ≤ R.locals) : CWV R s args RX5 RX1 272 yX1_settle cX1_settle 4 none rm rm.cells rm.slots 2 :=
  cwV 2 hts (gi_V (r15_in _ (List.mem_of_getElem? (i := 2) rfl)) (r15_in _ (List.mem_of_getElem? (i := 3) rfl)) (r15_in _ (List.mem_of_getElem? (i := 4) rfl)) (r2_in _ (List.mem_of_getElem? (i := 5) rfl)) (r15_in _ (List.mem_of_getElem? (i := 5) rfl))) rfl rfl rfl (by decide +kernel) hR
theorem cwX5_161 {R : Room} {s : State} {args : Array Value} {rm : Room} (hts : ∀ w ∈ wsL_law, w.before args s = true) (hR : rm.frames + 1 ≤ R.frames ∧ 8 + (7 + 11) + rm.locals ≤ R.locals) : CWV R s args RX5 RX5 161 yX5_sumByStretches cX5_sumByStretches 7 (some .int) rm rm.cells rm.slots 2 :=
  cwV 2 hts (gi_V (r8_in _ (List.mem_of_getElem? (i := 8) rfl)) (r8_in _ (List.mem_of_getElem? (i := 9) rfl)) (r8_in _ (List.mem_of_getElem? (i := 10) rfl)) (r1_in _ (List.mem_of_getElem? (i := 2) rfl)) (r8_in _ (List.mem_of_getElem? (i := 11) rfl))) rfl rfl rfl (by decide +kernel) hR
theorem noS {P : Nat → Prop} {i : Nat} (h : ∀ j, j < i → ¬ P j) (h2 : ¬ P i) : ∀ j, j < i + 1 → ¬ P j := fun j hj => (Nat.lt_or_eq_of_le (Nat.le_of_lt_succ hj)).elim (h j) (fun q => by rw [q]; exact h2)
set_option maxHeartbeats 4000000 in
set_option maxRecDepth 100000 in
theorem mt_reqDay {l : Launch} (hlf : l.stackTraces = false) {D : va_G} {tys : List (ClassId × FieldType)} {ad : Nat → Nat} {N : Nat} (hI : aI ad N) {E : Nat → va_E} (x : Int32)  (sz : Nat) : vx_Met l yX5_requireDay (Cond.code yX5_requireDay cX5_requireDay 1 none :: wsL_law) (rmk 0 1 6) (va_Pc [.int x] (PC D tys ad N E sz)) (Qv D ad N (fun E1 => vp_in x 360 ∧ E1 = E) (cA ad N sz)) (Xx D ad N (fun Ex E1 => Ex = xIAE ∧ ¬ vp_in x 360 ∧ E1 = E) (cA ad N sz)) 1 6 (cA ad N sz) := by
  refine cx_of (own := RX5) (Qc := Qv D ad N (fun E1 => vp_in x 360 ∧ E1 = E)) (XC := Xx D ad N (fun Ex E1 => Ex = xIAE ∧ ¬ vp_in x 360 ∧ E1 = E)) rfl (by decide +kernel) (Nat.le_of_ble_eq_true rfl) ?_ sz
  intro p e s m args below meth c ls Q B hT hX hW hr hlk htb hl hS hA hQ
  have hx := B.1
  have hb := B.2.1
  have hl : lv_has ls 1 [(0, .int x)] := hl
  refine lv_iload_n hx hb dX5_requireDay_0 rfl (lv_at hl 0 rfl) ?_
  refine lv_if_lt (tgt := 11) hx hb dX5_requireDay_1 (by decide) (fun c_1 => ?_) (fun c_1 => ?_)
  · skip
    exact b_throw hQ B hT hX hW hS hlf xf_IAE (List.mem_of_getElem? (i := 12) rfl) hl.1 dX5_requireDay_11 dX5_requireDay_14 dX5_requireDay_15 dX5_requireDay_17 dX5_requireDay_20 htb hlk (Nat.le_of_ble_eq_true rfl) (Nat.le_of_ble_eq_true rfl) (Nat.le_of_ble_eq_true rfl) (Nat.le_of_ble_eq_true rfl) (Nat.le_of_ble_eq_true rfl) (Nat.le_of_ble_eq_true rfl) (⟨rfl, in_no1 c_1, rfl⟩)
  · skip
    refine lv_iload_n hx hb dX5_requireDay_4 rfl (lv_at hl 0 rfl) ?_
    refine lv_sipush (v := (nI 360)) hx hb dX5_requireDay_5 (by decide) ?_
    refine lv_icmp_lt (tgt := 21) hx hb dX5_requireDay_8 (by decide) (fun c_8 => ?_) (fun c_8 => ?_)
    · skip
      exact x_v hQ B hr hlk hS hW dX5_requireDay_21 (Nat.le_of_ble_eq_true rfl) (Nat.le_of_ble_eq_true rfl) (⟨in_of (by omega) c_1 c_8, rfl⟩)
    · skip
      exact b_throw hQ B hT hX hW hS hlf xf_IAE (List.mem_of_getElem? (i := 12) rfl) hl.1 dX5_requireDay_11 dX5_requireDay_14 dX5_requireDay_15 dX5_requireDay_17 dX5_requireDay_20 htb hlk (Nat.le_of_ble_eq_true rfl) (Nat.le_of_ble_eq_true rfl) (Nat.le_of_ble_eq_true rfl) (Nat.le_of_ble_eq_true rfl) (Nat.le_of_ble_eq_true rfl) (Nat.le_of_ble_eq_true rfl) (⟨rfl, in_no2 (by omega) c_8, rfl⟩)
set_option maxHeartbeats 4000000 in
set_option maxRecDepth 100000 in
theorem mt_reqMonth {l : Launch} (hlf : l.stackTraces = false) {D : va_G} {tys : List (ClassId × FieldType)} {ad : Nat → Nat} {N : Nat} (hI : aI ad N) {E : Nat → va_E} (x : Int32)  (sz : Nat) : vx_Met l yX5_requireMonth (Cond.code yX5_requireMonth cX5_requireMonth 1 none :: wsL_law) (rmk 0 1 6) (va_Pc [.int x] (PC D tys ad N E sz)) (Qv D ad N (fun E1 => vp_in x 12 ∧ E1 = E) (cA ad N sz)) (Xx D ad N (fun Ex E1 => Ex = xIOB ∧ ¬ vp_in x 12 ∧ E1 = E) (cA ad N sz)) 1 6 (cA ad N sz) := by
  refine cx_of (own := RX5) (Qc := Qv D ad N (fun E1 => vp_in x 12 ∧ E1 = E)) (XC := Xx D ad N (fun Ex E1 => Ex = xIOB ∧ ¬ vp_in x 12 ∧ E1 = E)) rfl (by decide +kernel) (Nat.le_of_ble_eq_true rfl) ?_ sz
  intro p e s m args below meth c ls Q B hT hX hW hr hlk htb hl hS hA hQ
  have hx := B.1
  have hb := B.2.1
  have hl : lv_has ls 1 [(0, .int x)] := hl
  refine lv_iload_n hx hb dX5_requireMonth_0 rfl (lv_at hl 0 rfl) ?_
  refine lv_if_lt (tgt := 10) hx hb dX5_requireMonth_1 (by decide) (fun c_1 => ?_) (fun c_1 => ?_)
  · skip
    exact b_throw hQ B hT hX hW hS hlf xf_IOB (List.mem_of_getElem? (i := 13) rfl) hl.1 dX5_requireMonth_10 dX5_requireMonth_13 dX5_requireMonth_14 dX5_requireMonth_16 dX5_requireMonth_19 htb hlk (Nat.le_of_ble_eq_true rfl) (Nat.le_of_ble_eq_true rfl) (Nat.le_of_ble_eq_true rfl) (Nat.le_of_ble_eq_true rfl) (Nat.le_of_ble_eq_true rfl) (Nat.le_of_ble_eq_true rfl) (⟨rfl, in_no1 c_1, rfl⟩)
  · skip
    refine lv_iload_n hx hb dX5_requireMonth_4 rfl (lv_at hl 0 rfl) ?_
    refine lv_bipush (v := (nI 12)) hx hb dX5_requireMonth_5 (by decide) ?_
    refine lv_icmp_lt (tgt := 20) hx hb dX5_requireMonth_7 (by decide) (fun c_7 => ?_) (fun c_7 => ?_)
    · skip
      exact x_v hQ B hr hlk hS hW dX5_requireMonth_20 (Nat.le_of_ble_eq_true rfl) (Nat.le_of_ble_eq_true rfl) (⟨in_of (by omega) c_1 c_7, rfl⟩)
    · skip
      exact b_throw hQ B hT hX hW hS hlf xf_IOB (List.mem_of_getElem? (i := 13) rfl) hl.1 dX5_requireMonth_10 dX5_requireMonth_13 dX5_requireMonth_14 dX5_requireMonth_16 dX5_requireMonth_19 htb hlk (Nat.le_of_ble_eq_true rfl) (Nat.le_of_ble_eq_true rfl) (Nat.le_of_ble_eq_true rfl) (Nat.le_of_ble_eq_true rfl) (Nat.le_of_ble_eq_true rfl) (Nat.le_of_ble_eq_true rfl) (⟨rfl, in_no2 (by omega) c_7, rfl⟩)
theorem in_of3 {x : Int32} (h1 : ¬ x < 0) (h2 : x ≤ nI 999) : vp_in x 1000 := by
  refine in_of (by omega) h1 ?_
  rw [fa_lt]
  have a1 := (fa_le _ _).mp h2
  rw [nI_toInt (by omega)] at a1 ⊢
  omega
theorem in_no3 {x : Int32} (h2 : ¬ x ≤ nI 999) : ¬ vp_in x 1000 := by
  refine in_no2 (by omega) (fun q => h2 ?_)
  rw [fa_le]
  have a1 := (fa_lt _ _).mp q
  rw [nI_toInt (by omega)] at a1 ⊢
  omega
set_option maxHeartbeats 4000000 in
set_option maxRecDepth 100000 in
theorem mt_reqNumber {l : Launch} (hlf : l.stackTraces = false) {D : va_G} {tys : List (ClassId × FieldType)} {ad : Nat → Nat} {N : Nat} (hI : aI ad N) {E : Nat → va_E} (x : Int32)  (sz : Nat) : vx_Met l yX5_requireNumber (Cond.code yX5_requireNumber cX5_requireNumber 1 none :: wsL_law) (rmk 0 1 6) (va_Pc [.int x] (PC D tys ad N E sz)) (Qv D ad N (fun E1 => vp_in x 1000 ∧ E1 = E) (cA ad N sz)) (Xx D ad N (fun Ex E1 => Ex = xIAE ∧ ¬ vp_in x 1000 ∧ E1 = E) (cA ad N sz)) 1 6 (cA ad N sz) := by
  refine cx_of (own := RX5) (Qc := Qv D ad N (fun E1 => vp_in x 1000 ∧ E1 = E)) (XC := Xx D ad N (fun Ex E1 => Ex = xIAE ∧ ¬ vp_in x 1000 ∧ E1 = E)) rfl (by decide +kernel) (Nat.le_of_ble_eq_true rfl) ?_ sz
  intro p e s m args below meth c ls Q B hT hX hW hr hlk htb hl hS hA hQ
  have hx := B.1
  have hb := B.2.1
  have hl : lv_has ls 1 [(0, .int x)] := hl
  refine lv_iload_n hx hb dX5_requireNumber_0 rfl (lv_at hl 0 rfl) ?_
  refine lv_if_lt (tgt := 11) hx hb dX5_requireNumber_1 (by decide) (fun c_1 => ?_) (fun c_1 => ?_)
  · skip
    exact b_throw hQ B hT hX hW hS hlf xf_IAE (List.mem_of_getElem? (i := 14) rfl) hl.1 dX5_requireNumber_11 dX5_requireNumber_14 dX5_requireNumber_15 dX5_requireNumber_17 dX5_requireNumber_20 htb hlk (Nat.le_of_ble_eq_true rfl) (Nat.le_of_ble_eq_true rfl) (Nat.le_of_ble_eq_true rfl) (Nat.le_of_ble_eq_true rfl) (Nat.le_of_ble_eq_true rfl) (Nat.le_of_ble_eq_true rfl) (⟨rfl, in_no1 c_1, rfl⟩)
  · skip
    refine lv_iload_n hx hb dX5_requireNumber_4 rfl (lv_at hl 0 rfl) ?_
    refine lv_sipush (v := (nI 999)) hx hb dX5_requireNumber_5 (by decide) ?_
    refine lv_icmp_le (tgt := 21) hx hb dX5_requireNumber_8 (by decide) (fun c_8 => ?_) (fun c_8 => ?_)
    · skip
      exact x_v hQ B hr hlk hS hW dX5_requireNumber_21 (Nat.le_of_ble_eq_true rfl) (Nat.le_of_ble_eq_true rfl) (⟨in_of3 c_1 c_8, rfl⟩)
    · skip
      exact b_throw hQ B hT hX hW hS hlf xf_IAE (List.mem_of_getElem? (i := 14) rfl) hl.1 dX5_requireNumber_11 dX5_requireNumber_14 dX5_requireNumber_15 dX5_requireNumber_17 dX5_requireNumber_20 htb hlk (Nat.le_of_ble_eq_true rfl) (Nat.le_of_ble_eq_true rfl) (Nat.le_of_ble_eq_true rfl) (Nat.le_of_ble_eq_true rfl) (Nat.le_of_ble_eq_true rfl) (Nat.le_of_ble_eq_true rfl) (⟨rfl, in_no3 c_8, rfl⟩)
set_option maxHeartbeats 4000000 in
set_option maxRecDepth 100000 in
theorem mt_reqHouse {l : Launch} (hlf : l.stackTraces = false) {D : va_G} {tys : List (ClassId × FieldType)} {ad : Nat → Nat} (hI : aI ad 109) {cI cZ cH cP cT : ClassId} (V T : Nat → Nat → Int32) (ag : Nat → Int32) (nP nH rN : Nat) (nf pn : Int32) (sp sk : Int64) (py pd : Nat → Nat → Int32) (so en : Nat → Int32) (rA rC rI aA aC aH aT aP : Int32) (x : Int32) (hH4 : nH ≤ 4) (sz : Nat) : vx_Met l yX5_requireHousehold (Cond.code yX5_requireHousehold cX5_requireHousehold 2 none :: wsL_law) (rmk 0 1 6) (va_Pc [.ref (ad 0), .int x] (PC D tys ad 109 (cE cI cZ cH cP cT ad V T ag nP nH rN nf pn sp sk py pd so en rA rC rI aA aC aH aT aP) sz)) (Qv D ad 109 (fun E1 => vp_in x nH ∧ E1 = cE cI cZ cH cP cT ad V T ag nP nH rN nf pn sp sk py pd so en rA rC rI aA aC aH aT aP) (cA ad 109 sz)) (Xx D ad 109 (fun Ex E1 => Ex = xIOB ∧ ¬ vp_in x nH ∧ E1 = cE cI cZ cH cP cT ad V T ag nP nH rN nf pn sp sk py pd so en rA rC rI aA aC aH aT aP) (cA ad 109 sz)) 1 6 (cA ad 109 sz) := by
  refine cx_of (own := RX5) (Qc := Qv D ad 109 (fun E1 => vp_in x nH ∧ E1 = cE cI cZ cH cP cT ad V T ag nP nH rN nf pn sp sk py pd so en rA rC rI aA aC aH aT aP)) (XC := Xx D ad 109 (fun Ex E1 => Ex = xIOB ∧ ¬ vp_in x nH ∧ E1 = cE cI cZ cH cP cT ad V T ag nP nH rN nf pn sp sk py pd so en rA rC rI aA aC aH aT aP)) rfl (by decide +kernel) (Nat.le_of_ble_eq_true rfl) ?_ sz
  intro p e s m args below meth c ls Q B hT hX hW hr hlk htb hl hS hA hQ
  have hx := B.1
  have hb := B.2.1
  have hl : lv_has ls 2 [(0, .ref (ad 0)), (1, .int x)] := hl
  refine lv_iload_n hx hb dX5_requireHousehold_0 rfl (lv_at hl 1 rfl) ?_
  refine lv_if_lt (tgt := 12) hx hb dX5_requireHousehold_1 (by decide) (fun c_1 => ?_) (fun c_1 => ?_)
  · skip
    exact b_throw hQ B hT hX hW hS hlf xf_IOB (List.mem_of_getElem? (i := 10) rfl) hl.1 dX5_requireHousehold_12 dX5_requireHousehold_15 dX5_requireHousehold_16 dX5_requireHousehold_18 dX5_requireHousehold_21 htb hlk (Nat.le_of_ble_eq_true rfl) (Nat.le_of_ble_eq_true rfl) (Nat.le_of_ble_eq_true rfl) (Nat.le_of_ble_eq_true rfl) (Nat.le_of_ble_eq_true rfl) (Nat.le_of_ble_eq_true rfl) (⟨rfl, in_no1 c_1, rfl⟩)
  · skip
    refine lv_iload_n hx hb dX5_requireHousehold_4 rfl (lv_at hl 1 rfl) ?_
    refine lv_aload_n hx hb dX5_requireHousehold_5 rfl (lv_at hl 0 rfl) ?_
    refine gfX5_77 B hT hW (by decide) cE_0 rfl dX5_requireHousehold_6 ?_
    refine lv_icmp_lt (tgt := 22) hx hb dX5_requireHousehold_9 (by decide) (fun c_9 => ?_) (fun c_9 => ?_)
    · skip
      exact x_v hQ B hr hlk hS hW dX5_requireHousehold_22 (Nat.le_of_ble_eq_true rfl) (Nat.le_of_ble_eq_true rfl) (⟨in_of (by omega) c_1 c_9, rfl⟩)
    · skip
      exact b_throw hQ B hT hX hW hS hlf xf_IOB (List.mem_of_getElem? (i := 10) rfl) hl.1 dX5_requireHousehold_12 dX5_requireHousehold_15 dX5_requireHousehold_16 dX5_requireHousehold_18 dX5_requireHousehold_21 htb hlk (Nat.le_of_ble_eq_true rfl) (Nat.le_of_ble_eq_true rfl) (Nat.le_of_ble_eq_true rfl) (Nat.le_of_ble_eq_true rfl) (Nat.le_of_ble_eq_true rfl) (Nat.le_of_ble_eq_true rfl) (⟨rfl, in_no2 (by omega) c_9, rfl⟩)
theorem in_le {x : Int32} {n m : Nat} (h : vp_in x n) (hm : n ≤ m) : vp_in x m := by
  rw [vp_in_iff] at h ⊢
  omega
set_option maxHeartbeats 4000000 in
set_option maxRecDepth 100000 in
theorem mt_persNum {l : Launch} (hlf : l.stackTraces = false) {D : va_G} {tys : List (ClassId × FieldType)} {ad : Nat → Nat} (hI : aI ad 109) {cI cZ cH cP cT : ClassId} (V T : Nat → Nat → Int32) (ag : Nat → Int32) (nP nH rN : Nat) (nf pn : Int32) (sp sk : Int64) (py pd : Nat → Nat → Int32) (so en : Nat → Int32) (rA rC rI aA aC aH aT aP : Int32) (x : Int32) (hti : tys[0]? = some (cI, .int)) (htz : cZ = cI) (hth : tys[2]? = some (cH, .object RX1)) (htp : tys[3]? = some (cP, .object RX2)) (htt : tys[4]? = some (cT, .object RX4)) (hP8 : nP ≤ 8) (sz : Nat) : vx_Met l yX5_personNumbered (Cond.code yX5_personNumbered cX5_personNumbered 2 (some (.object "BenefitOffice$Person")) :: wsL_law) (rmk 0 1 6) (va_Pc [.ref (ad 0), .int x] (PC D tys ad 109 (cE cI cZ cH cP cT ad V T ag nP nH rN nf pn sp sk py pd so en rA rC rI aA aC aH aT aP) sz)) (Qq D ad 109 (fun r E1 => vp_in x nP ∧ r = some (ad (8 + ix x)) ∧ E1 = cE cI cZ cH cP cT ad V T ag nP nH rN nf pn sp sk py pd so en rA rC rI aA aC aH aT aP) (cA ad 109 sz)) (Xx D ad 109 (fun Ex E1 => Ex = xIOB ∧ ¬ vp_in x nP ∧ E1 = cE cI cZ cH cP cT ad V T ag nP nH rN nf pn sp sk py pd so en rA rC rI aA aC aH aT aP) (cA ad 109 sz)) 1 6 (cA ad 109 sz) := by
  refine cx_of (own := RX5) (Qc := Qq D ad 109 (fun r E1 => vp_in x nP ∧ r = some (ad (8 + ix x)) ∧ E1 = cE cI cZ cH cP cT ad V T ag nP nH rN nf pn sp sk py pd so en rA rC rI aA aC aH aT aP)) (XC := Xx D ad 109 (fun Ex E1 => Ex = xIOB ∧ ¬ vp_in x nP ∧ E1 = cE cI cZ cH cP cT ad V T ag nP nH rN nf pn sp sk py pd so en rA rC rI aA aC aH aT aP)) rfl (by decide +kernel) (Nat.le_of_ble_eq_true rfl) ?_ sz
  intro p e s m args below meth c ls Q B hT hX hW hr hlk htb hl hS hA hQ
  have hx := B.1
  have hb := B.2.1
  have hl : lv_has ls 2 [(0, .ref (ad 0)), (1, .int x)] := hl
  refine lv_iload_n hx hb dX5_personNumbered_0 rfl (lv_at hl 1 rfl) ?_
  refine lv_if_lt (tgt := 12) hx hb dX5_personNumbered_1 (by decide) (fun c_1 => ?_) (fun c_1 => ?_)
  · skip
    exact b_throw hQ B hT hX hW hS hlf xf_IOB (List.mem_of_getElem? (i := 9) rfl) hl.1 dX5_personNumbered_12 dX5_personNumbered_15 dX5_personNumbered_16 dX5_personNumbered_18 dX5_personNumbered_21 htb hlk (Nat.le_of_ble_eq_true rfl) (Nat.le_of_ble_eq_true rfl) (Nat.le_of_ble_eq_true rfl) (Nat.le_of_ble_eq_true rfl) (Nat.le_of_ble_eq_true rfl) (Nat.le_of_ble_eq_true rfl) (⟨rfl, in_no1 c_1, rfl⟩)
  · skip
    refine lv_iload_n hx hb dX5_personNumbered_4 rfl (lv_at hl 1 rfl) ?_
    refine lv_aload_n hx hb dX5_personNumbered_5 rfl (lv_at hl 0 rfl) ?_
    refine gfX5_63 B hT hW (by decide) cE_0 rfl dX5_personNumbered_6 ?_
    refine lv_icmp_lt (tgt := 22) hx hb dX5_personNumbered_9 (by decide) (fun c_9 => ?_) (fun c_9 => ?_)
    · skip
      have hv8 := in_of (n := nP) (by omega) c_1 c_9
      refine lv_aload_n hx hb dX5_personNumbered_22 rfl (lv_at hl 0 rfl) ?_
      refine gfX5_11 B hT hW (by decide) cE_0 rfl dX5_personNumbered_23 ?_
      refine lv_iload_n hx hb dX5_personNumbered_26 rfl (lv_at hl 1 rfl) ?_
      refine b_aald B hW 3 htp (j := (ix x)) (by decide) cE_1 (in_le hv8 hP8) rfl rfl dX5_personNumbered_27 ?_
      exact x_q hQ B hr hlk hS hW dX5_personNumbered_28 (Nat.le_of_ble_eq_true rfl) (Nat.le_of_ble_eq_true rfl) (⟨hv8, rfl, rfl⟩)
    · skip
      exact b_throw hQ B hT hX hW hS hlf xf_IOB (List.mem_of_getElem? (i := 9) rfl) hl.1 dX5_personNumbered_12 dX5_personNumbered_15 dX5_personNumbered_16 dX5_personNumbered_18 dX5_personNumbered_21 htb hlk (Nat.le_of_ble_eq_true rfl) (Nat.le_of_ble_eq_true rfl) (Nat.le_of_ble_eq_true rfl) (Nat.le_of_ble_eq_true rfl) (Nat.le_of_ble_eq_true rfl) (Nat.le_of_ble_eq_true rfl) (⟨rfl, in_no2 (by omega) c_9, rfl⟩)
set_option maxHeartbeats 4000000 in
set_option maxRecDepth 100000 in
theorem mt_houseNum {l : Launch} (hlf : l.stackTraces = false) {D : va_G} {tys : List (ClassId × FieldType)} {ad : Nat → Nat} (hI : aI ad 109) {cI cZ cH cP cT : ClassId} (V T : Nat → Nat → Int32) (ag : Nat → Int32) (nP nH rN : Nat) (nf pn : Int32) (sp sk : Int64) (py pd : Nat → Nat → Int32) (so en : Nat → Int32) (rA rC rI aA aC aH aT aP : Int32) (x : Int32) (hti : tys[0]? = some (cI, .int)) (htz : cZ = cI) (hth : tys[2]? = some (cH, .object RX1)) (htp : tys[3]? = some (cP, .object RX2)) (htt : tys[4]? = some (cT, .object RX4)) (hH4 : nH ≤ 4) (sz : Nat) : vx_Met l yX5_householdNumbered (Cond.code yX5_householdNumbered cX5_householdNumbered 2 (some (.object "BenefitOffice$Household")) :: wsL_law) (rmk 1 2 12) (va_Pc [.ref (ad 0), .int x] (PC D tys ad 109 (cE cI cZ cH cP cT ad V T ag nP nH rN nf pn sp sk py pd so en rA rC rI aA aC aH aT aP) sz)) (Qq D ad 109 (fun r E1 => vp_in x nH ∧ r = some (ad (16 + ix x)) ∧ E1 = cE cI cZ cH cP cT ad V T ag nP nH rN nf pn sp sk py pd so en rA rC rI aA aC aH aT aP) (cA ad 109 sz)) (Xx D ad 109 (fun Ex E1 => Ex = xIOB ∧ ¬ vp_in x nH ∧ E1 = cE cI cZ cH cP cT ad V T ag nP nH rN nf pn sp sk py pd so en rA rC rI aA aC aH aT aP) (cA ad 109 sz)) 2 12 (cA ad 109 sz) := by
  refine cx_of (own := RX5) (Qc := Qq D ad 109 (fun r E1 => vp_in x nH ∧ r = some (ad (16 + ix x)) ∧ E1 = cE cI cZ cH cP cT ad V T ag nP nH rN nf pn sp sk py pd so en rA rC rI aA aC aH aT aP)) (XC := Xx D ad 109 (fun Ex E1 => Ex = xIOB ∧ ¬ vp_in x nH ∧ E1 = cE cI cZ cH cP cT ad V T ag nP nH rN nf pn sp sk py pd so en rA rC rI aA aC aH aT aP)) rfl (by decide +kernel) (Nat.le_of_ble_eq_true rfl) ?_ sz
  intro p e s m args below meth c ls Q B hT hX hW hr hlk htb hl hS hA hQ
  have hx := B.1
  have hb := B.2.1
  have hl : lv_has ls 2 [(0, .ref (ad 0)), (1, .int x)] := hl
  refine lv_aload_n hx hb dX5_householdNumbered_0 rfl (lv_at hl 0 rfl) ?_
  refine lv_iload_n hx hb dX5_householdNumbered_1 rfl (lv_at hl 1 rfl) ?_
  refine b_xcv hQ (b_xrunV B hT hX hW hS (As := [.int x]) (rest := []) (fun sz => mt_reqHouse hlf hI V T ag nP nH rN nf pn sp sk py pd so en rA rC rI aA aC aH aT aP x hH4 sz) (cwX5_86 B.2.2.2.2.1 ⟨Nat.le_of_ble_eq_true rfl, Nat.le_of_ble_eq_true rfl⟩) (b_recv B hW (by decide) cE_0 rfl) rfl hl.1 (Nat.le_of_ble_eq_true rfl) dX5_householdNumbered_2 ⟨Nat.le_of_ble_eq_true rfl, Nat.le_of_ble_eq_true rfl⟩) hS htb hlk (Nat.le_of_ble_eq_true rfl) (Nat.le_of_ble_eq_true rfl) (fun Ex E1 h => h) (fun E1 H locs hp_2 hW hS => ?_)
  obtain ⟨hv_2, hE_⟩ := hp_2
  have hW := hW.eq hE_
  refine lv_aload_n hx hb dX5_householdNumbered_5 rfl (lv_at hl 0 rfl) ?_
  refine gfX5_17 B hT hW (by decide) cE_0 rfl dX5_householdNumbered_6 ?_
  refine lv_iload_n hx hb dX5_householdNumbered_9 rfl (lv_at hl 1 rfl) ?_
  refine b_aald B hW 2 hth (j := (ix x)) (by decide) cE_2 (in_le hv_2 hH4) rfl rfl dX5_householdNumbered_10 ?_
  exact x_q hQ B hr hlk hS hW dX5_householdNumbered_11 (Nat.le_of_ble_eq_true rfl) (Nat.le_of_ble_eq_true rfl) (⟨hv_2, rfl, rfl⟩)
set_option maxHeartbeats 4000000 in
set_option maxRecDepth 100000 in
theorem mt_ruleIx {l : Launch} (hlf : l.stackTraces = false) {D : va_G} {tys : List (ClassId × FieldType)} {ad : Nat → Nat} {N : Nat} (hI : aI ad N) {E : Nat → va_E} (x : Int32)  (sz : Nat) : vx_Met l yX5_ruleIndex (Cond.code yX5_ruleIndex cX5_ruleIndex 2 (some .int) :: wsL_law) (rmk 0 1 6) (va_Pc [.int x] (PC D tys ad N E sz)) (Qi D ad N (fun r E1 => ∃ i, i < 7 ∧ r = nI i ∧ ruLet i = x ∧ E1 = E) (cA ad N sz)) (Xx D ad N (fun Ex E1 => Ex = xNSE ∧ (∀ j, j < 7 → ¬ ruLet j = x) ∧ E1 = E) (cA ad N sz)) 1 6 (cA ad N sz) := by
  refine cx_of (own := RX5) (Qc := Qi D ad N (fun r E1 => ∃ i, i < 7 ∧ r = nI i ∧ ruLet i = x ∧ E1 = E)) (XC := Xx D ad N (fun Ex E1 => Ex = xNSE ∧ (∀ j, j < 7 → ¬ ruLet j = x) ∧ E1 = E)) rfl (by decide +kernel) (Nat.le_of_ble_eq_true rfl) ?_ sz
  intro p e s m args below meth c ls Q B hT hX hW hr hlk htb hl hS hA hQ
  have hx := B.1
  have hb := B.2.1
  have hl : lv_has ls 2 [(0, .int x)] := hl
  have L_2 : ∀ (n_ : Nat) (i : Nat), (hi : i ≤ 7) → (hn : 7 < n_ + i) → (hno : ∀ j, j < i → ¬ ruLet j = x) → ∀ (H : Heap) (locs : List Loc) (ls : Array Slot), hH D ad N E H → va_S (cA ad N s.heap.size) s.heap H locs → lv_has ls 2 [(0, .int x), (1, .int (nI i))] → W p l e (rmk 0 1 6) s m args below meth c H locs 0 0 Q (F0 m 2 ls []) := by
    intro n_
    induction n_ with
    | zero =>
      intro i hi hn hno
      omega
    | succ n_ ih =>
      intro i hi hn hno H locs ls hW hS hl
      refine lv_iload_n hx hb dX5_ruleIndex_2 rfl (lv_at hl 1 rfl) ?_
      refine lv_bipush (v := (nI 7)) hx hb dX5_ruleIndex_3 (by decide) ?_
      refine lv_icmp_ge (tgt := 25) hx hb dX5_ruleIndex_5 (by decide) (fun c_5 => ?_) (fun c_5 => ?_)
      · skip
        exact b_throw hQ B hT hX hW hS hlf xf_NSE (List.mem_of_getElem? (i := 11) rfl) hl.1 dX5_ruleIndex_25 dX5_ruleIndex_28 dX5_ruleIndex_29 dX5_ruleIndex_31 dX5_ruleIndex_34 htb hlk (Nat.le_of_ble_eq_true rfl) (Nat.le_of_ble_eq_true rfl) (Nat.le_of_ble_eq_true rfl) (Nat.le_of_ble_eq_true rfl) (Nat.le_of_ble_eq_true rfl) (Nat.le_of_ble_eq_true rfl) (⟨rfl, fun j hj => hno j (by have := (nI_leI (by omega) (by omega)).mp c_5; omega), rfl⟩)
      · skip
        have q5 : i < 7 := Nat.lt_of_not_le (fun q => c_5 ((nI_leI (by omega) (by omega)).mpr q))
        refine b_tabC B hX.2.1 hS (r12_in _ (List.mem_of_getElem? (i := 11) rfl)) dX5_ruleIndex_8 (fun t_8 ht_8 => ?_)
        refine lv_iload_n hx hb dX5_ruleIndex_11 rfl (lv_at hl 1 rfl) ?_
        refine va_tc hx hb ht_8 hS (vp_in_nI (by omega) (Nat.le_of_ble_eq_true rfl)) (v := .int (ruLet i)) (by show Value.int (ruLet _) = _; rw [(nI_clamp (by omega))]) dX5_ruleIndex_12 ?_
        refine lv_iload_n hx hb dX5_ruleIndex_13 rfl (lv_at hl 0 rfl) ?_
        refine lv_icmp_ne (tgt := 19) hx hb dX5_ruleIndex_14 (by decide) (fun c_14 => ?_) (fun c_14 => ?_)
        · skip
          refine lv_iinc (v := (nI (i + 1))) (lv' := [(1, .int (nI (i + 1))), (0, .int x)]) hx hb dX5_ruleIndex_19 hl (k := 1) rfl (nI_1 i) (by decide) rfl (fun ls hl => ?_)
          refine lv_goto (tgt := 2) hx hb dX5_ruleIndex_22 (by decide) ?_
          exact ih (i + 1) (by omega) (by omega) (noS hno c_14) _ _ _ hW hS (lv_sub hl [1, 0] rfl)
        · skip
          refine lv_iload_n hx hb dX5_ruleIndex_17 rfl (lv_at hl 1 rfl) ?_
          exact x_i hQ B hr hlk hS hW dX5_ruleIndex_18 (Nat.le_of_ble_eq_true rfl) (Nat.le_of_ble_eq_true rfl) (⟨i, q5, rfl, c_14, rfl⟩)
  refine lv_iconst (v := 0) hx hb dX5_ruleIndex_0 (by decide) ?_
  refine lv_istore_n (lv' := [(1, .int 0), (0, .int x)]) hx hb dX5_ruleIndex_1 rfl hl (by decide) rfl (fun ls hl => ?_)
  exact L_2 8 0 (by omega) (by omega) (fun j hj => absurd hj (Nat.not_lt_zero _)) _ _ _ hW hS (lv_sub hl [1, 0] rfl)
set_option maxHeartbeats 4000000 in
set_option maxRecDepth 100000 in
theorem mt_reqFact {l : Launch} (hlf : l.stackTraces = false) {D : va_G} {tys : List (ClassId × FieldType)} {ad : Nat → Nat} (hI : aI ad 109) {cI cZ cH cP cT : ClassId} (V T : Nat → Nat → Int32) (ag : Nat → Int32) (nP nH rN : Nat) (nf pn : Int32) (sp sk : Int64) (py pd : Nat → Nat → Int32) (so en : Nat → Int32) (rA rC rI aA aC aH aT aP : Int32) (t : Nat) (x : Int32) (hti : tys[0]? = some (cI, .int)) (htz : cZ = cI) (hth : tys[2]? = some (cH, .object RX1)) (htp : tys[3]? = some (cP, .object RX2)) (htt : tys[4]? = some (cT, .object RX4)) (ht : t < 27) (hbool : ∀ d, d < 360 → narrow .boolean (.int (T t d)) = .int (T t d)) (sz : Nat) : vx_Met l yX5_requireFact (Cond.code yX5_requireFact cX5_requireFact 2 none :: wsL_law) (rmk 2 1 6) (va_Pc [.ref (ad (20 + t)), .int x] (PC D tys ad 109 (cE cI cZ cH cP cT ad V T ag nP nH rN nf pn sp sk py pd so en rA rC rI aA aC aH aT aP) sz)) (Qv D ad 109 (fun E1 => (vp_in x 360 ∧ ¬ T t (ix x) = 0) ∧ E1 = cE cI cZ cH cP cT ad V T ag nP nH rN nf pn sp sk py pd so en rA rC rI aA aC aH aT aP) (cA ad 109 sz)) (Xx D ad 109 (fun Ex E1 => Ex = xNSE ∧ ¬ (vp_in x 360 ∧ ¬ T t (ix x) = 0) ∧ E1 = cE cI cZ cH cP cT ad V T ag nP nH rN nf pn sp sk py pd so en rA rC rI aA aC aH aT aP) (cA ad 109 sz)) 1 6 (cA ad 109 sz) := by
  refine cx_of (own := RX5) (Qc := Qv D ad 109 (fun E1 => (vp_in x 360 ∧ ¬ T t (ix x) = 0) ∧ E1 = cE cI cZ cH cP cT ad V T ag nP nH rN nf pn sp sk py pd so en rA rC rI aA aC aH aT aP)) (XC := Xx D ad 109 (fun Ex E1 => Ex = xNSE ∧ ¬ (vp_in x 360 ∧ ¬ T t (ix x) = 0) ∧ E1 = cE cI cZ cH cP cT ad V T ag nP nH rN nf pn sp sk py pd so en rA rC rI aA aC aH aT aP)) rfl (by decide +kernel) (Nat.le_of_ble_eq_true rfl) ?_ sz
  intro p e s m args below meth c ls Q B hT hX hW hr hlk htb hl hS hA hQ
  have hx := B.1
  have hb := B.2.1
  have hl : lv_has ls 2 [(0, .ref (ad (20 + t))), (1, .int x)] := hl
  refine lv_iload_n hx hb dX5_requireFact_0 rfl (lv_at hl 1 rfl) ?_
  refine lv_if_lt (tgt := 19) hx hb dX5_requireFact_1 (by decide) (fun c_1 => ?_) (fun c_1 => ?_)
  · skip
    exact b_throw hQ B hT hX hW hS hlf xf_NSE (List.mem_of_getElem? (i := 15) rfl) hl.1 dX5_requireFact_19 dX5_requireFact_22 dX5_requireFact_23 dX5_requireFact_25 dX5_requireFact_28 htb hlk (Nat.le_of_ble_eq_true rfl) (Nat.le_of_ble_eq_true rfl) (Nat.le_of_ble_eq_true rfl) (Nat.le_of_ble_eq_true rfl) (Nat.le_of_ble_eq_true rfl) (Nat.le_of_ble_eq_true rfl) (⟨rfl, fun q => in_no1 c_1 q.1, rfl⟩)
  · skip
    refine lv_iload_n hx hb dX5_requireFact_4 rfl (lv_at hl 1 rfl) ?_
    refine lv_sipush (v := (nI 360)) hx hb dX5_requireFact_5 (by decide) ?_
    refine lv_icmp_ge (tgt := 19) hx hb dX5_requireFact_8 (by decide) (fun c_8 => ?_) (fun c_8 => ?_)
    · skip
      exact b_throw hQ B hT hX hW hS hlf xf_NSE (List.mem_of_getElem? (i := 15) rfl) hl.1 dX5_requireFact_19 dX5_requireFact_22 dX5_requireFact_23 dX5_requireFact_25 dX5_requireFact_28 htb hlk (Nat.le_of_ble_eq_true rfl) (Nat.le_of_ble_eq_true rfl) (Nat.le_of_ble_eq_true rfl) (Nat.le_of_ble_eq_true rfl) (Nat.le_of_ble_eq_true rfl) (Nat.le_of_ble_eq_true rfl) (⟨rfl, fun q => in_no2 (by omega) (Int32.not_lt.mpr c_8) q.1, rfl⟩)
    · skip
      obtain ⟨d, hd, rfl⟩ := vp_in_of (in_of (n := 360) (by omega) c_1 (Int32.not_le.mp c_8)) (by omega)
      have hbo := hbool d hd
      refine lv_aload_n hx hb dX5_requireFact_11 rfl (lv_at hl 0 rfl) ?_
      refine lv_iload_n hx hb dX5_requireFact_12 rfl (lv_at hl 1 rfl) ?_
      refine b_ci (b_runV B hT hX hW hS (As := [.int (nI d)]) (rest := []) (fun sz => mt_isToldFor hI (20 + t) (47 + t) (74 + t) (fun _ => 0) (T t) d hti (by omega) (by omega) (cE_tl (by omega)) (cE_told (by omega)) (by omega) sz) (cwX5_237 B.2.2.2.2.1 ⟨Nat.le_of_ble_eq_true rfl, Nat.le_of_ble_eq_true rfl⟩) (b_recv B hW (by omega) (cE_tl (by omega)) rfl) rfl hl.1 (Nat.le_of_ble_eq_true rfl) dX5_requireFact_13 ⟨Nat.le_of_ble_eq_true rfl, Nat.le_of_ble_eq_true rfl⟩) hS (fun r_13 E1 H locs hp_13 hW hS => ?_)
      obtain ⟨hr_, hE_⟩ := hp_13
      subst hr_
      have hW := hW.eq hE_
      refine b_top (y := (T t) d) (nar01 hbo) ?_
      refine lv_if_ne (tgt := 29) hx hb dX5_requireFact_16 (by decide) (fun c_16 => ?_) (fun c_16 => ?_)
      · skip
        exact x_v hQ B hr hlk hS hW dX5_requireFact_29 (Nat.le_of_ble_eq_true rfl) (Nat.le_of_ble_eq_true rfl) (⟨⟨vp_in_nI hd (by omega), by rw [ix, nI_clamp (by omega)]; exact c_16⟩, rfl⟩)
      · skip
        exact b_throw hQ B hT hX hW hS hlf xf_NSE (List.mem_of_getElem? (i := 15) rfl) hl.1 dX5_requireFact_19 dX5_requireFact_22 dX5_requireFact_23 dX5_requireFact_25 dX5_requireFact_28 htb hlk (Nat.le_of_ble_eq_true rfl) (Nat.le_of_ble_eq_true rfl) (Nat.le_of_ble_eq_true rfl) (Nat.le_of_ble_eq_true rfl) (Nat.le_of_ble_eq_true rfl) (Nat.le_of_ble_eq_true rfl) (⟨rfl, fun q => q.2 (by rw [ix, nI_clamp (by omega)]; exact c_16), rfl⟩)
