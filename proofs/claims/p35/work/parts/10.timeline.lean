theorem gfX4_9 {p : Program} {l : Launch} {e : Env} {R : Room} {s : State} {m : MethodId} {args : Array Value} {below : List Frame} {meth : Method} {c : Code} {H : Heap} {locs : List Loc} {cells slots : Nat} {Q : State → Prop} {cc : ByteArray} {pc nL : Nat} {ls : Array Slot} {rest : List Value} {D : va_G} {tys : List (ClassId × FieldType)} {ad : Nat → Nat} {N : Nat} {E : Nat → va_E} {k : Nat} {fs : List Value} {v : Value} (B : MB p c cc nL RX4 s m args D tys) (hT : TX s) (hW : hH D ad N E H) (hk : k < N) (he : E k = .inr (4, fs)) (hv : fs[1]? = some v) (hdg : decode cc pc = .ok (.getfield 9, 3)) (kk : W p l e R s m args below meth c H locs cells slots Q (F0 m (pc + 3) ls (v :: rest))) : W p l e R s m args below meth c H locs cells slots Q (F0 m pc ls (.ref (ad k) :: rest)) :=
  b_get B hW inlX4 rfl 1 (by decide) (r3_in _ (List.mem_of_getElem? (i := 1) rfl)) rfl hk he hv hdg kk
theorem gfX4_15 {p : Program} {l : Launch} {e : Env} {R : Room} {s : State} {m : MethodId} {args : Array Value} {below : List Frame} {meth : Method} {c : Code} {H : Heap} {locs : List Loc} {cells slots : Nat} {Q : State → Prop} {cc : ByteArray} {pc nL : Nat} {ls : Array Slot} {rest : List Value} {D : va_G} {tys : List (ClassId × FieldType)} {ad : Nat → Nat} {N : Nat} {E : Nat → va_E} {k : Nat} {fs : List Value} {v : Value} (B : MB p c cc nL RX4 s m args D tys) (hT : TX s) (hW : hH D ad N E H) (hk : k < N) (he : E k = .inr (4, fs)) (hv : fs[2]? = some v) (hdg : decode cc pc = .ok (.getfield 15, 3)) (kk : W p l e R s m args below meth c H locs cells slots Q (F0 m (pc + 3) ls (v :: rest))) : W p l e R s m args below meth c H locs cells slots Q (F0 m pc ls (.ref (ad k) :: rest)) :=
  b_get B hW inlX4 rfl 2 (by decide) (r3_in _ (List.mem_of_getElem? (i := 2) rfl)) rfl hk he hv hdg kk
theorem cwX4_28 {R : Room} {s : State} {args : Array Value} {rm : Room} (hts : ∀ w ∈ wsL_law, w.before args s = true) (hR : rm.frames + 1 ≤ R.frames ∧ 8 + (1 + 11) + rm.locals ≤ R.locals) : CWS R s args RX4 28 yX4_bitOf cX4_bitOf 1 (some .int) rm rm.cells rm.slots 1 :=
  va_cwS 1 hts (gi_S (r4_in _ (List.mem_of_getElem? (i := 6) rfl)) (r4_in _ (List.mem_of_getElem? (i := 7) rfl)) (r2_in _ (List.mem_of_getElem? (i := 7) rfl)) (r4_in _ (List.mem_of_getElem? (i := 8) rfl))) rfl rfl rfl (by decide +kernel) hR
theorem cwX4_36 {R : Room} {s : State} {args : Array Value} {rm : Room} (hts : ∀ w ∈ wsL_law, w.before args s = true) (hR : rm.frames + 1 ≤ R.frames ∧ 8 + (2 + 11) + rm.locals ≤ R.locals) : CWV R s args RX4 RX4 36 yX4_isToldFor cX4_isToldFor 2 (some .boolean) rm rm.cells rm.slots 1 :=
  cwV 1 hts (gi_V (r4_in _ (List.mem_of_getElem? (i := 17) rfl)) (r4_in _ (List.mem_of_getElem? (i := 3) rfl)) (r4_in _ (List.mem_of_getElem? (i := 4) rfl)) (r2_in _ (List.mem_of_getElem? (i := 7) rfl)) (r4_in _ (List.mem_of_getElem? (i := 5) rfl))) rfl rfl rfl (by decide +kernel) hR
theorem cwX4_32 {R : Room} {s : State} {args : Array Value} {rm : Room} (hts : ∀ w ∈ wsL_law, w.before args s = true) (hR : rm.frames + 1 ≤ R.frames ∧ 8 + (4 + 11) + rm.locals ≤ R.locals) : CWV R s args RX4 RX4 32 yX4_holdFrom cX4_holdFrom 4 none rm rm.cells rm.slots 2 :=
  cwV 2 hts (gi_V (r4_in _ (List.mem_of_getElem? (i := 13) rfl)) (r4_in _ (List.mem_of_getElem? (i := 14) rfl)) (r4_in _ (List.mem_of_getElem? (i := 15) rfl)) (r2_in _ (List.mem_of_getElem? (i := 7) rfl)) (r4_in _ (List.mem_of_getElem? (i := 16) rfl))) rfl rfl rfl (by decide +kernel) hR
theorem gfX4_18 {p : Program} {l : Launch} {e : Env} {R : Room} {s : State} {m : MethodId} {args : Array Value} {below : List Frame} {meth : Method} {c : Code} {H : Heap} {locs : List Loc} {cells slots : Nat} {Q : State → Prop} {cc : ByteArray} {pc nL : Nat} {ls : Array Slot} {rest : List Value} {D : va_G} {tys : List (ClassId × FieldType)} {ad : Nat → Nat} {N : Nat} {E : Nat → va_E} {k : Nat} {fs : List Value} {v : Value} (B : MB p c cc nL RX4 s m args D tys) (hT : TX s) (hW : hH D ad N E H) (hk : k < N) (he : E k = .inr (4, fs)) (hv : fs[0]? = some v) (hdg : decode cc pc = .ok (.getfield 18, 3)) (kk : W p l e R s m args below meth c H locs cells slots Q (F0 m (pc + 3) ls (v :: rest))) : W p l e R s m args below meth c H locs cells slots Q (F0 m pc ls (.ref (ad k) :: rest)) :=
  b_get B hW inlX4 rfl 0 (by decide) (r3_in _ (List.mem_of_getElem? (i := 3) rfl)) rfl hk he hv hdg kk
theorem pfX3_7 {p : Program} {l : Launch} {e : Env} {R : Room} {s : State} {m : MethodId} {args : Array Value} {below : List Frame} {meth : Method} {c : Code} {H : Heap} {locs : List Loc} {cells slots : Nat} {Q : State → Prop} {cc : ByteArray} {pc nL : Nat} {ls : Array Slot} {rest : List Value} {D : va_G} {tys : List (ClassId × FieldType)} {ad : Nat → Nat} {N : Nat} {E : Nat → va_E} {k : Nat} {fs : List Value} {v : Value} {A : Nat → Prop} {H0 : Heap} (B : MB p c cc nL RX3 s m args D tys) (hT : TX s) (hI : aI ad N) (hA : ∀ k : Nat, k < N → A (ad k)) (hW : hH D ad N E H) (hS : va_S A H0 H locs) (hk : k < N) (he : E k = .inr (3, fs)) (hl : 0 < fs.length) (hn : narrow .int v = v) (hfit : fits .int v = true) (hdg : decode cc pc = .ok (.putfield 7, 3)) (kk : ∀ (H1 : Heap) (locs1 : List Loc), hH D ad N (va_up E k (.inr (3, fs.set 0 v))) H1 → va_S A H0 H1 locs1 → W p l e R s m args below meth c H1 locs1 cells slots Q (F0 m (pc + 3) ls rest)) : W p l e R s m args below meth c H locs cells slots Q (F0 m pc ls (v :: .ref (ad k) :: rest)) :=
  b_put B hI hA hW hS inlX3 tyX3 tyX3_ok nmX3 rfl 0 (by decide) (r9_in _ (List.mem_of_getElem? (i := 4) rfl)) rfl rfl (by decide +kernel) hk he hl hn hfit hdg kk
theorem pfX3_13 {p : Program} {l : Launch} {e : Env} {R : Room} {s : State} {m : MethodId} {args : Array Value} {below : List Frame} {meth : Method} {c : Code} {H : Heap} {locs : List Loc} {cells slots : Nat} {Q : State → Prop} {cc : ByteArray} {pc nL : Nat} {ls : Array Slot} {rest : List Value} {D : va_G} {tys : List (ClassId × FieldType)} {ad : Nat → Nat} {N : Nat} {E : Nat → va_E} {k : Nat} {fs : List Value} {v : Value} {A : Nat → Prop} {H0 : Heap} (B : MB p c cc nL RX3 s m args D tys) (hT : TX s) (hI : aI ad N) (hA : ∀ k : Nat, k < N → A (ad k)) (hW : hH D ad N E H) (hS : va_S A H0 H locs) (hk : k < N) (he : E k = .inr (3, fs)) (hl : 1 < fs.length) (hn : narrow .int v = v) (hfit : fits .int v = true) (hdg : decode cc pc = .ok (.putfield 13, 3)) (kk : ∀ (H1 : Heap) (locs1 : List Loc), hH D ad N (va_up E k (.inr (3, fs.set 1 v))) H1 → va_S A H0 H1 locs1 → W p l e R s m args below meth c H1 locs1 cells slots Q (F0 m (pc + 3) ls rest)) : W p l e R s m args below meth c H locs cells slots Q (F0 m pc ls (v :: .ref (ad k) :: rest)) :=
  b_put B hI hA hW hS inlX3 tyX3 tyX3_ok nmX3 rfl 1 (by decide) (r9_in _ (List.mem_of_getElem? (i := 5) rfl)) rfl rfl (by decide +kernel) hk he hl hn hfit hdg kk
theorem pfX3_16 {p : Program} {l : Launch} {e : Env} {R : Room} {s : State} {m : MethodId} {args : Array Value} {below : List Frame} {meth : Method} {c : Code} {H : Heap} {locs : List Loc} {cells slots : Nat} {Q : State → Prop} {cc : ByteArray} {pc nL : Nat} {ls : Array Slot} {rest : List Value} {D : va_G} {tys : List (ClassId × FieldType)} {ad : Nat → Nat} {N : Nat} {E : Nat → va_E} {k : Nat} {fs : List Value} {v : Value} {A : Nat → Prop} {H0 : Heap} (B : MB p c cc nL RX3 s m args D tys) (hT : TX s) (hI : aI ad N) (hA : ∀ k : Nat, k < N → A (ad k)) (hW : hH D ad N E H) (hS : va_S A H0 H locs) (hk : k < N) (he : E k = .inr (3, fs)) (hl : 2 < fs.length) (hn : narrow .int v = v) (hfit : fits .int v = true) (hdg : decode cc pc = .ok (.putfield 16, 3)) (kk : ∀ (H1 : Heap) (locs1 : List Loc), hH D ad N (va_up E k (.inr (3, fs.set 2 v))) H1 → va_S A H0 H1 locs1 → W p l e R s m args below meth c H1 locs1 cells slots Q (F0 m (pc + 3) ls rest)) : W p l e R s m args below meth c H locs cells slots Q (F0 m pc ls (v :: .ref (ad k) :: rest)) :=
  b_put B hI hA hW hS inlX3 tyX3 tyX3_ok nmX3 rfl 2 (by decide) (r9_in _ (List.mem_of_getElem? (i := 6) rfl)) rfl rfl (by decide +kernel) hk he hl hn hfit hdg kk
theorem gfX3_19 {p : Program} {l : Launch} {e : Env} {R : Room} {s : State} {m : MethodId} {args : Array Value} {below : List Frame} {meth : Method} {c : Code} {H : Heap} {locs : List Loc} {cells slots : Nat} {Q : State → Prop} {cc : ByteArray} {pc nL : Nat} {ls : Array Slot} {rest : List Value} {D : va_G} {tys : List (ClassId × FieldType)} {ad : Nat → Nat} {N : Nat} {E : Nat → va_E} {k : Nat} {fs : List Value} {v : Value} (B : MB p c cc nL RX3 s m args D tys) (hT : TX s) (hW : hH D ad N E H) (hk : k < N) (he : E k = .inr (2, fs)) (hv : fs[0]? = some v) (hdg : decode cc pc = .ok (.getfield 19, 3)) (kk : W p l e R s m args below meth c H locs cells slots Q (F0 m (pc + 3) ls (v :: rest))) : W p l e R s m args below meth c H locs cells slots Q (F0 m pc ls (.ref (ad k) :: rest)) :=
  b_getN B hT hW (host := "BenefitOffice") inlX2 rfl 0 (by decide) (List.mem_of_getElem? (i := 9) rfl) rfl hk he hv hdg kk
theorem gfX3_13 {p : Program} {l : Launch} {e : Env} {R : Room} {s : State} {m : MethodId} {args : Array Value} {below : List Frame} {meth : Method} {c : Code} {H : Heap} {locs : List Loc} {cells slots : Nat} {Q : State → Prop} {cc : ByteArray} {pc nL : Nat} {ls : Array Slot} {rest : List Value} {D : va_G} {tys : List (ClassId × FieldType)} {ad : Nat → Nat} {N : Nat} {E : Nat → va_E} {k : Nat} {fs : List Value} {v : Value} (B : MB p c cc nL RX3 s m args D tys) (hT : TX s) (hW : hH D ad N E H) (hk : k < N) (he : E k = .inr (3, fs)) (hv : fs[1]? = some v) (hdg : decode cc pc = .ok (.getfield 13, 3)) (kk : W p l e R s m args below meth c H locs cells slots Q (F0 m (pc + 3) ls (v :: rest))) : W p l e R s m args below meth c H locs cells slots Q (F0 m pc ls (.ref (ad k) :: rest)) :=
  b_get B hW inlX3 rfl 1 (by decide) (r9_in _ (List.mem_of_getElem? (i := 5) rfl)) rfl hk he hv hdg kk
theorem gfX3_16 {p : Program} {l : Launch} {e : Env} {R : Room} {s : State} {m : MethodId} {args : Array Value} {below : List Frame} {meth : Method} {c : Code} {H : Heap} {locs : List Loc} {cells slots : Nat} {Q : State → Prop} {cc : ByteArray} {pc nL : Nat} {ls : Array Slot} {rest : List Value} {D : va_G} {tys : List (ClassId × FieldType)} {ad : Nat → Nat} {N : Nat} {E : Nat → va_E} {k : Nat} {fs : List Value} {v : Value} (B : MB p c cc nL RX3 s m args D tys) (hT : TX s) (hW : hH D ad N E H) (hk : k < N) (he : E k = .inr (3, fs)) (hv : fs[2]? = some v) (hdg : decode cc pc = .ok (.getfield 16, 3)) (kk : W p l e R s m args below meth c H locs cells slots Q (F0 m (pc + 3) ls (v :: rest))) : W p l e R s m args below meth c H locs cells slots Q (F0 m pc ls (.ref (ad k) :: rest)) :=
  b_get B hW inlX3 rfl 2 (by decide) (r9_in _ (List.mem_of_getElem? (i := 6) rfl)) rfl hk he hv hdg kk
theorem gfX3_24 {p : Program} {l : Launch} {e : Env} {R : Room} {s : State} {m : MethodId} {args : Array Value} {below : List Frame} {meth : Method} {c : Code} {H : Heap} {locs : List Loc} {cells slots : Nat} {Q : State → Prop} {cc : ByteArray} {pc nL : Nat} {ls : Array Slot} {rest : List Value} {D : va_G} {tys : List (ClassId × FieldType)} {ad : Nat → Nat} {N : Nat} {E : Nat → va_E} {k : Nat} {fs : List Value} {v : Value} (B : MB p c cc nL RX3 s m args D tys) (hT : TX s) (hW : hH D ad N E H) (hk : k < N) (he : E k = .inr (2, fs)) (hv : fs[2]? = some v) (hdg : decode cc pc = .ok (.getfield 24, 3)) (kk : W p l e R s m args below meth c H locs cells slots Q (F0 m (pc + 3) ls (v :: rest))) : W p l e R s m args below meth c H locs cells slots Q (F0 m pc ls (.ref (ad k) :: rest)) :=
  b_getN B hT hW (host := "BenefitOffice") inlX2 rfl 2 (by decide) (List.mem_of_getElem? (i := 11) rfl) rfl hk he hv hdg kk
theorem cwX3_27 {R : Room} {s : State} {args : Array Value} {rm : Room} (hts : ∀ w ∈ wsL_law, w.before args s = true) (hR : rm.frames + 1 ≤ R.frames ∧ 8 + (2 + 11) + rm.locals ≤ R.locals) : CWV R s args RX3 RX4 27 yX4_valueOn cX4_valueOn 2 (some .int) rm rm.cells rm.slots 1 :=
  cwV 1 hts (gi_V (r9_in _ (List.mem_of_getElem? (i := 11) rfl)) (r3_in _ (List.mem_of_getElem? (i := 23) rfl)) (r4_in _ (List.mem_of_getElem? (i := 0) rfl)) (r2_in _ (List.mem_of_getElem? (i := 7) rfl)) (r4_in _ (List.mem_of_getElem? (i := 1) rfl))) rfl rfl rfl (by decide +kernel) hR
theorem gfX3_7 {p : Program} {l : Launch} {e : Env} {R : Room} {s : State} {m : MethodId} {args : Array Value} {below : List Frame} {meth : Method} {c : Code} {H : Heap} {locs : List Loc} {cells slots : Nat} {Q : State → Prop} {cc : ByteArray} {pc nL : Nat} {ls : Array Slot} {rest : List Value} {D : va_G} {tys : List (ClassId × FieldType)} {ad : Nat → Nat} {N : Nat} {E : Nat → va_E} {k : Nat} {fs : List Value} {v : Value} (B : MB p c cc nL RX3 s m args D tys) (hT : TX s) (hW : hH D ad N E H) (hk : k < N) (he : E k = .inr (3, fs)) (hv : fs[0]? = some v) (hdg : decode cc pc = .ok (.getfield 7, 3)) (kk : W p l e R s m args below meth c H locs cells slots Q (F0 m (pc + 3) ls (v :: rest))) : W p l e R s m args below meth c H locs cells slots Q (F0 m pc ls (.ref (ad k) :: rest)) :=
  b_get B hW inlX3 rfl 0 (by decide) (r9_in _ (List.mem_of_getElem? (i := 4) rfl)) rfl hk he hv hdg kk
theorem pfX0_7 {p : Program} {l : Launch} {e : Env} {R : Room} {s : State} {m : MethodId} {args : Array Value} {below : List Frame} {meth : Method} {c : Code} {H : Heap} {locs : List Loc} {cells slots : Nat} {Q : State → Prop} {cc : ByteArray} {pc nL : Nat} {ls : Array Slot} {rest : List Value} {D : va_G} {tys : List (ClassId × FieldType)} {ad : Nat → Nat} {N : Nat} {E : Nat → va_E} {k : Nat} {fs : List Value} {v : Value} {A : Nat → Prop} {H0 : Heap} (B : MB p c cc nL RX0 s m args D tys) (hT : TX s) (hI : aI ad N) (hA : ∀ k : Nat, k < N → A (ad k)) (hW : hH D ad N E H) (hS : va_S A H0 H locs) (hk : k < N) (he : E k = .inr (0, fs)) (hl : 0 < fs.length) (hn : narrow .int v = v) (hfit : fits .int v = true) (hdg : decode cc pc = .ok (.putfield 7, 3)) (kk : ∀ (H1 : Heap) (locs1 : List Loc), hH D ad N (va_up E k (.inr (0, fs.set 0 v))) H1 → va_S A H0 H1 locs1 → W p l e R s m args below meth c H1 locs1 cells slots Q (F0 m (pc + 3) ls rest)) : W p l e R s m args below meth c H locs cells slots Q (F0 m pc ls (v :: .ref (ad k) :: rest)) :=
  b_put B hI hA hW hS inlX0 tyX0 tyX0_ok nmX0 rfl 0 (by decide) (r9_in _ (List.mem_of_getElem? (i := 16) rfl)) rfl rfl (by decide +kernel) hk he hl hn hfit hdg kk
theorem pfX0_13 {p : Program} {l : Launch} {e : Env} {R : Room} {s : State} {m : MethodId} {args : Array Value} {below : List Frame} {meth : Method} {c : Code} {H : Heap} {locs : List Loc} {cells slots : Nat} {Q : State → Prop} {cc : ByteArray} {pc nL : Nat} {ls : Array Slot} {rest : List Value} {D : va_G} {tys : List (ClassId × FieldType)} {ad : Nat → Nat} {N : Nat} {E : Nat → va_E} {k : Nat} {fs : List Value} {v : Value} {A : Nat → Prop} {H0 : Heap} (B : MB p c cc nL RX0 s m args D tys) (hT : TX s) (hI : aI ad N) (hA : ∀ k : Nat, k < N → A (ad k)) (hW : hH D ad N E H) (hS : va_S A H0 H locs) (hk : k < N) (he : E k = .inr (0, fs)) (hl : 1 < fs.length) (hn : narrow .int v = v) (hfit : fits .int v = true) (hdg : decode cc pc = .ok (.putfield 13, 3)) (kk : ∀ (H1 : Heap) (locs1 : List Loc), hH D ad N (va_up E k (.inr (0, fs.set 1 v))) H1 → va_S A H0 H1 locs1 → W p l e R s m args below meth c H1 locs1 cells slots Q (F0 m (pc + 3) ls rest)) : W p l e R s m args below meth c H locs cells slots Q (F0 m pc ls (v :: .ref (ad k) :: rest)) :=
  b_put B hI hA hW hS inlX0 tyX0 tyX0_ok nmX0 rfl 1 (by decide) (r9_in _ (List.mem_of_getElem? (i := 17) rfl)) rfl rfl (by decide +kernel) hk he hl hn hfit hdg kk
theorem pfX0_16 {p : Program} {l : Launch} {e : Env} {R : Room} {s : State} {m : MethodId} {args : Array Value} {below : List Frame} {meth : Method} {c : Code} {H : Heap} {locs : List Loc} {cells slots : Nat} {Q : State → Prop} {cc : ByteArray} {pc nL : Nat} {ls : Array Slot} {rest : List Value} {D : va_G} {tys : List (ClassId × FieldType)} {ad : Nat → Nat} {N : Nat} {E : Nat → va_E} {k : Nat} {fs : List Value} {v : Value} {A : Nat → Prop} {H0 : Heap} (B : MB p c cc nL RX0 s m args D tys) (hT : TX s) (hI : aI ad N) (hA : ∀ k : Nat, k < N → A (ad k)) (hW : hH D ad N E H) (hS : va_S A H0 H locs) (hk : k < N) (he : E k = .inr (0, fs)) (hl : 2 < fs.length) (hn : narrow .int v = v) (hfit : fits .int v = true) (hdg : decode cc pc = .ok (.putfield 16, 3)) (kk : ∀ (H1 : Heap) (locs1 : List Loc), hH D ad N (va_up E k (.inr (0, fs.set 2 v))) H1 → va_S A H0 H1 locs1 → W p l e R s m args below meth c H1 locs1 cells slots Q (F0 m (pc + 3) ls rest)) : W p l e R s m args below meth c H locs cells slots Q (F0 m pc ls (v :: .ref (ad k) :: rest)) :=
  b_put B hI hA hW hS inlX0 tyX0 tyX0_ok nmX0 rfl 2 (by decide) (r9_in _ (List.mem_of_getElem? (i := 18) rfl)) rfl rfl (by decide +kernel) hk he hl hn hfit hdg kk
theorem pfX0_19 {p : Program} {l : Launch} {e : Env} {R : Room} {s : State} {m : MethodId} {args : Array Value} {below : List Frame} {meth : Method} {c : Code} {H : Heap} {locs : List Loc} {cells slots : Nat} {Q : State → Prop} {cc : ByteArray} {pc nL : Nat} {ls : Array Slot} {rest : List Value} {D : va_G} {tys : List (ClassId × FieldType)} {ad : Nat → Nat} {N : Nat} {E : Nat → va_E} {k : Nat} {fs : List Value} {v : Value} {A : Nat → Prop} {H0 : Heap} (B : MB p c cc nL RX0 s m args D tys) (hT : TX s) (hI : aI ad N) (hA : ∀ k : Nat, k < N → A (ad k)) (hW : hH D ad N E H) (hS : va_S A H0 H locs) (hk : k < N) (he : E k = .inr (0, fs)) (hl : 3 < fs.length) (hn : narrow .boolean v = v) (hfit : fits .boolean v = true) (hdg : decode cc pc = .ok (.putfield 19, 3)) (kk : ∀ (H1 : Heap) (locs1 : List Loc), hH D ad N (va_up E k (.inr (0, fs.set 3 v))) H1 → va_S A H0 H1 locs1 → W p l e R s m args below meth c H1 locs1 cells slots Q (F0 m (pc + 3) ls rest)) : W p l e R s m args below meth c H locs cells slots Q (F0 m pc ls (v :: .ref (ad k) :: rest)) :=
  b_put B hI hA hW hS inlX0 tyX0 tyX0_ok nmX0 rfl 3 (by decide) (r9_in _ (List.mem_of_getElem? (i := 19) rfl)) rfl rfl (by decide +kernel) hk he hl hn hfit hdg kk
theorem pfX0_23 {p : Program} {l : Launch} {e : Env} {R : Room} {s : State} {m : MethodId} {args : Array Value} {below : List Frame} {meth : Method} {c : Code} {H : Heap} {locs : List Loc} {cells slots : Nat} {Q : State → Prop} {cc : ByteArray} {pc nL : Nat} {ls : Array Slot} {rest : List Value} {D : va_G} {tys : List (ClassId × FieldType)} {ad : Nat → Nat} {N : Nat} {E : Nat → va_E} {k : Nat} {fs : List Value} {v : Value} {A : Nat → Prop} {H0 : Heap} (B : MB p c cc nL RX0 s m args D tys) (hT : TX s) (hI : aI ad N) (hA : ∀ k : Nat, k < N → A (ad k)) (hW : hH D ad N E H) (hS : va_S A H0 H locs) (hk : k < N) (he : E k = .inr (0, fs)) (hl : 4 < fs.length) (hn : narrow .boolean v = v) (hfit : fits .boolean v = true) (hdg : decode cc pc = .ok (.putfield 23, 3)) (kk : ∀ (H1 : Heap) (locs1 : List Loc), hH D ad N (va_up E k (.inr (0, fs.set 4 v))) H1 → va_S A H0 H1 locs1 → W p l e R s m args below meth c H1 locs1 cells slots Q (F0 m (pc + 3) ls rest)) : W p l e R s m args below meth c H locs cells slots Q (F0 m pc ls (v :: .ref (ad k) :: rest)) :=
  b_put B hI hA hW hS inlX0 tyX0 tyX0_ok nmX0 rfl 4 (by decide) (r9_in _ (List.mem_of_getElem? (i := 20) rfl)) rfl rfl (by decide +kernel) hk he hl hn hfit hdg kk
theorem gfX0_7 {p : Program} {l : Launch} {e : Env} {R : Room} {s : State} {m : MethodId} {args : Array Value} {below : List Frame} {meth : Method} {c : Code} {H : Heap} {locs : List Loc} {cells slots : Nat} {Q : State → Prop} {cc : ByteArray} {pc nL : Nat} {ls : Array Slot} {rest : List Value} {D : va_G} {tys : List (ClassId × FieldType)} {ad : Nat → Nat} {N : Nat} {E : Nat → va_E} {k : Nat} {fs : List Value} {v : Value} (B : MB p c cc nL RX0 s m args D tys) (hT : TX s) (hW : hH D ad N E H) (hk : k < N) (he : E k = .inr (0, fs)) (hv : fs[0]? = some v) (hdg : decode cc pc = .ok (.getfield 7, 3)) (kk : W p l e R s m args below meth c H locs cells slots Q (F0 m (pc + 3) ls (v :: rest))) : W p l e R s m args below meth c H locs cells slots Q (F0 m pc ls (.ref (ad k) :: rest)) :=
  b_get B hW inlX0 rfl 0 (by decide) (r9_in _ (List.mem_of_getElem? (i := 16) rfl)) rfl hk he hv hdg kk
theorem gfX0_13 {p : Program} {l : Launch} {e : Env} {R : Room} {s : State} {m : MethodId} {args : Array Value} {below : List Frame} {meth : Method} {c : Code} {H : Heap} {locs : List Loc} {cells slots : Nat} {Q : State → Prop} {cc : ByteArray} {pc nL : Nat} {ls : Array Slot} {rest : List Value} {D : va_G} {tys : List (ClassId × FieldType)} {ad : Nat → Nat} {N : Nat} {E : Nat → va_E} {k : Nat} {fs : List Value} {v : Value} (B : MB p c cc nL RX0 s m args D tys) (hT : TX s) (hW : hH D ad N E H) (hk : k < N) (he : E k = .inr (0, fs)) (hv : fs[1]? = some v) (hdg : decode cc pc = .ok (.getfield 13, 3)) (kk : W p l e R s m args below meth c H locs cells slots Q (F0 m (pc + 3) ls (v :: rest))) : W p l e R s m args below meth c H locs cells slots Q (F0 m pc ls (.ref (ad k) :: rest)) :=
  b_get B hW inlX0 rfl 1 (by decide) (r9_in _ (List.mem_of_getElem? (i := 17) rfl)) rfl hk he hv hdg kk
theorem gfX0_16 {p : Program} {l : Launch} {e : Env} {R : Room} {s : State} {m : MethodId} {args : Array Value} {below : List Frame} {meth : Method} {c : Code} {H : Heap} {locs : List Loc} {cells slots : Nat} {Q : State → Prop} {cc : ByteArray} {pc nL : Nat} {ls : Array Slot} {rest : List Value} {D : va_G} {tys : List (ClassId × FieldType)} {ad : Nat → Nat} {N : Nat} {E : Nat → va_E} {k : Nat} {fs : List Value} {v : Value} (B : MB p c cc nL RX0 s m args D tys) (hT : TX s) (hW : hH D ad N E H) (hk : k < N) (he : E k = .inr (0, fs)) (hv : fs[2]? = some v) (hdg : decode cc pc = .ok (.getfield 16, 3)) (kk : W p l e R s m args below meth c H locs cells slots Q (F0 m (pc + 3) ls (v :: rest))) : W p l e R s m args below meth c H locs cells slots Q (F0 m pc ls (.ref (ad k) :: rest)) :=
  b_get B hW inlX0 rfl 2 (by decide) (r9_in _ (List.mem_of_getElem? (i := 18) rfl)) rfl hk he hv hdg kk
theorem cwX0_32 {R : Room} {s : State} {args : Array Value} {rm : Room} (hts : ∀ w ∈ wsL_law, w.before args s = true) (hR : rm.frames + 1 ≤ R.frames ∧ 8 + (1 + 11) + rm.locals ≤ R.locals) : CWV R s args RX0 RX0 32 yX0_sum cX0_sum 1 (some .int) rm rm.cells rm.slots 0 :=
  cwV 0 hts (gi_V (r10_in _ (List.mem_of_getElem? (i := 6) rfl)) (r10_in _ (List.mem_of_getElem? (i := 7) rfl)) (r10_in _ (List.mem_of_getElem? (i := 8) rfl)) (r1_in _ (List.mem_of_getElem? (i := 23) rfl)) (r10_in _ (List.mem_of_getElem? (i := 9) rfl))) rfl rfl rfl (by decide +kernel) hR
theorem gfX1_24 {p : Program} {l : Launch} {e : Env} {R : Room} {s : State} {m : MethodId} {args : Array Value} {below : List Frame} {meth : Method} {c : Code} {H : Heap} {locs : List Loc} {cells slots : Nat} {Q : State → Prop} {cc : ByteArray} {pc nL : Nat} {ls : Array Slot} {rest : List Value} {D : va_G} {tys : List (ClassId × FieldType)} {ad : Nat → Nat} {N : Nat} {E : Nat → va_E} {k : Nat} {fs : List Value} {v : Value} (B : MB p c cc nL RX1 s m args D tys) (hT : TX s) (hW : hH D ad N E H) (hk : k < N) (he : E k = .inr (1, fs)) (hv : fs[2]? = some v) (hdg : decode cc pc = .ok (.getfield 24, 3)) (kk : W p l e R s m args below meth c H locs cells slots Q (F0 m (pc + 3) ls (v :: rest))) : W p l e R s m args below meth c H locs cells slots Q (F0 m pc ls (.ref (ad k) :: rest)) :=
  b_get B hW inlX1 rfl 2 (by decide) (r3_in _ (List.mem_of_getElem? (i := 14) rfl)) rfl hk he hv hdg kk
set_option maxHeartbeats 4000000 in
set_option maxRecDepth 100000 in
theorem mt_bitOf {l : Launch} {D : va_G} {tys : List (ClassId × FieldType)} {ad : Nat → Nat} {N : Nat} (hI : aI ad N) {E : Nat → va_E} (d : Nat) (hd : d < 360) (sz : Nat) : Met l yX4_bitOf (Cond.code yX4_bitOf cX4_bitOf 1 (some .int) :: wsL_law) (rmk 0 0 0) (va_Pc [.int (nI d)] (PC D tys ad N E sz)) (Qi D ad N (fun r E1 => r = bq d ∧ E1 = E) (cA ad N sz)) 0 0 (cA ad N sz) := by
  refine cm_of (own := RX4) (Qc := Qi D ad N (fun r E1 => r = bq d ∧ E1 = E)) rfl (by decide +kernel) (Nat.le_of_ble_eq_true rfl) ?_ sz
  intro p e s m args below meth c ls Q B hT hX hW hr hlk hnm hl hS hA hQ
  have hx := B.1
  have hb := B.2.1
  have hl : lv_has ls 1 [(0, .int (nI d))] := hl
  refine lv_iconst (v := 1) hx hb dX4_bitOf_0 (by decide) ?_
  refine lv_iload_n hx hb dX4_bitOf_1 rfl (lv_at hl 0 rfl) ?_
  refine lv_bipush (v := 30) hx hb dX4_bitOf_2 (by decide) ?_
  refine lv_irem hx hb dX4_bitOf_4 (by decide) ?_
  refine b_top (y := nI (d % 30)) (dd_rem d hd) ?_
  refine lv_ishl hx hb dX4_bitOf_5 ?_
  exact e_i hQ B hr hlk hS hW dX4_bitOf_6 (Nat.le_of_ble_eq_true rfl) (Nat.le_of_ble_eq_true rfl) (⟨rfl, rfl⟩)
set_option maxHeartbeats 4000000 in
set_option maxRecDepth 100000 in
theorem mt_valueOn {l : Launch} {D : va_G} {tys : List (ClassId × FieldType)} {ad : Nat → Nat} {N : Nat} (hI : aI ad N) {E : Nat → va_E} {cI : ClassId} (k kv kt : Nat) {w : Int32} (f g : Nat → Int32) (d : Nat) (hti : tys[0]? = some (cI, .int)) (hk : k < N) (hkv : kv < N) (he : E k = .inr (4, [.int w, .ref (ad kv), .ref (ad kt)])) (hev : E kv = .inl (cI, 360, .inl f)) (hd : d < 360) (sz : Nat) : Met l yX4_valueOn (Cond.code yX4_valueOn cX4_valueOn 2 (some .int) :: wsL_law) (rmk 0 0 0) (va_Pc [.ref (ad k), .int (nI d)] (PC D tys ad N E sz)) (Qi D ad N (fun r E1 => r = f d ∧ E1 = E) (cA ad N sz)) 0 0 (cA ad N sz) := by
  refine cm_of (own := RX4) (Qc := Qi D ad N (fun r E1 => r = f d ∧ E1 = E)) rfl (by decide +kernel) (Nat.le_of_ble_eq_true rfl) ?_ sz
  intro p e s m args below meth c ls Q B hT hX hW hr hlk hnm hl hS hA hQ
  have hx := B.1
  have hb := B.2.1
  have hl : lv_has ls 2 [(0, .ref (ad k)), (1, .int (nI d))] := hl
  refine lv_aload_n hx hb dX4_valueOn_0 rfl (lv_at hl 0 rfl) ?_
  refine gfX4_9 B hT hW hk he rfl dX4_valueOn_1 ?_
  refine lv_iload_n hx hb dX4_valueOn_4 rfl (lv_at hl 1 rfl) ?_
  refine b_iald B hW hti (j := d) hkv hev (vp_in_nI hd (Nat.le_of_ble_eq_true rfl)) (nI_clamp (Nat.lt_trans hd (Nat.le_of_ble_eq_true rfl))) dX4_valueOn_5 ?_
  exact e_i hQ B hr hlk hS hW dX4_valueOn_6 (Nat.le_of_ble_eq_true rfl) (Nat.le_of_ble_eq_true rfl) (⟨rfl, rfl⟩)
set_option maxHeartbeats 4000000 in
set_option maxRecDepth 100000 in
theorem mt_isToldFor {l : Launch} {D : va_G} {tys : List (ClassId × FieldType)} {ad : Nat → Nat} {N : Nat} (hI : aI ad N) {E : Nat → va_E} {cI : ClassId} (k kv kt : Nat) {w : Int32} (f g : Nat → Int32) (d : Nat) (hti : tys[0]? = some (cI, .int)) (hk : k < N) (hkt : kt < N) (he : E k = .inr (4, [.int w, .ref (ad kv), .ref (ad kt)])) (het : E kt = .inl (cI, 12, .inl (pkb g))) (hd : d < 360) (sz : Nat) : Met l yX4_isToldFor (Cond.code yX4_isToldFor cX4_isToldFor 2 (some .boolean) :: wsL_law) (rmk 1 0 0) (va_Pc [.ref (ad k), .int (nI d)] (PC D tys ad N E sz)) (Qi D ad N (fun r E1 => r = (if g d = 0 then 0 else 1) ∧ E1 = E) (cA ad N sz)) 0 0 (cA ad N sz) := by
  refine cm_of (own := RX4) (Qc := Qi D ad N (fun r E1 => r = (if g d = 0 then 0 else 1) ∧ E1 = E)) rfl (by decide +kernel) (Nat.le_of_ble_eq_true rfl) ?_ sz
  intro p e s m args below meth c ls Q B hT hX hW hr hlk hnm hl hS hA hQ
  have hx := B.1
  have hb := B.2.1
  have hl : lv_has ls 2 [(0, .ref (ad k)), (1, .int (nI d))] := hl
  refine lv_aload_n hx hb dX4_isToldFor_0 rfl (lv_at hl 0 rfl) ?_
  refine gfX4_15 B hT hW hk he rfl dX4_isToldFor_1 ?_
  refine lv_iload_n hx hb dX4_isToldFor_4 rfl (lv_at hl 1 rfl) ?_
  refine lv_bipush (v := 30) hx hb dX4_isToldFor_5 (by decide) ?_
  refine lv_idiv hx hb dX4_isToldFor_7 (by decide) ?_
  refine b_top (y := nI (d / 30)) (dd_div d hd) ?_
  refine b_iald B hW hti (j := (d / 30)) hkt het (vp_in_nI (by omega) (Nat.le_of_ble_eq_true rfl)) (nI_clamp (by omega)) dX4_isToldFor_8 ?_
  refine lv_iload_n hx hb dX4_isToldFor_9 rfl (lv_at hl 1 rfl) ?_
  refine b_ci (b_runS B hT hX hW hS (As := [.int (nI d)]) (rest := [.int ((pkb g) (d / 30))]) (fun sz => mt_bitOf hI d (by omega) sz) (cwX4_28 B.2.2.2.2.1 ⟨Nat.le_of_ble_eq_true rfl, Nat.le_of_ble_eq_true rfl⟩) rfl hl.1 (Nat.le_of_ble_eq_true rfl) dX4_isToldFor_10 ⟨Nat.le_of_ble_eq_true rfl, Nat.le_of_ble_eq_true rfl⟩) hS (fun r_10 E1 H locs hp_10 hW hS => ?_)
  obtain ⟨hr_, hE_⟩ := hp_10
  subst hr_
  have hW := hW.eq hE_
  refine lv_iand hx hb dX4_isToldFor_13 ?_
  refine lv_if_eq (tgt := 21) hx hb dX4_isToldFor_14 (by decide) (fun c_14 => ?_) (fun c_14 => ?_)
  · skip
    refine lv_iconst (v := 0) hx hb dX4_isToldFor_21 (by decide) ?_
    exact e_n hQ B hr hlk hS (by first | rfl | decide) hW dX4_isToldFor_22 (Nat.le_of_ble_eq_true rfl) (Nat.le_of_ble_eq_true rfl) (⟨(if_pos ((pkb_test g d).mp c_14)).symm, rfl⟩)
  · skip
    refine lv_iconst (v := 1) hx hb dX4_isToldFor_17 (by decide) ?_
    refine lv_goto (tgt := 22) hx hb dX4_isToldFor_18 (by decide) ?_
    exact e_n hQ B hr hlk hS (by first | rfl | decide) hW dX4_isToldFor_22 (Nat.le_of_ble_eq_true rfl) (Nat.le_of_ble_eq_true rfl) (⟨(if_neg (fun q => c_14 ((pkb_test g d).mpr q))).symm, rfl⟩)
set_option maxHeartbeats 4000000 in
set_option maxRecDepth 100000 in
theorem mt_holdFrom {l : Launch} {D : va_G} {tys : List (ClassId × FieldType)} {ad : Nat → Nat} {N : Nat} (hI : aI ad N) {E : Nat → va_E} {cI : ClassId} (k kv kt : Nat) {w : Int32} (f g : Nat → Int32) (d : Nat) (v : Int32) (hti : tys[0]? = some (cI, .int)) (hk : k < N) (hkv : kv < N) (hkt : kt < N) (he : E k = .inr (4, [.int w, .ref (ad kv), .ref (ad kt)])) (hev : E kv = .inl (cI, 360, .inl f)) (het : E kt = .inl (cI, 12, .inl (pkb g))) (n1 : k ≠ kv) (n2 : k ≠ kt) (n3 : kv ≠ kt) (hd : d < 360) (sz : Nat) : Met l yX4_holdFrom (Cond.code yX4_holdFrom cX4_holdFrom 4 none :: wsL_law) (rmk 2 0 0) (va_Pc [.ref (ad k), .int v, .int (nI d)] (PC D tys ad N E sz)) (Qv D ad N (fun E1 => E1 = va_up E kv (.inl (cI, 360, .inl (hold f g d v)))) (cA ad N sz)) 0 0 (cA ad N sz) := by
  refine cm_of (own := RX4) (Qc := Qv D ad N (fun E1 => E1 = va_up E kv (.inl (cI, 360, .inl (hold f g d v))))) rfl (by decide +kernel) (Nat.le_of_ble_eq_true rfl) ?_ sz
  intro p e s m args below meth c ls Q B hT hX hW hr hlk hnm hl hS hA hQ
  have hx := B.1
  have hb := B.2.1
  have hl : lv_has ls 4 [(0, .ref (ad k)), (1, .int v), (2, .int (nI d))] := hl
  have L_11 : ∀ (n_ : Nat) (d1 : Nat) (f1 : Nat → Int32), (hd1 : d1 ≤ 360) → (hn : 360 < n_ + d1) → (hf1 : hF g v (360 - d1) d1 f1 = hold f g d v) → ∀ (H : Heap) (locs : List Loc) (ls : Array Slot), hH D ad N (va_up E kv (.inl (cI, 360, .inl f1))) H → va_S (cA ad N s.heap.size) s.heap H locs → lv_has ls 4 [(0, .ref (ad k)), (1, .int v), (2, .int (nI d)), (3, .int (nI d1))] → W p l e (rmk 2 0 0) s m args below meth c H locs 0 0 Q (F0 m 11 ls []) := by
    intro n_
    induction n_ with
    | zero =>
      intro d1 f1 hd1 hn hf1
      omega
    | succ n_ ih =>
      intro d1 f1 hd1 hn hf1 H locs ls hW hS hl
      refine lv_iload_n hx hb dX4_holdFrom_11 rfl (lv_at hl 3 rfl) ?_
      refine lv_sipush (v := (nI 360)) hx hb dX4_holdFrom_12 (by decide) ?_
      refine lv_icmp_ge (tgt := 39) hx hb dX4_holdFrom_15 (by decide) (fun c_15 => ?_) (fun c_15 => ?_)
      · skip
        exact e_v hQ B hr hlk hS hW dX4_holdFrom_39 (Nat.le_of_ble_eq_true rfl) (Nat.le_of_ble_eq_true rfl) (by rw [← hf1, hF_0 ((nI_leI (by omega) (by omega)).mp c_15)])
      · skip
        have q15 : d1 < 360 := Nat.lt_of_not_le (fun q => c_15 ((nI_leI (by omega) (by omega)).mpr q))
        refine lv_aload_n hx hb dX4_holdFrom_18 rfl (lv_at hl 0 rfl) ?_
        refine lv_iload_n hx hb dX4_holdFrom_19 rfl (lv_at hl 3 rfl) ?_
        refine b_ci (b_runV B hT hX hW hS (As := [.int (nI d1)]) (rest := []) (fun sz => mt_isToldFor hI k kv kt (fun _ => 0) g d1 hti hk hkt ((va_up_ne _ _ n1).trans he) ((va_up_ne _ _ n3.symm).trans het) (by omega) sz) (cwX4_36 B.2.2.2.2.1 ⟨Nat.le_of_ble_eq_true rfl, Nat.le_of_ble_eq_true rfl⟩) (b_recv B hW hk ((va_up_ne _ _ n1).trans he) rfl) rfl hl.1 (Nat.le_of_ble_eq_true rfl) dX4_holdFrom_20 ⟨Nat.le_of_ble_eq_true rfl, Nat.le_of_ble_eq_true rfl⟩) hS (fun r_20 E1 H locs hp_20 hW hS => ?_)
        obtain ⟨hr_, hE_⟩ := hp_20
        subst hr_
        have hW := hW.eq hE_
        refine lv_if_ne (tgt := 39) hx hb dX4_holdFrom_23 (by decide) (fun c_23 => ?_) (fun c_23 => ?_)
        · skip
          exact e_v hQ B hr hlk hS hW dX4_holdFrom_39 (Nat.le_of_ble_eq_true rfl) (Nat.le_of_ble_eq_true rfl) (by rw [← hf1, hF_n q15 (fun q => c_23 (z01.mpr q))])
        · skip
          have c0 : g d1 = 0 := z01.mp c_23
          refine lv_aload_n hx hb dX4_holdFrom_26 rfl (lv_at hl 0 rfl) ?_
          refine gfX4_9 B hT hW hk ((va_up_ne _ _ n1).trans he) rfl dX4_holdFrom_27 ?_
          refine lv_iload_n hx hb dX4_holdFrom_30 rfl (lv_at hl 3 rfl) ?_
          refine lv_iload_n hx hb dX4_holdFrom_31 rfl (lv_at hl 1 rfl) ?_
          refine b_iast B hI hA hW hS hti (j := d1) hkv (va_up_self _ _ _) (vp_in_nI (by omega) (Nat.le_of_ble_eq_true rfl)) (nI_clamp (by omega)) dX4_holdFrom_32 (fun H locs hW hS => ?_)
          have hW := hW.eq (E' := va_up E kv (.inl (cI, 360, .inl (upd f1 d1 v)))) (bx_uu _ _ _ _)
          refine lv_iinc (v := (nI (d1 + 1))) (lv' := [(3, .int (nI (d1 + 1))), (0, .ref (ad k)), (1, .int v), (2, .int (nI d))]) hx hb dX4_holdFrom_33 hl (k := 3) rfl (nI_1 d1) (by decide) rfl (fun ls hl => ?_)
          refine lv_goto (tgt := 11) hx hb dX4_holdFrom_36 (by decide) ?_
          exact ih (d1 + 1) (upd f1 d1 v) (by omega) (by omega) (by rw [← hF_s (by omega) c0]; exact hf1) _ _ _ hW hS (lv_sub hl [1, 2, 3, 0] rfl)
  refine lv_aload_n hx hb dX4_holdFrom_0 rfl (lv_at hl 0 rfl) ?_
  refine gfX4_9 B hT hW hk he rfl dX4_holdFrom_1 ?_
  refine lv_iload_n hx hb dX4_holdFrom_4 rfl (lv_at hl 2 rfl) ?_
  refine lv_iload_n hx hb dX4_holdFrom_5 rfl (lv_at hl 1 rfl) ?_
  refine b_iast B hI hA hW hS hti (j := d) hkv hev (vp_in_nI hd (Nat.le_of_ble_eq_true rfl)) (nI_clamp (Nat.lt_trans hd (Nat.le_of_ble_eq_true rfl))) dX4_holdFrom_6 (fun H locs hW hS => ?_)
  have hW := hW.eq (E' := va_up E kv (.inl (cI, 360, .inl (upd f d v)))) rfl
  refine lv_iload_n hx hb dX4_holdFrom_7 rfl (lv_at hl 2 rfl) ?_
  refine lv_iconst (v := 1) hx hb dX4_holdFrom_8 (by decide) ?_
  refine lv_iadd hx hb dX4_holdFrom_9 ?_
  refine b_top (y := nI (d + 1)) (nI_1 d) ?_
  refine lv_istore_n (lv' := [(3, .int (nI (d + 1))), (0, .ref (ad k)), (1, .int v), (2, .int (nI d))]) hx hb dX4_holdFrom_10 rfl hl (by decide) rfl (fun ls hl => ?_)
  exact L_11 (361) (d + 1) (upd f d v) (by omega) (by omega) (by show hF g v (360 - (d + 1)) (d + 1) (upd f d v) = hF g v (359 - d) (d + 1) (upd f d v); rw [show 360 - (d + 1) = 359 - d by omega]) _ _ _ hW hS (lv_sub hl [1, 2, 3, 0] rfl)
set_option maxHeartbeats 4000000 in
set_option maxRecDepth 100000 in
theorem mt_put {l : Launch} {D : va_G} {tys : List (ClassId × FieldType)} {ad : Nat → Nat} {N : Nat} (hI : aI ad N) {E : Nat → va_E} {cI : ClassId} (k kv kt : Nat) {w : Int32} (f g : Nat → Int32) (d : Nat) (v : Int32) (hti : tys[0]? = some (cI, .int)) (hk : k < N) (hkv : kv < N) (hkt : kt < N) (he : E k = .inr (4, [.int w, .ref (ad kv), .ref (ad kt)])) (hev : E kv = .inl (cI, 360, .inl f)) (het : E kt = .inl (cI, 12, .inl (pkb g))) (n1 : k ≠ kv) (n2 : k ≠ kt) (n3 : kv ≠ kt) (hd : d < 360) (sz : Nat) : Met l yX4_put (Cond.code yX4_put cX4_put 3 none :: wsL_law) (rmk 3 0 0) (va_Pc [.ref (ad k), .int v, .int (nI d)] (PC D tys ad N E sz)) (Qv D ad N (fun E1 => E1 = va_up (va_up E kt (.inl (cI, 12, .inl (pkb (upd g d 1))))) kv (.inl (cI, 360, .inl (tellV f g d v)))) (cA ad N sz)) 0 0 (cA ad N sz) := by
  refine cm_of (own := RX4) (Qc := Qv D ad N (fun E1 => E1 = va_up (va_up E kt (.inl (cI, 12, .inl (pkb (upd g d 1))))) kv (.inl (cI, 360, .inl (tellV f g d v))))) rfl (by decide +kernel) (Nat.le_of_ble_eq_true rfl) ?_ sz
  intro p e s m args below meth c ls Q B hT hX hW hr hlk hnm hl hS hA hQ
  have hx := B.1
  have hb := B.2.1
  have hl : lv_has ls 3 [(0, .ref (ad k)), (1, .int v), (2, .int (nI d))] := hl
  refine lv_aload_n hx hb dX4_put_0 rfl (lv_at hl 0 rfl) ?_
  refine gfX4_15 B hT hW hk he rfl dX4_put_1 ?_
  refine lv_iload_n hx hb dX4_put_4 rfl (lv_at hl 2 rfl) ?_
  refine lv_bipush (v := 30) hx hb dX4_put_5 (by decide) ?_
  refine lv_idiv hx hb dX4_put_7 (by decide) ?_
  refine b_top (y := nI (d / 30)) (dd_div d hd) ?_
  refine lv_dup2_11 hx hb dX4_put_8 rfl rfl ?_
  refine b_iald B hW hti (j := (d / 30)) hkt het (vp_in_nI (by omega) (Nat.le_of_ble_eq_true rfl)) (nI_clamp (by omega)) dX4_put_9 ?_
  refine lv_iload_n hx hb dX4_put_10 rfl (lv_at hl 2 rfl) ?_
  refine b_ci (b_runS B hT hX hW hS (As := [.int (nI d)]) (rest := [.int ((pkb g) (d / 30)), .int (nI (d / 30)), .ref (ad kt)]) (fun sz => mt_bitOf hI d (by omega) sz) (cwX4_28 B.2.2.2.2.1 ⟨Nat.le_of_ble_eq_true rfl, Nat.le_of_ble_eq_true rfl⟩) rfl hl.1 (Nat.le_of_ble_eq_true rfl) dX4_put_11 ⟨Nat.le_of_ble_eq_true rfl, Nat.le_of_ble_eq_true rfl⟩) hS (fun r_11 E1 H locs hp_11 hW hS => ?_)
  obtain ⟨hr_, hE_⟩ := hp_11
  subst hr_
  have hW := hW.eq hE_
  refine lv_ior hx hb dX4_put_14 ?_
  refine b_iast B hI hA hW hS hti (j := (d / 30)) hkt het (vp_in_nI (by omega) (Nat.le_of_ble_eq_true rfl)) (nI_clamp (by omega)) dX4_put_15 (fun H locs hW hS => ?_)
  have hW := hW.eq (E' := va_up E kt (.inl (cI, 12, .inl (upd (pkb g) (d / 30) (((pkb g) (d / 30)) ||| (bq d)))))) rfl
  have hW := hW.eq (E' := va_up E kt (.inl (cI, 12, .inl (pkb (upd g d 1))))) (by rw [pkb_put])
  refine lv_aload_n hx hb dX4_put_16 rfl (lv_at hl 0 rfl) ?_
  refine lv_iload_n hx hb dX4_put_17 rfl (lv_at hl 1 rfl) ?_
  refine lv_iload_n hx hb dX4_put_18 rfl (lv_at hl 2 rfl) ?_
  refine b_cv (b_runV B hT hX hW hS (As := [.int v, .int (nI d)]) (rest := []) (fun sz => mt_holdFrom hI k kv kt f (upd g d 1) d v hti hk hkv hkt ((va_up_ne _ _ n2).trans he) ((va_up_ne _ _ n3).trans hev) (va_up_self _ _ _) n1 n2 n3 (by omega) sz) (cwX4_32 B.2.2.2.2.1 ⟨Nat.le_of_ble_eq_true rfl, Nat.le_of_ble_eq_true rfl⟩) (b_recv B hW hk ((va_up_ne _ _ n2).trans he) rfl) rfl hl.1 (Nat.le_of_ble_eq_true rfl) dX4_put_19 ⟨Nat.le_of_ble_eq_true rfl, Nat.le_of_ble_eq_true rfl⟩) hS (fun E1 H locs hp_19 hW hS => ?_)
  have hW := hW.eq hp_19
  have hW := hW.eq (E' := va_up (va_up E kt (.inl (cI, 12, .inl (pkb (upd g d 1))))) kv (.inl (cI, 360, .inl (hold f (upd g d 1) d v)))) rfl
  exact e_v hQ B hr hlk hS hW dX4_put_22 (Nat.le_of_ble_eq_true rfl) (Nat.le_of_ble_eq_true rfl) rfl
set_option maxHeartbeats 4000000 in
set_option maxRecDepth 100000 in
theorem mt_remove {l : Launch} {D : va_G} {tys : List (ClassId × FieldType)} {ad : Nat → Nat} {N : Nat} (hI : aI ad N) {E : Nat → va_E} {cI : ClassId} (k kv kt : Nat) {w : Int32} (f g : Nat → Int32) (d : Nat) (hti : tys[0]? = some (cI, .int)) (hk : k < N) (hkv : kv < N) (hkt : kt < N) (he : E k = .inr (4, [.int w, .ref (ad kv), .ref (ad kt)])) (hev : E kv = .inl (cI, 360, .inl f)) (het : E kt = .inl (cI, 12, .inl (pkb g))) (n1 : k ≠ kv) (n2 : k ≠ kt) (n3 : kv ≠ kt) (hd : d < 360) (sz : Nat) : Met l yX4_remove (Cond.code yX4_remove cX4_remove 2 none :: wsL_law) (rmk 3 0 0) (va_Pc [.ref (ad k), .int (nI d)] (PC D tys ad N E sz)) (Qv D ad N (fun E1 => E1 = va_up (va_up E kt (.inl (cI, 12, .inl (pkb (upd g d 0))))) kv (.inl (cI, 360, .inl (takeV f g d w)))) (cA ad N sz)) 0 0 (cA ad N sz) := by
  refine cm_of (own := RX4) (Qc := Qv D ad N (fun E1 => E1 = va_up (va_up E kt (.inl (cI, 12, .inl (pkb (upd g d 0))))) kv (.inl (cI, 360, .inl (takeV f g d w))))) rfl (by decide +kernel) (Nat.le_of_ble_eq_true rfl) ?_ sz
  intro p e s m args below meth c ls Q B hT hX hW hr hlk hnm hl hS hA hQ
  have hx := B.1
  have hb := B.2.1
  have hl : lv_has ls 2 [(0, .ref (ad k)), (1, .int (nI d))] := hl
  refine lv_aload_n hx hb dX4_remove_0 rfl (lv_at hl 0 rfl) ?_
  refine gfX4_15 B hT hW hk he rfl dX4_remove_1 ?_
  refine lv_iload_n hx hb dX4_remove_4 rfl (lv_at hl 1 rfl) ?_
  refine lv_bipush (v := 30) hx hb dX4_remove_5 (by decide) ?_
  refine lv_idiv hx hb dX4_remove_7 (by decide) ?_
  refine b_top (y := nI (d / 30)) (dd_div d hd) ?_
  refine lv_dup2_11 hx hb dX4_remove_8 rfl rfl ?_
  refine b_iald B hW hti (j := (d / 30)) hkt het (vp_in_nI (by omega) (Nat.le_of_ble_eq_true rfl)) (nI_clamp (by omega)) dX4_remove_9 ?_
  refine lv_iload_n hx hb dX4_remove_10 rfl (lv_at hl 1 rfl) ?_
  refine b_ci (b_runS B hT hX hW hS (As := [.int (nI d)]) (rest := [.int ((pkb g) (d / 30)), .int (nI (d / 30)), .ref (ad kt)]) (fun sz => mt_bitOf hI d (by omega) sz) (cwX4_28 B.2.2.2.2.1 ⟨Nat.le_of_ble_eq_true rfl, Nat.le_of_ble_eq_true rfl⟩) rfl hl.1 (Nat.le_of_ble_eq_true rfl) dX4_remove_11 ⟨Nat.le_of_ble_eq_true rfl, Nat.le_of_ble_eq_true rfl⟩) hS (fun r_11 E1 H locs hp_11 hW hS => ?_)
  obtain ⟨hr_, hE_⟩ := hp_11
  subst hr_
  have hW := hW.eq hE_
  refine lv_iconst (v := (-1)) hx hb dX4_remove_14 (by decide) ?_
  refine lv_ixor hx hb dX4_remove_15 ?_
  refine lv_iand hx hb dX4_remove_16 ?_
  refine b_iast B hI hA hW hS hti (j := (d / 30)) hkt het (vp_in_nI (by omega) (Nat.le_of_ble_eq_true rfl)) (nI_clamp (by omega)) dX4_remove_17 (fun H locs hW hS => ?_)
  have hW := hW.eq (E' := va_up E kt (.inl (cI, 12, .inl (upd (pkb g) (d / 30) (((pkb g) (d / 30)) &&& ((bq d) ^^^ (-1))))))) rfl
  have hW := hW.eq (E' := va_up E kt (.inl (cI, 12, .inl (pkb (upd g d 0))))) (by rw [pkb_rem])
  refine lv_aload_n hx hb dX4_remove_18 rfl (lv_at hl 0 rfl) ?_
  refine lv_iload_n hx hb dX4_remove_19 rfl (lv_at hl 1 rfl) ?_
  refine lv_if_le (tgt := 34) hx hb dX4_remove_20 (by decide) (fun c_20 => ?_) (fun c_20 => ?_)
  · skip
    have q9 : d = 0 := Nat.eq_zero_of_not_pos (fun q => nI_nle q (by omega) c_20)
    refine lv_aload_n hx hb dX4_remove_34 rfl (lv_at hl 0 rfl) ?_
    refine gfX4_18 B hT hW hk ((va_up_ne _ _ n2).trans he) rfl dX4_remove_35 ?_
    refine lv_iload_n hx hb dX4_remove_38 rfl (lv_at hl 1 rfl) ?_
    refine b_cv (b_runV B hT hX hW hS (As := [.int w, .int (nI d)]) (rest := []) (fun sz => mt_holdFrom hI k kv kt f (upd g d 0) d w hti hk hkv hkt ((va_up_ne _ _ n2).trans he) ((va_up_ne _ _ n3).trans hev) (va_up_self _ _ _) n1 n2 n3 (by omega) sz) (cwX4_32 B.2.2.2.2.1 ⟨Nat.le_of_ble_eq_true rfl, Nat.le_of_ble_eq_true rfl⟩) (b_recv B hW hk ((va_up_ne _ _ n2).trans he) rfl) rfl hl.1 (Nat.le_of_ble_eq_true rfl) dX4_remove_39 ⟨Nat.le_of_ble_eq_true rfl, Nat.le_of_ble_eq_true rfl⟩) hS (fun E1 H locs hp_39 hW hS => ?_)
    have hW := hW.eq hp_39
    have hW := hW.eq (E' := va_up (va_up E kt (.inl (cI, 12, .inl (pkb (upd g d 0))))) kv (.inl (cI, 360, .inl (hold f (upd g d 0) d w)))) rfl
    exact e_v hQ B hr hlk hS hW dX4_remove_42 (Nat.le_of_ble_eq_true rfl) (Nat.le_of_ble_eq_true rfl) (by unfold takeV; rw [if_pos q9])
  · skip
    have q9 : 0 < d := Nat.pos_of_ne_zero (fun q => c_20 (by rw [q]; decide))
    refine lv_aload_n hx hb dX4_remove_23 rfl (lv_at hl 0 rfl) ?_
    refine gfX4_9 B hT hW hk ((va_up_ne _ _ n2).trans he) rfl dX4_remove_24 ?_
    refine lv_iload_n hx hb dX4_remove_27 rfl (lv_at hl 1 rfl) ?_
    refine lv_iconst (v := 1) hx hb dX4_remove_28 (by decide) ?_
    refine lv_isub hx hb dX4_remove_29 ?_
    refine b_top (y := nI (d - 1)) (pk_sub q9) ?_
    refine b_iald B hW hti (j := (d - 1)) hkv ((va_up_ne _ _ n3).trans hev) (vp_in_nI (by omega) (Nat.le_of_ble_eq_true rfl)) (nI_clamp (by omega)) dX4_remove_30 ?_
    refine lv_goto (tgt := 38) hx hb dX4_remove_31 (by decide) ?_
    refine lv_iload_n hx hb dX4_remove_38 rfl (lv_at hl 1 rfl) ?_
    refine b_cv (b_runV B hT hX hW hS (As := [.int (f (d - 1)), .int (nI d)]) (rest := []) (fun sz => mt_holdFrom hI k kv kt f (upd g d 0) d (f (d - 1)) hti hk hkv hkt ((va_up_ne _ _ n2).trans he) ((va_up_ne _ _ n3).trans hev) (va_up_self _ _ _) n1 n2 n3 (by omega) sz) (cwX4_32 B.2.2.2.2.1 ⟨Nat.le_of_ble_eq_true rfl, Nat.le_of_ble_eq_true rfl⟩) (b_recv B hW hk ((va_up_ne _ _ n2).trans he) rfl) rfl hl.1 (Nat.le_of_ble_eq_true rfl) dX4_remove_39 ⟨Nat.le_of_ble_eq_true rfl, Nat.le_of_ble_eq_true rfl⟩) hS (fun E1 H locs hp_39 hW hS => ?_)
    have hW := hW.eq hp_39
    have hW := hW.eq (E' := va_up (va_up E kt (.inl (cI, 12, .inl (pkb (upd g d 0))))) kv (.inl (cI, 360, .inl (hold f (upd g d 0) d (f (d - 1)))))) rfl
    exact e_v hQ B hr hlk hS hW dX4_remove_42 (Nat.le_of_ble_eq_true rfl) (Nat.le_of_ble_eq_true rfl) (by unfold takeV; rw [if_neg (by omega)])
