theorem gfX6_17 {p : Program} {l : Launch} {e : Env} {R : Room} {s : State} {m : MethodId} {args : Array Value} {below : List Frame} {meth : Method} {c : Code} {H : Heap} {locs : List Loc} {cells slots : Nat} {Q : State → Prop} {cc : ByteArray} {pc nL : Nat} {ls : Array Slot} {rest : List Value} {D : va_G} {tys : List (ClassId × FieldType)} {ad : Nat → Nat} {N : Nat} {E : Nat → va_E} {k : Nat} {fs : List Value} {v : Value} (B : MB p c cc nL RX6 s m args D tys) (hT : TX s) (hW : hH D ad N E H) (hk : k < N) (he : E k = .inr (6, fs)) (hv : fs[9]? = some v) (hdg : decode cc pc = .ok (.getfield 17, 3)) (kk : W p l e R s m args below meth c H locs cells slots Q (F0 m (pc + 3) ls (v :: rest))) : W p l e R s m args below meth c H locs cells slots Q (F0 m pc ls (.ref (ad k) :: rest)) :=
  b_get B hW inlX6 rfl 9 (by decide) (r5_in _ (List.mem_of_getElem? (i := 5) rfl)) rfl hk he hv hdg kk
theorem gfX6_99 {p : Program} {l : Launch} {e : Env} {R : Room} {s : State} {m : MethodId} {args : Array Value} {below : List Frame} {meth : Method} {c : Code} {H : Heap} {locs : List Loc} {cells slots : Nat} {Q : State → Prop} {cc : ByteArray} {pc nL : Nat} {ls : Array Slot} {rest : List Value} {D : va_G} {tys : List (ClassId × FieldType)} {ad : Nat → Nat} {N : Nat} {E : Nat → va_E} {k : Nat} {fs : List Value} {v : Value} (B : MB p c cc nL RX6 s m args D tys) (hT : TX s) (hW : hH D ad N E H) (hk : k < N) (he : E k = .inr (6, fs)) (hv : fs[23]? = some v) (hdg : decode cc pc = .ok (.getfield 99, 3)) (kk : W p l e R s m args below meth c H locs cells slots Q (F0 m (pc + 3) ls (v :: rest))) : W p l e R s m args below meth c H locs cells slots Q (F0 m pc ls (.ref (ad k) :: rest)) :=
  b_get B hW inlX6 rfl 23 (by decide) (r18_in _ (List.mem_of_getElem? (i := 3) rfl)) rfl hk he hv hdg kk
theorem gfX6_13 {p : Program} {l : Launch} {e : Env} {R : Room} {s : State} {m : MethodId} {args : Array Value} {below : List Frame} {meth : Method} {c : Code} {H : Heap} {locs : List Loc} {cells slots : Nat} {Q : State → Prop} {cc : ByteArray} {pc nL : Nat} {ls : Array Slot} {rest : List Value} {D : va_G} {tys : List (ClassId × FieldType)} {ad : Nat → Nat} {N : Nat} {E : Nat → va_E} {k : Nat} {fs : List Value} {v : Value} (B : MB p c cc nL RX6 s m args D tys) (hT : TX s) (hW : hH D ad N E H) (hk : k < N) (he : E k = .inr (6, fs)) (hv : fs[8]? = some v) (hdg : decode cc pc = .ok (.getfield 13, 3)) (kk : W p l e R s m args below meth c H locs cells slots Q (F0 m (pc + 3) ls (v :: rest))) : W p l e R s m args below meth c H locs cells slots Q (F0 m pc ls (.ref (ad k) :: rest)) :=
  b_get B hW inlX6 rfl 8 (by decide) (r5_in _ (List.mem_of_getElem? (i := 4) rfl)) rfl hk he hv hdg kk
theorem pfX6_99 {p : Program} {l : Launch} {e : Env} {R : Room} {s : State} {m : MethodId} {args : Array Value} {below : List Frame} {meth : Method} {c : Code} {H : Heap} {locs : List Loc} {cells slots : Nat} {Q : State → Prop} {cc : ByteArray} {pc nL : Nat} {ls : Array Slot} {rest : List Value} {D : va_G} {tys : List (ClassId × FieldType)} {ad : Nat → Nat} {N : Nat} {E : Nat → va_E} {k : Nat} {fs : List Value} {v : Value} {A : Nat → Prop} {H0 : Heap} (B : MB p c cc nL RX6 s m args D tys) (hT : TX s) (hI : aI ad N) (hA : ∀ k : Nat, k < N → A (ad k)) (hW : hH D ad N E H) (hS : va_S A H0 H locs) (hk : k < N) (he : E k = .inr (6, fs)) (hl : 23 < fs.length) (hn : narrow .int v = v) (hfit : fits .int v = true) (hdg : decode cc pc = .ok (.putfield 99, 3)) (kk : ∀ (H1 : Heap) (locs1 : List Loc), hH D ad N (va_up E k (.inr (6, fs.set 23 v))) H1 → va_S A H0 H1 locs1 → W p l e R s m args below meth c H1 locs1 cells slots Q (F0 m (pc + 3) ls rest)) : W p l e R s m args below meth c H locs cells slots Q (F0 m pc ls (v :: .ref (ad k) :: rest)) :=
  b_put B hI hA hW hS inlX6 tyX6 tyX6_ok nmX6 rfl 23 (by decide) (r18_in _ (List.mem_of_getElem? (i := 3) rfl)) rfl rfl (by decide +kernel) hk he hl hn hfit hdg kk
theorem gfX6_102 {p : Program} {l : Launch} {e : Env} {R : Room} {s : State} {m : MethodId} {args : Array Value} {below : List Frame} {meth : Method} {c : Code} {H : Heap} {locs : List Loc} {cells slots : Nat} {Q : State → Prop} {cc : ByteArray} {pc nL : Nat} {ls : Array Slot} {rest : List Value} {D : va_G} {tys : List (ClassId × FieldType)} {ad : Nat → Nat} {N : Nat} {E : Nat → va_E} {k : Nat} {fs : List Value} {v : Value} (B : MB p c cc nL RX6 s m args D tys) (hT : TX s) (hW : hH D ad N E H) (hk : k < N) (he : E k = .inr (6, fs)) (hv : fs[24]? = some v) (hdg : decode cc pc = .ok (.getfield 102, 3)) (kk : W p l e R s m args below meth c H locs cells slots Q (F0 m (pc + 3) ls (v :: rest))) : W p l e R s m args below meth c H locs cells slots Q (F0 m pc ls (.ref (ad k) :: rest)) :=
  b_get B hW inlX6 rfl 24 (by decide) (r18_in _ (List.mem_of_getElem? (i := 4) rfl)) rfl hk he hv hdg kk
theorem pfX6_102 {p : Program} {l : Launch} {e : Env} {R : Room} {s : State} {m : MethodId} {args : Array Value} {below : List Frame} {meth : Method} {c : Code} {H : Heap} {locs : List Loc} {cells slots : Nat} {Q : State → Prop} {cc : ByteArray} {pc nL : Nat} {ls : Array Slot} {rest : List Value} {D : va_G} {tys : List (ClassId × FieldType)} {ad : Nat → Nat} {N : Nat} {E : Nat → va_E} {k : Nat} {fs : List Value} {v : Value} {A : Nat → Prop} {H0 : Heap} (B : MB p c cc nL RX6 s m args D tys) (hT : TX s) (hI : aI ad N) (hA : ∀ k : Nat, k < N → A (ad k)) (hW : hH D ad N E H) (hS : va_S A H0 H locs) (hk : k < N) (he : E k = .inr (6, fs)) (hl : 24 < fs.length) (hn : narrow .int v = v) (hfit : fits .int v = true) (hdg : decode cc pc = .ok (.putfield 102, 3)) (kk : ∀ (H1 : Heap) (locs1 : List Loc), hH D ad N (va_up E k (.inr (6, fs.set 24 v))) H1 → va_S A H0 H1 locs1 → W p l e R s m args below meth c H1 locs1 cells slots Q (F0 m (pc + 3) ls rest)) : W p l e R s m args below meth c H locs cells slots Q (F0 m pc ls (v :: .ref (ad k) :: rest)) :=
  b_put B hI hA hW hS inlX6 tyX6 tyX6_ok nmX6 rfl 24 (by decide) (r18_in _ (List.mem_of_getElem? (i := 4) rfl)) rfl rfl (by decide +kernel) hk he hl hn hfit hdg kk
theorem gfX6_105 {p : Program} {l : Launch} {e : Env} {R : Room} {s : State} {m : MethodId} {args : Array Value} {below : List Frame} {meth : Method} {c : Code} {H : Heap} {locs : List Loc} {cells slots : Nat} {Q : State → Prop} {cc : ByteArray} {pc nL : Nat} {ls : Array Slot} {rest : List Value} {D : va_G} {tys : List (ClassId × FieldType)} {ad : Nat → Nat} {N : Nat} {E : Nat → va_E} {k : Nat} {fs : List Value} {v : Value} (B : MB p c cc nL RX6 s m args D tys) (hT : TX s) (hW : hH D ad N E H) (hk : k < N) (he : E k = .inr (6, fs)) (hv : fs[25]? = some v) (hdg : decode cc pc = .ok (.getfield 105, 3)) (kk : W p l e R s m args below meth c H locs cells slots Q (F0 m (pc + 3) ls (v :: rest))) : W p l e R s m args below meth c H locs cells slots Q (F0 m pc ls (.ref (ad k) :: rest)) :=
  b_get B hW inlX6 rfl 25 (by decide) (r18_in _ (List.mem_of_getElem? (i := 9) rfl)) rfl hk he hv hdg kk
theorem gfX6_20 {p : Program} {l : Launch} {e : Env} {R : Room} {s : State} {m : MethodId} {args : Array Value} {below : List Frame} {meth : Method} {c : Code} {H : Heap} {locs : List Loc} {cells slots : Nat} {Q : State → Prop} {cc : ByteArray} {pc nL : Nat} {ls : Array Slot} {rest : List Value} {D : va_G} {tys : List (ClassId × FieldType)} {ad : Nat → Nat} {N : Nat} {E : Nat → va_E} {k : Nat} {fs : List Value} {v : Value} (B : MB p c cc nL RX6 s m args D tys) (hT : TX s) (hW : hH D ad N E H) (hk : k < N) (he : E k = .inr (6, fs)) (hv : fs[10]? = some v) (hdg : decode cc pc = .ok (.getfield 20, 3)) (kk : W p l e R s m args below meth c H locs cells slots Q (F0 m (pc + 3) ls (v :: rest))) : W p l e R s m args below meth c H locs cells slots Q (F0 m pc ls (.ref (ad k) :: rest)) :=
  b_get B hW inlX6 rfl 10 (by decide) (r5_in _ (List.mem_of_getElem? (i := 6) rfl)) rfl hk he hv hdg kk
theorem pfX6_105 {p : Program} {l : Launch} {e : Env} {R : Room} {s : State} {m : MethodId} {args : Array Value} {below : List Frame} {meth : Method} {c : Code} {H : Heap} {locs : List Loc} {cells slots : Nat} {Q : State → Prop} {cc : ByteArray} {pc nL : Nat} {ls : Array Slot} {rest : List Value} {D : va_G} {tys : List (ClassId × FieldType)} {ad : Nat → Nat} {N : Nat} {E : Nat → va_E} {k : Nat} {fs : List Value} {v : Value} {A : Nat → Prop} {H0 : Heap} (B : MB p c cc nL RX6 s m args D tys) (hT : TX s) (hI : aI ad N) (hA : ∀ k : Nat, k < N → A (ad k)) (hW : hH D ad N E H) (hS : va_S A H0 H locs) (hk : k < N) (he : E k = .inr (6, fs)) (hl : 25 < fs.length) (hn : narrow .int v = v) (hfit : fits .int v = true) (hdg : decode cc pc = .ok (.putfield 105, 3)) (kk : ∀ (H1 : Heap) (locs1 : List Loc), hH D ad N (va_up E k (.inr (6, fs.set 25 v))) H1 → va_S A H0 H1 locs1 → W p l e R s m args below meth c H1 locs1 cells slots Q (F0 m (pc + 3) ls rest)) : W p l e R s m args below meth c H locs cells slots Q (F0 m pc ls (v :: .ref (ad k) :: rest)) :=
  b_put B hI hA hW hS inlX6 tyX6 tyX6_ok nmX6 rfl 25 (by decide) (r18_in _ (List.mem_of_getElem? (i := 9) rfl)) rfl rfl (by decide +kernel) hk he hl hn hfit hdg kk
theorem cwX6_108 {R : Room} {s : State} {args : Array Value} {rm : Room} (hts : ∀ w ∈ wsL_law, w.before args s = true) (hR : rm.frames + 1 ≤ R.frames ∧ 8 + (3 + 11) + rm.locals ≤ R.locals) : CWV R s args RX6 RX6 108 yX6_at cX6_at 3 (some .int) rm rm.cells rm.slots 2 :=
  cwV 2 hts (gi_V (r18_in _ (List.mem_of_getElem? (i := 10) rfl)) (r18_in _ (List.mem_of_getElem? (i := 11) rfl)) (r18_in _ (List.mem_of_getElem? (i := 12) rfl)) (r1_in _ (List.mem_of_getElem? (i := 5) rfl)) (r18_in _ (List.mem_of_getElem? (i := 13) rfl))) rfl rfl rfl (by decide +kernel) hR
theorem gfX6_112 {p : Program} {l : Launch} {e : Env} {R : Room} {s : State} {m : MethodId} {args : Array Value} {below : List Frame} {meth : Method} {c : Code} {H : Heap} {locs : List Loc} {cells slots : Nat} {Q : State → Prop} {cc : ByteArray} {pc nL : Nat} {ls : Array Slot} {rest : List Value} {D : va_G} {tys : List (ClassId × FieldType)} {ad : Nat → Nat} {N : Nat} {E : Nat → va_E} {k : Nat} {fs : List Value} {v : Value} (B : MB p c cc nL RX6 s m args D tys) (hT : TX s) (hW : hH D ad N E H) (hk : k < N) (he : E k = .inr (6, fs)) (hv : fs[22]? = some v) (hdg : decode cc pc = .ok (.getfield 112, 3)) (kk : W p l e R s m args below meth c H locs cells slots Q (F0 m (pc + 3) ls (v :: rest))) : W p l e R s m args below meth c H locs cells slots Q (F0 m pc ls (.ref (ad k) :: rest)) :=
  b_get B hW inlX6 rfl 22 (by decide) (r17_in _ (List.mem_of_getElem? (i := 22) rfl)) rfl hk he hv hdg kk
theorem cwX6_115 {R : Room} {s : State} {args : Array Value} {rm : Room} (hts : ∀ w ∈ wsL_law, w.before args s = true) (hR : rm.frames + 1 ≤ R.frames ∧ 8 + (2 + 11) + rm.locals ≤ R.locals) : CWS R s args RX6 115 yX6_lesser cX6_lesser 2 (some .int) rm rm.cells rm.slots 2 :=
  va_cwS 2 hts (gi_S (r18_in _ (List.mem_of_getElem? (i := 14) rfl)) (r18_in _ (List.mem_of_getElem? (i := 15) rfl)) (r1_in _ (List.mem_of_getElem? (i := 5) rfl)) (r18_in _ (List.mem_of_getElem? (i := 16) rfl))) rfl rfl rfl (by decide +kernel) hR
theorem gfX6_118 {p : Program} {l : Launch} {e : Env} {R : Room} {s : State} {m : MethodId} {args : Array Value} {below : List Frame} {meth : Method} {c : Code} {H : Heap} {locs : List Loc} {cells slots : Nat} {Q : State → Prop} {cc : ByteArray} {pc nL : Nat} {ls : Array Slot} {rest : List Value} {D : va_G} {tys : List (ClassId × FieldType)} {ad : Nat → Nat} {N : Nat} {E : Nat → va_E} {k : Nat} {fs : List Value} {v : Value} (B : MB p c cc nL RX6 s m args D tys) (hT : TX s) (hW : hH D ad N E H) (hk : k < N) (he : E k = .inr (6, fs)) (hv : fs[20]? = some v) (hdg : decode cc pc = .ok (.getfield 118, 3)) (kk : W p l e R s m args below meth c H locs cells slots Q (F0 m (pc + 3) ls (v :: rest))) : W p l e R s m args below meth c H locs cells slots Q (F0 m pc ls (.ref (ad k) :: rest)) :=
  b_get B hW inlX6 rfl 20 (by decide) (r17_in _ (List.mem_of_getElem? (i := 20) rfl)) rfl hk he hv hdg kk
theorem pfX6_112 {p : Program} {l : Launch} {e : Env} {R : Room} {s : State} {m : MethodId} {args : Array Value} {below : List Frame} {meth : Method} {c : Code} {H : Heap} {locs : List Loc} {cells slots : Nat} {Q : State → Prop} {cc : ByteArray} {pc nL : Nat} {ls : Array Slot} {rest : List Value} {D : va_G} {tys : List (ClassId × FieldType)} {ad : Nat → Nat} {N : Nat} {E : Nat → va_E} {k : Nat} {fs : List Value} {v : Value} {A : Nat → Prop} {H0 : Heap} (B : MB p c cc nL RX6 s m args D tys) (hT : TX s) (hI : aI ad N) (hA : ∀ k : Nat, k < N → A (ad k)) (hW : hH D ad N E H) (hS : va_S A H0 H locs) (hk : k < N) (he : E k = .inr (6, fs)) (hl : 22 < fs.length) (hn : narrow .int v = v) (hfit : fits .int v = true) (hdg : decode cc pc = .ok (.putfield 112, 3)) (kk : ∀ (H1 : Heap) (locs1 : List Loc), hH D ad N (va_up E k (.inr (6, fs.set 22 v))) H1 → va_S A H0 H1 locs1 → W p l e R s m args below meth c H1 locs1 cells slots Q (F0 m (pc + 3) ls rest)) : W p l e R s m args below meth c H locs cells slots Q (F0 m pc ls (v :: .ref (ad k) :: rest)) :=
  b_put B hI hA hW hS inlX6 tyX6 tyX6_ok nmX6 rfl 22 (by decide) (r17_in _ (List.mem_of_getElem? (i := 22) rfl)) rfl rfl (by decide +kernel) hk he hl hn hfit hdg kk
theorem pfX6_118 {p : Program} {l : Launch} {e : Env} {R : Room} {s : State} {m : MethodId} {args : Array Value} {below : List Frame} {meth : Method} {c : Code} {H : Heap} {locs : List Loc} {cells slots : Nat} {Q : State → Prop} {cc : ByteArray} {pc nL : Nat} {ls : Array Slot} {rest : List Value} {D : va_G} {tys : List (ClassId × FieldType)} {ad : Nat → Nat} {N : Nat} {E : Nat → va_E} {k : Nat} {fs : List Value} {v : Value} {A : Nat → Prop} {H0 : Heap} (B : MB p c cc nL RX6 s m args D tys) (hT : TX s) (hI : aI ad N) (hA : ∀ k : Nat, k < N → A (ad k)) (hW : hH D ad N E H) (hS : va_S A H0 H locs) (hk : k < N) (he : E k = .inr (6, fs)) (hl : 20 < fs.length) (hn : narrow .int v = v) (hfit : fits .int v = true) (hdg : decode cc pc = .ok (.putfield 118, 3)) (kk : ∀ (H1 : Heap) (locs1 : List Loc), hH D ad N (va_up E k (.inr (6, fs.set 20 v))) H1 → va_S A H0 H1 locs1 → W p l e R s m args below meth c H1 locs1 cells slots Q (F0 m (pc + 3) ls rest)) : W p l e R s m args below meth c H locs cells slots Q (F0 m pc ls (v :: .ref (ad k) :: rest)) :=
  b_put B hI hA hW hS inlX6 tyX6 tyX6_ok nmX6 rfl 20 (by decide) (r17_in _ (List.mem_of_getElem? (i := 20) rfl)) rfl rfl (by decide +kernel) hk he hl hn hfit hdg kk
theorem pfX6_121 {p : Program} {l : Launch} {e : Env} {R : Room} {s : State} {m : MethodId} {args : Array Value} {below : List Frame} {meth : Method} {c : Code} {H : Heap} {locs : List Loc} {cells slots : Nat} {Q : State → Prop} {cc : ByteArray} {pc nL : Nat} {ls : Array Slot} {rest : List Value} {D : va_G} {tys : List (ClassId × FieldType)} {ad : Nat → Nat} {N : Nat} {E : Nat → va_E} {k : Nat} {fs : List Value} {v : Value} {A : Nat → Prop} {H0 : Heap} (B : MB p c cc nL RX6 s m args D tys) (hT : TX s) (hI : aI ad N) (hA : ∀ k : Nat, k < N → A (ad k)) (hW : hH D ad N E H) (hS : va_S A H0 H locs) (hk : k < N) (he : E k = .inr (6, fs)) (hl : 26 < fs.length) (hn : narrow .boolean v = v) (hfit : fits .boolean v = true) (hdg : decode cc pc = .ok (.putfield 121, 3)) (kk : ∀ (H1 : Heap) (locs1 : List Loc), hH D ad N (va_up E k (.inr (6, fs.set 26 v))) H1 → va_S A H0 H1 locs1 → W p l e R s m args below meth c H1 locs1 cells slots Q (F0 m (pc + 3) ls rest)) : W p l e R s m args below meth c H locs cells slots Q (F0 m pc ls (v :: .ref (ad k) :: rest)) :=
  b_put B hI hA hW hS inlX6 tyX6 tyX6_ok nmX6 rfl 26 (by decide) (r18_in _ (List.mem_of_getElem? (i := 21) rfl)) rfl rfl (by decide +kernel) hk he hl hn hfit hdg kk
theorem gfX6_125 {p : Program} {l : Launch} {e : Env} {R : Room} {s : State} {m : MethodId} {args : Array Value} {below : List Frame} {meth : Method} {c : Code} {H : Heap} {locs : List Loc} {cells slots : Nat} {Q : State → Prop} {cc : ByteArray} {pc nL : Nat} {ls : Array Slot} {rest : List Value} {D : va_G} {tys : List (ClassId × FieldType)} {ad : Nat → Nat} {N : Nat} {E : Nat → va_E} {k : Nat} {fs : List Value} {v : Value} (B : MB p c cc nL RX6 s m args D tys) (hT : TX s) (hW : hH D ad N E H) (hk : k < N) (he : E k = .inr (6, fs)) (hv : fs[21]? = some v) (hdg : decode cc pc = .ok (.getfield 125, 3)) (kk : W p l e R s m args below meth c H locs cells slots Q (F0 m (pc + 3) ls (v :: rest))) : W p l e R s m args below meth c H locs cells slots Q (F0 m pc ls (.ref (ad k) :: rest)) :=
  b_get B hW inlX6 rfl 21 (by decide) (r17_in _ (List.mem_of_getElem? (i := 21) rfl)) rfl hk he hv hdg kk
theorem pfX6_125 {p : Program} {l : Launch} {e : Env} {R : Room} {s : State} {m : MethodId} {args : Array Value} {below : List Frame} {meth : Method} {c : Code} {H : Heap} {locs : List Loc} {cells slots : Nat} {Q : State → Prop} {cc : ByteArray} {pc nL : Nat} {ls : Array Slot} {rest : List Value} {D : va_G} {tys : List (ClassId × FieldType)} {ad : Nat → Nat} {N : Nat} {E : Nat → va_E} {k : Nat} {fs : List Value} {v : Value} {A : Nat → Prop} {H0 : Heap} (B : MB p c cc nL RX6 s m args D tys) (hT : TX s) (hI : aI ad N) (hA : ∀ k : Nat, k < N → A (ad k)) (hW : hH D ad N E H) (hS : va_S A H0 H locs) (hk : k < N) (he : E k = .inr (6, fs)) (hl : 21 < fs.length) (hn : narrow .int v = v) (hfit : fits .int v = true) (hdg : decode cc pc = .ok (.putfield 125, 3)) (kk : ∀ (H1 : Heap) (locs1 : List Loc), hH D ad N (va_up E k (.inr (6, fs.set 21 v))) H1 → va_S A H0 H1 locs1 → W p l e R s m args below meth c H1 locs1 cells slots Q (F0 m (pc + 3) ls rest)) : W p l e R s m args below meth c H locs cells slots Q (F0 m pc ls (v :: .ref (ad k) :: rest)) :=
  b_put B hI hA hW hS inlX6 tyX6 tyX6_ok nmX6 rfl 21 (by decide) (r17_in _ (List.mem_of_getElem? (i := 21) rfl)) rfl rfl (by decide +kernel) hk he hl hn hfit hdg kk
theorem pfX6_128 {p : Program} {l : Launch} {e : Env} {R : Room} {s : State} {m : MethodId} {args : Array Value} {below : List Frame} {meth : Method} {c : Code} {H : Heap} {locs : List Loc} {cells slots : Nat} {Q : State → Prop} {cc : ByteArray} {pc nL : Nat} {ls : Array Slot} {rest : List Value} {D : va_G} {tys : List (ClassId × FieldType)} {ad : Nat → Nat} {N : Nat} {E : Nat → va_E} {k : Nat} {fs : List Value} {v : Value} {A : Nat → Prop} {H0 : Heap} (B : MB p c cc nL RX6 s m args D tys) (hT : TX s) (hI : aI ad N) (hA : ∀ k : Nat, k < N → A (ad k)) (hW : hH D ad N E H) (hS : va_S A H0 H locs) (hk : k < N) (he : E k = .inr (6, fs)) (hl : 27 < fs.length) (hn : narrow .boolean v = v) (hfit : fits .boolean v = true) (hdg : decode cc pc = .ok (.putfield 128, 3)) (kk : ∀ (H1 : Heap) (locs1 : List Loc), hH D ad N (va_up E k (.inr (6, fs.set 27 v))) H1 → va_S A H0 H1 locs1 → W p l e R s m args below meth c H1 locs1 cells slots Q (F0 m (pc + 3) ls rest)) : W p l e R s m args below meth c H locs cells slots Q (F0 m pc ls (v :: .ref (ad k) :: rest)) :=
  b_put B hI hA hW hS inlX6 tyX6 tyX6_ok nmX6 rfl 27 (by decide) (r19_in _ (List.mem_of_getElem? (i := 2) rfl)) rfl rfl (by decide +kernel) hk he hl hn hfit hdg kk
theorem gfX6_128 {p : Program} {l : Launch} {e : Env} {R : Room} {s : State} {m : MethodId} {args : Array Value} {below : List Frame} {meth : Method} {c : Code} {H : Heap} {locs : List Loc} {cells slots : Nat} {Q : State → Prop} {cc : ByteArray} {pc nL : Nat} {ls : Array Slot} {rest : List Value} {D : va_G} {tys : List (ClassId × FieldType)} {ad : Nat → Nat} {N : Nat} {E : Nat → va_E} {k : Nat} {fs : List Value} {v : Value} (B : MB p c cc nL RX6 s m args D tys) (hT : TX s) (hW : hH D ad N E H) (hk : k < N) (he : E k = .inr (6, fs)) (hv : fs[27]? = some v) (hdg : decode cc pc = .ok (.getfield 128, 3)) (kk : W p l e R s m args below meth c H locs cells slots Q (F0 m (pc + 3) ls (v :: rest))) : W p l e R s m args below meth c H locs cells slots Q (F0 m pc ls (.ref (ad k) :: rest)) :=
  b_get B hW inlX6 rfl 27 (by decide) (r19_in _ (List.mem_of_getElem? (i := 2) rfl)) rfl hk he hv hdg kk
theorem cwX6_131 {R : Room} {s : State} {args : Array Value} {rm : Room} (hts : ∀ w ∈ wsL_law, w.before args s = true) (hR : rm.frames + 1 ≤ R.frames ∧ 8 + (4 + 11) + rm.locals ≤ R.locals) : CWV R s args RX6 RX6 131 yX6_counts cX6_counts 4 none rm rm.cells rm.slots 2 :=
  cwV 2 hts (gi_V (r18_in _ (List.mem_of_getElem? (i := 5) rfl)) (r18_in _ (List.mem_of_getElem? (i := 6) rfl)) (r18_in _ (List.mem_of_getElem? (i := 7) rfl)) (r1_in _ (List.mem_of_getElem? (i := 5) rfl)) (r18_in _ (List.mem_of_getElem? (i := 8) rfl))) rfl rfl rfl (by decide +kernel) hR
theorem gfX6_23 {p : Program} {l : Launch} {e : Env} {R : Room} {s : State} {m : MethodId} {args : Array Value} {below : List Frame} {meth : Method} {c : Code} {H : Heap} {locs : List Loc} {cells slots : Nat} {Q : State → Prop} {cc : ByteArray} {pc nL : Nat} {ls : Array Slot} {rest : List Value} {D : va_G} {tys : List (ClassId × FieldType)} {ad : Nat → Nat} {N : Nat} {E : Nat → va_E} {k : Nat} {fs : List Value} {v : Value} (B : MB p c cc nL RX6 s m args D tys) (hT : TX s) (hW : hH D ad N E H) (hk : k < N) (he : E k = .inr (6, fs)) (hv : fs[11]? = some v) (hdg : decode cc pc = .ok (.getfield 23, 3)) (kk : W p l e R s m args below meth c H locs cells slots Q (F0 m (pc + 3) ls (v :: rest))) : W p l e R s m args below meth c H locs cells slots Q (F0 m pc ls (.ref (ad k) :: rest)) :=
  b_get B hW inlX6 rfl 11 (by decide) (r5_in _ (List.mem_of_getElem? (i := 7) rfl)) rfl hk he hv hdg kk
theorem cwX6_135 {R : Room} {s : State} {args : Array Value} {rm : Room} (hts : ∀ w ∈ wsL_law, w.before args s = true) (hR : rm.frames + 1 ≤ R.frames ∧ 8 + (5 + 11) + rm.locals ≤ R.locals) : CWV R s args RX6 RX6 135 yX6_tapers cX6_tapers 5 none rm rm.cells rm.slots 1 :=
  cwV 1 hts (gi_V (r18_in _ (List.mem_of_getElem? (i := 17) rfl)) (r18_in _ (List.mem_of_getElem? (i := 18) rfl)) (r18_in _ (List.mem_of_getElem? (i := 19) rfl)) (r1_in _ (List.mem_of_getElem? (i := 5) rfl)) (r18_in _ (List.mem_of_getElem? (i := 20) rfl))) rfl rfl rfl (by decide +kernel) hR
theorem cwX6_139 {R : Room} {s : State} {args : Array Value} {rm : Room} (hts : ∀ w ∈ wsL_law, w.before args s = true) (hR : rm.frames + 1 ≤ R.frames ∧ 8 + (7 + 11) + rm.locals ≤ R.locals) : CWV R s args RX6 RX6 139 yX6_caps cX6_caps 7 none rm rm.cells rm.slots 1 :=
  cwV 1 hts (gi_V (r18_in _ (List.mem_of_getElem? (i := 22) rfl)) (r18_in _ (List.mem_of_getElem? (i := 23) rfl)) (r19_in _ (List.mem_of_getElem? (i := 0) rfl)) (r1_in _ (List.mem_of_getElem? (i := 5) rfl)) (r19_in _ (List.mem_of_getElem? (i := 1) rfl))) rfl rfl rfl (by decide +kernel) hR
theorem cwX6_142 {R : Room} {s : State} {args : Array Value} {rm : Room} (hts : ∀ w ∈ wsL_law, w.before args s = true) (hR : rm.frames + 1 ≤ R.frames ∧ 8 + (4 + 11) + rm.locals ≤ R.locals) : CWV R s args RX6 RX6 142 yX6_amounts cX6_amounts 4 none rm rm.cells rm.slots 2 :=
  cwV 2 hts (gi_V (r17_in _ (List.mem_of_getElem? (i := 23) rfl)) (r18_in _ (List.mem_of_getElem? (i := 0) rfl)) (r18_in _ (List.mem_of_getElem? (i := 1) rfl)) (r1_in _ (List.mem_of_getElem? (i := 5) rfl)) (r18_in _ (List.mem_of_getElem? (i := 2) rfl))) rfl rfl rfl (by decide +kernel) hR
def ovr (e t p : Int32) : Int32 := if t < e then (e - t) * p / 100 else 0
def capM (a c h m : Int32) : Int32 × Int32 × Int32 × Int32 := if a + c + h ≤ m then (a, c, h, 0) else ((lim3 a c h m).1, (lim3 a c h m).2.1, (lim3 a c h m).2.2, 1)
theorem sub3 (m a c h : Int32) : m - a - c - h = m - (a + c + h) := by
  simp only [Int32.sub_eq_add_neg, Int32.neg_add, Int32.add_assoc]
theorem capM_lim5 {a c h t m : Int32} (hm : 0 ≤ m.toInt) : ((capM a c h m).1, (capM a c h m).2.1, (capM a c h m).2.2.1, t, (capM a c h m).2.2.2) = lim5 a c h t m := by
  unfold capM lim5
  by_cases p : a + c + h ≤ m
  · rw [if_pos p, if_pos (Or.inr p)]
  · rw [if_neg p, if_neg]
    intro q
    rcases q with q | q
    · refine p ((fa_le _ _).mpr ?_)
      have := (fa_le _ _).mp q
      rw [i32_0] at this
      omega
    · exact p q
theorem mod_tap {a c h e t p m : Int32} (ha : 0 ≤ a.toInt) (hh : 0 ≤ h.toInt) (he : 0 ≤ e.toInt) (ht : 0 ≤ t.toInt) (hm : 0 ≤ m.toInt) :
    ((capM (a - imin (ovr e t p - imin (ovr e t p) h) a) c (h - imin (ovr e t p) h) m).1, (capM (a - imin (ovr e t p - imin (ovr e t p) h) a) c (h - imin (ovr e t p) h) m).2.1, (capM (a - imin (ovr e t p - imin (ovr e t p) h) a) c (h - imin (ovr e t p) h) m).2.2.1, (if imin (ovr e t p) h + imin (ovr e t p - imin (ovr e t p) h) a ≤ 0 then 0 else 1), (capM (a - imin (ovr e t p - imin (ovr e t p) h) a) c (h - imin (ovr e t p) h) m).2.2.2) = tap5 a c h (e - t) p m := by
  rw [capM_lim5 hm]
  have es := i_sub he ht
  unfold tap5
  by_cases q : t < e
  · have q2 := (fa_lt _ _).mp q
    have eo : ovr e t p = (e - t) * p / 100 := if_pos q
    have hn : ¬ (e - t ≤ 0) := fun z => by
      have := (fa_le _ _).mp z
      rw [i32_0] at this
      omega
    rw [eo, if_neg hn]
  · have q2 : ¬ t.toInt < e.toInt := fun z => q ((fa_lt _ _).mpr z)
    have eo : ovr e t p = 0 := if_neg q
    have z1 : imin 0 h = 0 := by rw [fa_eq, i_min, i32_0]; omega
    have z2 : imin 0 a = 0 := by rw [fa_eq, i_min, i32_0]; omega
    rw [eo, z1, Int32.sub_zero, z2, Int32.sub_zero, Int32.sub_zero, Int32.add_zero, if_pos (Int32.le_refl 0), if_pos ((fa_le _ _).mpr (by rw [i32_0]; omega))]
theorem mod_none {e t p m : Int32} (ht : 0 ≤ t.toInt) (hm : 0 ≤ m.toInt) (he : 0 ≤ e.toInt) (hp : 0 ≤ p.toInt) (hp2 : p.toInt ≤ 100) (he2 : e.toInt ≤ 7992) : tap5 0 0 0 (e - t) p m = (0, 0, 0, 0, 0) := by
  have es := i_sub he ht
  have l0 : ∀ t, lim5 0 0 0 t m = (0, 0, 0, t, 0) := fun t => by
    unfold lim5
    rw [if_pos (Or.inl (by decide))]
  unfold tap5
  by_cases q : e - t ≤ 0
  · rw [if_pos q, l0]
  · have o1 : 0 < (e - t).toInt := by
      rcases Int.lt_or_le 0 (e - t).toInt with z | z
      · exact z
      · exact absurd ((fa_le _ _).mpr (by rw [i32_0]; exact z)) q
    have w : bd ((e - t) * p / 100) 1000000 := bd_div (bd_mul (a := 10000) (b := 100) ⟨by omega, by omega⟩ ⟨hp, hp2⟩ (by omega)) (by decide)
    have z1 : imin ((e - t) * p / 100) 0 = 0 := by rw [fa_eq, i_min, i32_0]; have := w.1; omega
    rw [if_neg q, z1, Int32.sub_zero, z1, Int32.sub_zero, l0]
    rfl
set_option maxHeartbeats 4000000 in
set_option maxRecDepth 100000 in
theorem mm_counts {l : Launch} {D : va_G} {tys : List (ClassId × FieldType)} {ad : Nat → Nat} (hI : aI ad 13) {cI cZ : ClassId} (th : Int32) (nP nH rN : Nat) (nf pn : Int32) (sp sk : Int64) (ag : Nat → Int32) (V T : Nat → Nat → Int32) (pd py : Nat → Nat → Int32) (du : Nat → Int32) (mA mC mH mG mS mI mT mP : Int32) (h d : Nat) (hti : tys[0]? = some (cI, .int)) (htz : tys[1]? = some (cZ, .boolean)) (hP8 : nP ≤ 8) (hd : d < 360) (sz : Nat) : Met l yX6_counts (Cond.code yX6_counts cX6_counts 4 none :: wsL_law) (rmk 0 0 0) (va_Pc [.ref (ad 0), .int (nI h), .int (nI d)] (PC D tys ad 13 (mE cI cZ ad th nP nH rN nf pn sp sk ag (RV V) (RV T) (FL pd) (FL py) du mA mC mH mG mS mI mT mP) sz)) (Qv D ad 13 (fun E1 => E1 = mE cI cZ ad th nP nH rN nf pn sp sk ag (RV V) (RV T) (FL pd) (FL py) du mA mC mH ((cnt V ag (nI h) d nP).1) ((cnt V ag (nI h) d nP).2.1) ((cnt V ag (nI h) d nP).2.2) mT mP) (cA ad 13 sz)) 0 0 (cA ad 13 sz) := by
  refine cm_of (own := RX6) (Qc := Qv D ad 13 (fun E1 => E1 = mE cI cZ ad th nP nH rN nf pn sp sk ag (RV V) (RV T) (FL pd) (FL py) du mA mC mH ((cnt V ag (nI h) d nP).1) ((cnt V ag (nI h) d nP).2.1) ((cnt V ag (nI h) d nP).2.2) mT mP)) rfl (by decide +kernel) (Nat.le_of_ble_eq_true rfl) ?_ sz
  intro p e s m args below meth c ls Q B hT hX hW hr hlk hnm hl hS hA hQ
  have hx := B.1
  have hb := B.2.1
  have hl : lv_has ls 4 [(0, .ref (ad 0)), (1, .int (nI h)), (2, .int (nI d))] := hl
  have L_17 : ∀ (n_ : Nat) (i : Nat), (hi : i ≤ nP) → (hn : nP < n_ + i) → ∀ (H : Heap) (locs : List Loc) (ls : Array Slot), hH D ad 13 (mE cI cZ ad th nP nH rN nf pn sp sk ag (RV V) (RV T) (FL pd) (FL py) du mA mC mH ((cnt V ag (nI h) d i).1) ((cnt V ag (nI h) d i).2.1) ((cnt V ag (nI h) d i).2.2) mT mP) H → va_S (cA ad 13 s.heap.size) s.heap H locs → lv_has ls 4 [(0, .ref (ad 0)), (1, .int (nI h)), (2, .int (nI d)), (3, .int (nI i))] → W p l e (rmk 0 0 0) s m args below meth c H locs 0 0 Q (F0 m 17 ls []) := by
    intro n_
    induction n_ with
    | zero =>
      intro i hi hn
      omega
    | succ n_ ih =>
      intro i hi hn H locs ls hW hS hl
      refine lv_iload_n hx hb dX6_counts_17 rfl (lv_at hl 3 rfl) ?_
      refine lv_aload_n hx hb dX6_counts_18 rfl (lv_at hl 0 rfl) ?_
      refine gfX6_58 B hT hW (by decide) mE_0 rfl dX6_counts_19 ?_
      refine lv_icmp_ge (tgt := 119) hx hb dX6_counts_22 (by decide) (fun c_22 => ?_) (fun c_22 => ?_)
      · skip
        exact e_v hQ B hr hlk hS hW dX6_counts_119 (Nat.le_of_ble_eq_true rfl) (Nat.le_of_ble_eq_true rfl) (by rw [show i = nP from Nat.le_antisymm hi ((nI_leI (by omega) (by omega)).mp c_22)])
      · skip
        have q22 : i < nP := Nat.lt_of_not_le (fun q => c_22 ((nI_leI (by omega) (by omega)).mpr q))
        refine lv_aload_n hx hb dX6_counts_25 rfl (lv_at hl 0 rfl) ?_
        refine gfX6_17 B hT hW (by decide) mE_0 rfl dX6_counts_26 ?_
        refine lv_sipush (v := (nI 360)) hx hb dX6_counts_29 (by decide) ?_
        refine lv_iload_n hx hb dX6_counts_32 rfl (lv_at hl 3 rfl) ?_
        refine lv_imul hx hb dX6_counts_33 ?_
        refine b_top (y := nI (360 * i)) (pk_mul _ _) ?_
        refine lv_iload_n hx hb dX6_counts_34 rfl (lv_at hl 2 rfl) ?_
        refine lv_iadd hx hb dX6_counts_35 ?_
        refine b_top (y := nI (360 * i + d)) (nI_add _ _) ?_
        refine b_iald B hW hti (j := (360 * i + d)) (by decide) mE_2 (vp_in_nI (by omega) (Nat.le_of_ble_eq_true rfl)) (nI_clamp (by omega)) dX6_counts_36 ?_
        refine b_top (y := V i d) (RV_at (j := 0) (i := i) (d := d) (by omega) (show 360 * i + 360 ≤ 2880 by omega) (by omega) (Nat.zero_add _)) ?_
        refine lv_iload_n hx hb dX6_counts_37 rfl (lv_at hl 1 rfl) ?_
        refine lv_icmp_eq (tgt := 44) hx hb dX6_counts_38 (by decide) (fun c_38 => ?_) (fun c_38 => ?_)
        · skip
          refine lv_aload_n hx hb dX6_counts_44 rfl (lv_at hl 0 rfl) ?_
          refine lv_dup hx hb dX6_counts_45 rfl ?_
          refine gfX6_99 B hT hW (by decide) mE_0 rfl dX6_counts_46 ?_
          refine lv_iload_n hx hb dX6_counts_49 rfl (lv_at hl 2 rfl) ?_
          refine lv_aload_n hx hb dX6_counts_50 rfl (lv_at hl 0 rfl) ?_
          refine gfX6_13 B hT hW (by decide) mE_0 rfl dX6_counts_51 ?_
          refine lv_iload_n hx hb dX6_counts_54 rfl (lv_at hl 3 rfl) ?_
          refine b_iald B hW hti (j := i) (by decide) mE_1 (vp_in_nI (by omega) (Nat.le_of_ble_eq_true rfl)) (nI_clamp (by omega)) dX6_counts_55 ?_
          refine lv_icmp_lt (tgt := 63) hx hb dX6_counts_56 (by decide) (fun c_56 => ?_) (fun c_56 => ?_)
          · skip
            refine lv_iconst (v := 0) hx hb dX6_counts_63 (by decide) ?_
            refine lv_iadd hx hb dX6_counts_64 ?_
            refine pfX6_99 B hT hI hA hW hS (by decide) mE_0 (Nat.le_of_ble_eq_true rfl) rfl (by first | rfl | decide) dX6_counts_65 (fun H locs hW hS => ?_)
            have hW := hW.eq (E' := mE cI cZ ad th nP nH rN nf pn sp sk ag (RV V) (RV T) (FL pd) (FL py) du mA mC mH (((cnt V ag (nI h) d i).1) + 0) ((cnt V ag (nI h) d i).2.1) ((cnt V ag (nI h) d i).2.2) mT mP) (mE_u0 _ _ _ _ _ _ _ _ _ _ _ _ _ _ _ _)
            refine lv_aload_n hx hb dX6_counts_68 rfl (lv_at hl 0 rfl) ?_
            refine lv_dup hx hb dX6_counts_69 rfl ?_
            refine gfX6_102 B hT hW (by decide) mE_0 rfl dX6_counts_70 ?_
            refine lv_iload_n hx hb dX6_counts_73 rfl (lv_at hl 2 rfl) ?_
            refine lv_aload_n hx hb dX6_counts_74 rfl (lv_at hl 0 rfl) ?_
            refine gfX6_13 B hT hW (by decide) mE_0 rfl dX6_counts_75 ?_
            refine lv_iload_n hx hb dX6_counts_78 rfl (lv_at hl 3 rfl) ?_
            refine b_iald B hW hti (j := i) (by decide) mE_1 (vp_in_nI (by omega) (Nat.le_of_ble_eq_true rfl)) (nI_clamp (by omega)) dX6_counts_79 ?_
            refine lv_icmp_ge (tgt := 87) hx hb dX6_counts_80 (by decide) (fun c_80 => ?_) (fun c_80 => ?_)
            · exact absurd c_80 (Int32.not_le.mpr c_56)
            · skip
              refine lv_iconst (v := 1) hx hb dX6_counts_83 (by decide) ?_
              refine lv_goto (tgt := 88) hx hb dX6_counts_84 (by decide) ?_
              refine lv_iadd hx hb dX6_counts_88 ?_
              refine pfX6_102 B hT hI hA hW hS (by decide) mE_0 (Nat.le_of_ble_eq_true rfl) rfl (by first | rfl | decide) dX6_counts_89 (fun H locs hW hS => ?_)
              have hW := hW.eq (E' := mE cI cZ ad th nP nH rN nf pn sp sk ag (RV V) (RV T) (FL pd) (FL py) du mA mC mH (((cnt V ag (nI h) d i).1) + 0) (((cnt V ag (nI h) d i).2.1) + 1) ((cnt V ag (nI h) d i).2.2) mT mP) (mE_u0 _ _ _ _ _ _ _ _ _ _ _ _ _ _ _ _)
              refine lv_aload_n hx hb dX6_counts_92 rfl (lv_at hl 0 rfl) ?_
              refine lv_dup hx hb dX6_counts_93 rfl ?_
              refine gfX6_105 B hT hW (by decide) mE_0 rfl dX6_counts_94 ?_
              refine lv_aload_n hx hb dX6_counts_97 rfl (lv_at hl 0 rfl) ?_
              refine gfX6_20 B hT hW (by decide) mE_0 rfl dX6_counts_98 ?_
              refine lv_sipush (v := (nI 360)) hx hb dX6_counts_101 (by decide) ?_
              refine lv_iload_n hx hb dX6_counts_104 rfl (lv_at hl 3 rfl) ?_
              refine lv_imul hx hb dX6_counts_105 ?_
              refine b_top (y := nI (360 * i)) (pk_mul _ _) ?_
              refine lv_iload_n hx hb dX6_counts_106 rfl (lv_at hl 2 rfl) ?_
              refine lv_iadd hx hb dX6_counts_107 ?_
              refine b_top (y := nI (360 * i + d)) (nI_add _ _) ?_
              refine b_iald B hW hti (j := (360 * i + d)) (by decide) mE_3 (vp_in_nI (by omega) (Nat.le_of_ble_eq_true rfl)) (nI_clamp (by omega)) dX6_counts_108 ?_
              refine b_top (y := V (8 + i) d) (RV_at (j := 1) (i := i) (d := d) (by omega) (show 360 * i + 360 ≤ 2880 by omega) (by omega) rfl) ?_
              refine lv_iadd hx hb dX6_counts_109 ?_
              refine pfX6_105 B hT hI hA hW hS (by decide) mE_0 (Nat.le_of_ble_eq_true rfl) rfl (by first | rfl | decide) dX6_counts_110 (fun H locs hW hS => ?_)
              have hW := hW.eq (E' := mE cI cZ ad th nP nH rN nf pn sp sk ag (RV V) (RV T) (FL pd) (FL py) du mA mC mH (((cnt V ag (nI h) d i).1) + 0) (((cnt V ag (nI h) d i).2.1) + 1) (((cnt V ag (nI h) d i).2.2) + (V (8 + i) d)) mT mP) (mE_u0 _ _ _ _ _ _ _ _ _ _ _ _ _ _ _ _)
              refine lv_iinc (v := (nI (i + 1))) (lv' := [(3, .int (nI (i + 1))), (0, .ref (ad 0)), (1, .int (nI h)), (2, .int (nI d))]) hx hb dX6_counts_113 hl (k := 3) rfl (nI_1 i) (by decide) rfl (fun ls hl => ?_)
              refine lv_goto (tgt := 17) hx hb dX6_counts_116 (by decide) ?_
              exact ih (i + 1) (by omega) (by omega) _ _ _ (hW.eq (by rw [cnt, if_pos c_38, if_pos c_56, if_pos c_56])) hS (lv_sub hl [1, 2, 3, 0] rfl)
          · skip
            refine lv_iconst (v := 1) hx hb dX6_counts_59 (by decide) ?_
            refine lv_goto (tgt := 64) hx hb dX6_counts_60 (by decide) ?_
            refine lv_iadd hx hb dX6_counts_64 ?_
            refine pfX6_99 B hT hI hA hW hS (by decide) mE_0 (Nat.le_of_ble_eq_true rfl) rfl (by first | rfl | decide) dX6_counts_65 (fun H locs hW hS => ?_)
            have hW := hW.eq (E' := mE cI cZ ad th nP nH rN nf pn sp sk ag (RV V) (RV T) (FL pd) (FL py) du mA mC mH (((cnt V ag (nI h) d i).1) + 1) ((cnt V ag (nI h) d i).2.1) ((cnt V ag (nI h) d i).2.2) mT mP) (mE_u0 _ _ _ _ _ _ _ _ _ _ _ _ _ _ _ _)
            refine lv_aload_n hx hb dX6_counts_68 rfl (lv_at hl 0 rfl) ?_
            refine lv_dup hx hb dX6_counts_69 rfl ?_
            refine gfX6_102 B hT hW (by decide) mE_0 rfl dX6_counts_70 ?_
            refine lv_iload_n hx hb dX6_counts_73 rfl (lv_at hl 2 rfl) ?_
            refine lv_aload_n hx hb dX6_counts_74 rfl (lv_at hl 0 rfl) ?_
            refine gfX6_13 B hT hW (by decide) mE_0 rfl dX6_counts_75 ?_
            refine lv_iload_n hx hb dX6_counts_78 rfl (lv_at hl 3 rfl) ?_
            refine b_iald B hW hti (j := i) (by decide) mE_1 (vp_in_nI (by omega) (Nat.le_of_ble_eq_true rfl)) (nI_clamp (by omega)) dX6_counts_79 ?_
            refine lv_icmp_ge (tgt := 87) hx hb dX6_counts_80 (by decide) (fun c_80 => ?_) (fun c_80 => ?_)
            · skip
              refine lv_iconst (v := 0) hx hb dX6_counts_87 (by decide) ?_
              refine lv_iadd hx hb dX6_counts_88 ?_
              refine pfX6_102 B hT hI hA hW hS (by decide) mE_0 (Nat.le_of_ble_eq_true rfl) rfl (by first | rfl | decide) dX6_counts_89 (fun H locs hW hS => ?_)
              have hW := hW.eq (E' := mE cI cZ ad th nP nH rN nf pn sp sk ag (RV V) (RV T) (FL pd) (FL py) du mA mC mH (((cnt V ag (nI h) d i).1) + 1) (((cnt V ag (nI h) d i).2.1) + 0) ((cnt V ag (nI h) d i).2.2) mT mP) (mE_u0 _ _ _ _ _ _ _ _ _ _ _ _ _ _ _ _)
              refine lv_aload_n hx hb dX6_counts_92 rfl (lv_at hl 0 rfl) ?_
              refine lv_dup hx hb dX6_counts_93 rfl ?_
              refine gfX6_105 B hT hW (by decide) mE_0 rfl dX6_counts_94 ?_
              refine lv_aload_n hx hb dX6_counts_97 rfl (lv_at hl 0 rfl) ?_
              refine gfX6_20 B hT hW (by decide) mE_0 rfl dX6_counts_98 ?_
              refine lv_sipush (v := (nI 360)) hx hb dX6_counts_101 (by decide) ?_
              refine lv_iload_n hx hb dX6_counts_104 rfl (lv_at hl 3 rfl) ?_
              refine lv_imul hx hb dX6_counts_105 ?_
              refine b_top (y := nI (360 * i)) (pk_mul _ _) ?_
              refine lv_iload_n hx hb dX6_counts_106 rfl (lv_at hl 2 rfl) ?_
              refine lv_iadd hx hb dX6_counts_107 ?_
              refine b_top (y := nI (360 * i + d)) (nI_add _ _) ?_
              refine b_iald B hW hti (j := (360 * i + d)) (by decide) mE_3 (vp_in_nI (by omega) (Nat.le_of_ble_eq_true rfl)) (nI_clamp (by omega)) dX6_counts_108 ?_
              refine b_top (y := V (8 + i) d) (RV_at (j := 1) (i := i) (d := d) (by omega) (show 360 * i + 360 ≤ 2880 by omega) (by omega) rfl) ?_
              refine lv_iadd hx hb dX6_counts_109 ?_
              refine pfX6_105 B hT hI hA hW hS (by decide) mE_0 (Nat.le_of_ble_eq_true rfl) rfl (by first | rfl | decide) dX6_counts_110 (fun H locs hW hS => ?_)
              have hW := hW.eq (E' := mE cI cZ ad th nP nH rN nf pn sp sk ag (RV V) (RV T) (FL pd) (FL py) du mA mC mH (((cnt V ag (nI h) d i).1) + 1) (((cnt V ag (nI h) d i).2.1) + 0) (((cnt V ag (nI h) d i).2.2) + (V (8 + i) d)) mT mP) (mE_u0 _ _ _ _ _ _ _ _ _ _ _ _ _ _ _ _)
              refine lv_iinc (v := (nI (i + 1))) (lv' := [(3, .int (nI (i + 1))), (0, .ref (ad 0)), (1, .int (nI h)), (2, .int (nI d))]) hx hb dX6_counts_113 hl (k := 3) rfl (nI_1 i) (by decide) rfl (fun ls hl => ?_)
              refine lv_goto (tgt := 17) hx hb dX6_counts_116 (by decide) ?_
              exact ih (i + 1) (by omega) (by omega) _ _ _ (hW.eq (by rw [cnt, if_pos c_38, if_neg c_56, if_neg c_56])) hS (lv_sub hl [1, 2, 3, 0] rfl)
            · exact absurd (Int32.not_lt.mp c_56) c_80
        · skip
          refine lv_goto (tgt := 113) hx hb dX6_counts_41 (by decide) ?_
          refine lv_iinc (v := (nI (i + 1))) (lv' := [(3, .int (nI (i + 1))), (0, .ref (ad 0)), (1, .int (nI h)), (2, .int (nI d))]) hx hb dX6_counts_113 hl (k := 3) rfl (nI_1 i) (by decide) rfl (fun ls hl => ?_)
          refine lv_goto (tgt := 17) hx hb dX6_counts_116 (by decide) ?_
          exact ih (i + 1) (by omega) (by omega) _ _ _ (hW.eq (by rw [cnt, if_neg c_38])) hS (lv_sub hl [1, 2, 3, 0] rfl)
  refine lv_aload_n hx hb dX6_counts_0 rfl (lv_at hl 0 rfl) ?_
  refine lv_iconst (v := 0) hx hb dX6_counts_1 (by decide) ?_
  refine pfX6_99 B hT hI hA hW hS (by decide) mE_0 (Nat.le_of_ble_eq_true rfl) rfl (by first | rfl | decide) dX6_counts_2 (fun H locs hW hS => ?_)
  have hW := hW.eq (E' := mE cI cZ ad th nP nH rN nf pn sp sk ag (RV V) (RV T) (FL pd) (FL py) du mA mC mH 0 mS mI mT mP) (mE_u0 _ _ _ _ _ _ _ _ _ _ _ _ _ _ _ _)
  refine lv_aload_n hx hb dX6_counts_5 rfl (lv_at hl 0 rfl) ?_
  refine lv_iconst (v := 0) hx hb dX6_counts_6 (by decide) ?_
  refine pfX6_102 B hT hI hA hW hS (by decide) mE_0 (Nat.le_of_ble_eq_true rfl) rfl (by first | rfl | decide) dX6_counts_7 (fun H locs hW hS => ?_)
  have hW := hW.eq (E' := mE cI cZ ad th nP nH rN nf pn sp sk ag (RV V) (RV T) (FL pd) (FL py) du mA mC mH 0 0 mI mT mP) (mE_u0 _ _ _ _ _ _ _ _ _ _ _ _ _ _ _ _)
  refine lv_aload_n hx hb dX6_counts_10 rfl (lv_at hl 0 rfl) ?_
  refine lv_iconst (v := 0) hx hb dX6_counts_11 (by decide) ?_
  refine pfX6_105 B hT hI hA hW hS (by decide) mE_0 (Nat.le_of_ble_eq_true rfl) rfl (by first | rfl | decide) dX6_counts_12 (fun H locs hW hS => ?_)
  have hW := hW.eq (E' := mE cI cZ ad th nP nH rN nf pn sp sk ag (RV V) (RV T) (FL pd) (FL py) du mA mC mH 0 0 0 mT mP) (mE_u0 _ _ _ _ _ _ _ _ _ _ _ _ _ _ _ _)
  refine lv_iconst (v := 0) hx hb dX6_counts_15 (by decide) ?_
  refine lv_istore_n (lv' := [(3, .int 0), (0, .ref (ad 0)), (1, .int (nI h)), (2, .int (nI d))]) hx hb dX6_counts_16 rfl hl (by decide) rfl (fun ls hl => ?_)
  exact L_17 (nP + 1) 0 (by omega) (by omega) _ _ _ (hW.eq rfl) hS (lv_sub hl [1, 2, 3, 0] rfl)
set_option maxHeartbeats 4000000 in
set_option maxRecDepth 100000 in
theorem mm_tapers {l : Launch} {D : va_G} {tys : List (ClassId × FieldType)} {ad : Nat → Nat} (hI : aI ad 13) {cI cZ : ClassId} (th : Int32) (nP nH rN : Nat) (nf pn : Int32) (sp sk : Int64) (ag : Nat → Int32) (V T : Nat → Nat → Int32) (pd py : Nat → Nat → Int32) (du : Nat → Int32) (mA mC mH mG mS mI mT mP : Int32) (d : Nat) (hti : tys[0]? = some (cI, .int)) (htz : tys[1]? = some (cZ, .boolean)) (hd : d < 360) (sz : Nat) : Met l yX6_tapers (Cond.code yX6_tapers cX6_tapers 5 none :: wsL_law) (rmk 1 0 0) (va_Pc [.ref (ad 0), .int (nI d)] (PC D tys ad 13 (mE cI cZ ad th nP nH rN nf pn sp sk ag (RV V) (RV T) (FL pd) (FL py) du mA mC mH mG mS mI mT mP) sz)) (Qv D ad 13 (fun E1 => E1 = mE cI cZ ad th nP nH rN nf pn sp sk ag (RV V) (RV T) (FL pd) (FL py) du (mA - imin ((ovr mI (V (20 + 4) d) (V (20 + 5) d)) - imin (ovr mI (V (20 + 4) d) (V (20 + 5) d)) mH) mA) mC (mH - imin (ovr mI (V (20 + 4) d) (V (20 + 5) d)) mH) mG mS mI (if imin (ovr mI (V (20 + 4) d) (V (20 + 5) d)) mH + imin ((ovr mI (V (20 + 4) d) (V (20 + 5) d)) - imin (ovr mI (V (20 + 4) d) (V (20 + 5) d)) mH) mA ≤ 0 then 0 else 1) mP) (cA ad 13 sz)) 0 0 (cA ad 13 sz) := by
  refine cm_of (own := RX6) (Qc := Qv D ad 13 (fun E1 => E1 = mE cI cZ ad th nP nH rN nf pn sp sk ag (RV V) (RV T) (FL pd) (FL py) du (mA - imin ((ovr mI (V (20 + 4) d) (V (20 + 5) d)) - imin (ovr mI (V (20 + 4) d) (V (20 + 5) d)) mH) mA) mC (mH - imin (ovr mI (V (20 + 4) d) (V (20 + 5) d)) mH) mG mS mI (if imin (ovr mI (V (20 + 4) d) (V (20 + 5) d)) mH + imin ((ovr mI (V (20 + 4) d) (V (20 + 5) d)) - imin (ovr mI (V (20 + 4) d) (V (20 + 5) d)) mH) mA ≤ 0 then 0 else 1) mP)) rfl (by decide +kernel) (Nat.le_of_ble_eq_true rfl) ?_ sz
  intro p e s m args below meth c ls Q B hT hX hW hr hlk hnm hl hS hA hQ
  have hx := B.1
  have hb := B.2.1
  have hl : lv_has ls 5 [(0, .ref (ad 0)), (1, .int (nI d))] := hl
  refine lv_aload_n hx hb dX6_tapers_0 rfl (lv_at hl 0 rfl) ?_
  refine gfX6_105 B hT hW (by decide) mE_0 rfl dX6_tapers_1 ?_
  refine lv_aload_n hx hb dX6_tapers_4 rfl (lv_at hl 0 rfl) ?_
  refine lv_iconst (v := (nI 4)) hx hb dX6_tapers_5 (by decide) ?_
  refine lv_iload_n hx hb dX6_tapers_6 rfl (lv_at hl 1 rfl) ?_
  refine b_ci (b_runV B hT hX hW hS (As := [.int (nI 4), .int (nI d)]) (rest := [.int mI]) (fun sz => mm_at hI th nP nH rN nf pn sp sk ag V T pd py du mA mC mH mG mS mI mT mP 4 d hti htz (by omega) (by omega) sz) (cwX6_108 B.2.2.2.2.1 ⟨Nat.le_of_ble_eq_true rfl, Nat.le_of_ble_eq_true rfl⟩) (b_recv B hW (by decide) mE_0 rfl) rfl hl.1 (Nat.le_of_ble_eq_true rfl) dX6_tapers_7 ⟨Nat.le_of_ble_eq_true rfl, Nat.le_of_ble_eq_true rfl⟩) hS (fun r_7 E1 H locs hp_7 hW hS => ?_)
  obtain ⟨hr_, hE_⟩ := hp_7
  subst hr_
  have hW := hW.eq hE_
  refine lv_icmp_le (tgt := 37) hx hb dX6_tapers_10 (by decide) (fun c_10 => ?_) (fun c_10 => ?_)
  · skip
    refine lv_iconst (v := 0) hx hb dX6_tapers_37 (by decide) ?_
    refine b_top (y := ovr mI (V (20 + 4) d) (V (20 + 5) d)) (if_neg (Int32.not_lt.mpr c_10)).symm ?_
    refine lv_istore_n (lv' := [(2, .int (ovr mI (V (20 + 4) d) (V (20 + 5) d))), (0, .ref (ad 0)), (1, .int (nI d))]) hx hb dX6_tapers_38 rfl hl (by decide) rfl (fun ls hl => ?_)
    refine lv_iload_n hx hb dX6_tapers_39 rfl (lv_at hl 0 rfl) ?_
    refine lv_aload_n hx hb dX6_tapers_40 rfl (lv_at hl 1 rfl) ?_
    refine gfX6_112 B hT hW (by decide) mE_0 rfl dX6_tapers_41 ?_
    refine b_ci (b_runS B hT hX hW hS (As := [.int (ovr mI (V (20 + 4) d) (V (20 + 5) d)), .int mH]) (rest := []) (fun sz => mm_lesser hI (ovr mI (V (20 + 4) d) (V (20 + 5) d)) mH sz) (cwX6_115 B.2.2.2.2.1 ⟨Nat.le_of_ble_eq_true rfl, Nat.le_of_ble_eq_true rfl⟩) rfl hl.1 (Nat.le_of_ble_eq_true rfl) dX6_tapers_44 ⟨Nat.le_of_ble_eq_true rfl, Nat.le_of_ble_eq_true rfl⟩) hS (fun r_44 E1 H locs hp_44 hW hS => ?_)
    obtain ⟨hr_, hE_⟩ := hp_44
    subst hr_
    have hW := hW.eq hE_
    refine lv_istore_n (lv' := [(3, .int (imin (ovr mI (V (20 + 4) d) (V (20 + 5) d)) mH)), (2, .int (ovr mI (V (20 + 4) d) (V (20 + 5) d))), (0, .ref (ad 0)), (1, .int (nI d))]) hx hb dX6_tapers_47 rfl hl (by decide) rfl (fun ls hl => ?_)
    refine lv_iload_n hx hb dX6_tapers_48 rfl (lv_at hl 1 rfl) ?_
    refine lv_iload_n hx hb dX6_tapers_49 rfl (lv_at hl 0 rfl) ?_
    refine lv_isub hx hb dX6_tapers_50 ?_
    refine lv_aload_n hx hb dX6_tapers_51 rfl (lv_at hl 2 rfl) ?_
    refine gfX6_118 B hT hW (by decide) mE_0 rfl dX6_tapers_52 ?_
    refine b_ci (b_runS B hT hX hW hS (As := [.int ((ovr mI (V (20 + 4) d) (V (20 + 5) d)) - (imin (ovr mI (V (20 + 4) d) (V (20 + 5) d)) mH)), .int mA]) (rest := []) (fun sz => mm_lesser hI ((ovr mI (V (20 + 4) d) (V (20 + 5) d)) - (imin (ovr mI (V (20 + 4) d) (V (20 + 5) d)) mH)) mA sz) (cwX6_115 B.2.2.2.2.1 ⟨Nat.le_of_ble_eq_true rfl, Nat.le_of_ble_eq_true rfl⟩) rfl hl.1 (Nat.le_of_ble_eq_true rfl) dX6_tapers_55 ⟨Nat.le_of_ble_eq_true rfl, Nat.le_of_ble_eq_true rfl⟩) hS (fun r_55 E1 H locs hp_55 hW hS => ?_)
    obtain ⟨hr_, hE_⟩ := hp_55
    subst hr_
    have hW := hW.eq hE_
    refine lv_istore (lv' := [(4, .int (imin ((ovr mI (V (20 + 4) d) (V (20 + 5) d)) - (imin (ovr mI (V (20 + 4) d) (V (20 + 5) d)) mH)) mA)), (3, .int (imin (ovr mI (V (20 + 4) d) (V (20 + 5) d)) mH)), (2, .int (ovr mI (V (20 + 4) d) (V (20 + 5) d))), (0, .ref (ad 0)), (1, .int (nI d))]) hx hb dX6_tapers_58 hl (by decide) rfl (fun ls hl => ?_)
    refine lv_aload_n hx hb dX6_tapers_60 rfl (lv_at hl 3 rfl) ?_
    refine lv_dup hx hb dX6_tapers_61 rfl ?_
    refine gfX6_112 B hT hW (by decide) mE_0 rfl dX6_tapers_62 ?_
    refine lv_iload_n hx hb dX6_tapers_65 rfl (lv_at hl 1 rfl) ?_
    refine lv_isub hx hb dX6_tapers_66 ?_
    refine pfX6_112 B hT hI hA hW hS (by decide) mE_0 (Nat.le_of_ble_eq_true rfl) rfl (by first | rfl | decide) dX6_tapers_67 (fun H locs hW hS => ?_)
    have hW := hW.eq (E' := mE cI cZ ad th nP nH rN nf pn sp sk ag (RV V) (RV T) (FL pd) (FL py) du mA mC (mH - (imin (ovr mI (V (20 + 4) d) (V (20 + 5) d)) mH)) mG mS mI mT mP) (mE_u0 _ _ _ _ _ _ _ _ _ _ _ _ _ _ _ _)
    refine lv_aload_n hx hb dX6_tapers_70 rfl (lv_at hl 3 rfl) ?_
    refine lv_dup hx hb dX6_tapers_71 rfl ?_
    refine gfX6_118 B hT hW (by decide) mE_0 rfl dX6_tapers_72 ?_
    refine lv_iload hx hb dX6_tapers_75 (lv_at hl 0 rfl) ?_
    refine lv_isub hx hb dX6_tapers_77 ?_
    refine pfX6_118 B hT hI hA hW hS (by decide) mE_0 (Nat.le_of_ble_eq_true rfl) rfl (by first | rfl | decide) dX6_tapers_78 (fun H locs hW hS => ?_)
    have hW := hW.eq (E' := mE cI cZ ad th nP nH rN nf pn sp sk ag (RV V) (RV T) (FL pd) (FL py) du (mA - (imin ((ovr mI (V (20 + 4) d) (V (20 + 5) d)) - (imin (ovr mI (V (20 + 4) d) (V (20 + 5) d)) mH)) mA)) mC (mH - (imin (ovr mI (V (20 + 4) d) (V (20 + 5) d)) mH)) mG mS mI mT mP) (mE_u0 _ _ _ _ _ _ _ _ _ _ _ _ _ _ _ _)
    refine lv_aload_n hx hb dX6_tapers_81 rfl (lv_at hl 3 rfl) ?_
    refine lv_iload_n hx hb dX6_tapers_82 rfl (lv_at hl 1 rfl) ?_
    refine lv_iload hx hb dX6_tapers_83 (lv_at hl 0 rfl) ?_
    refine lv_iadd hx hb dX6_tapers_85 ?_
    refine lv_if_le (tgt := 93) hx hb dX6_tapers_86 (by decide) (fun c_86 => ?_) (fun c_86 => ?_)
    · skip
      refine lv_iconst (v := 0) hx hb dX6_tapers_93 (by decide) ?_
      refine pfX6_121 B hT hI hA hW hS (by decide) mE_0 (Nat.le_of_ble_eq_true rfl) (by first | rfl | decide) (by first | rfl | decide) dX6_tapers_94 (fun H locs hW hS => ?_)
      have hW := hW.eq (E' := mE cI cZ ad th nP nH rN nf pn sp sk ag (RV V) (RV T) (FL pd) (FL py) du (mA - (imin ((ovr mI (V (20 + 4) d) (V (20 + 5) d)) - (imin (ovr mI (V (20 + 4) d) (V (20 + 5) d)) mH)) mA)) mC (mH - (imin (ovr mI (V (20 + 4) d) (V (20 + 5) d)) mH)) mG mS mI 0 mP) (mE_u0 _ _ _ _ _ _ _ _ _ _ _ _ _ _ _ _)
      exact e_v hQ B hr hlk hS hW dX6_tapers_97 (Nat.le_of_ble_eq_true rfl) (Nat.le_of_ble_eq_true rfl) (by rw [if_pos c_86])
    · skip
      refine lv_iconst (v := 1) hx hb dX6_tapers_89 (by decide) ?_
      refine lv_goto (tgt := 94) hx hb dX6_tapers_90 (by decide) ?_
      refine pfX6_121 B hT hI hA hW hS (by decide) mE_0 (Nat.le_of_ble_eq_true rfl) (by first | rfl | decide) (by first | rfl | decide) dX6_tapers_94 (fun H locs hW hS => ?_)
      have hW := hW.eq (E' := mE cI cZ ad th nP nH rN nf pn sp sk ag (RV V) (RV T) (FL pd) (FL py) du (mA - (imin ((ovr mI (V (20 + 4) d) (V (20 + 5) d)) - (imin (ovr mI (V (20 + 4) d) (V (20 + 5) d)) mH)) mA)) mC (mH - (imin (ovr mI (V (20 + 4) d) (V (20 + 5) d)) mH)) mG mS mI 1 mP) (mE_u0 _ _ _ _ _ _ _ _ _ _ _ _ _ _ _ _)
      exact e_v hQ B hr hlk hS hW dX6_tapers_97 (Nat.le_of_ble_eq_true rfl) (Nat.le_of_ble_eq_true rfl) (by rw [if_neg c_86])
  · skip
    refine lv_aload_n hx hb dX6_tapers_13 rfl (lv_at hl 0 rfl) ?_
    refine gfX6_105 B hT hW (by decide) mE_0 rfl dX6_tapers_14 ?_
    refine lv_aload_n hx hb dX6_tapers_17 rfl (lv_at hl 0 rfl) ?_
    refine lv_iconst (v := (nI 4)) hx hb dX6_tapers_18 (by decide) ?_
    refine lv_iload_n hx hb dX6_tapers_19 rfl (lv_at hl 1 rfl) ?_
    refine b_ci (b_runV B hT hX hW hS (As := [.int (nI 4), .int (nI d)]) (rest := [.int mI]) (fun sz => mm_at hI th nP nH rN nf pn sp sk ag V T pd py du mA mC mH mG mS mI mT mP 4 d hti htz (by omega) (by omega) sz) (cwX6_108 B.2.2.2.2.1 ⟨Nat.le_of_ble_eq_true rfl, Nat.le_of_ble_eq_true rfl⟩) (b_recv B hW (by decide) mE_0 rfl) rfl hl.1 (Nat.le_of_ble_eq_true rfl) dX6_tapers_20 ⟨Nat.le_of_ble_eq_true rfl, Nat.le_of_ble_eq_true rfl⟩) hS (fun r_20 E1 H locs hp_20 hW hS => ?_)
    obtain ⟨hr_, hE_⟩ := hp_20
    subst hr_
    have hW := hW.eq hE_
    refine lv_isub hx hb dX6_tapers_23 ?_
    refine lv_aload_n hx hb dX6_tapers_24 rfl (lv_at hl 0 rfl) ?_
    refine lv_iconst (v := (nI 5)) hx hb dX6_tapers_25 (by decide) ?_
    refine lv_iload_n hx hb dX6_tapers_26 rfl (lv_at hl 1 rfl) ?_
    refine b_ci (b_runV B hT hX hW hS (As := [.int (nI 5), .int (nI d)]) (rest := [.int (mI - (V (20 + 4) d))]) (fun sz => mm_at hI th nP nH rN nf pn sp sk ag V T pd py du mA mC mH mG mS mI mT mP 5 d hti htz (by omega) (by omega) sz) (cwX6_108 B.2.2.2.2.1 ⟨Nat.le_of_ble_eq_true rfl, Nat.le_of_ble_eq_true rfl⟩) (b_recv B hW (by decide) mE_0 rfl) rfl hl.1 (Nat.le_of_ble_eq_true rfl) dX6_tapers_27 ⟨Nat.le_of_ble_eq_true rfl, Nat.le_of_ble_eq_true rfl⟩) hS (fun r_27 E1 H locs hp_27 hW hS => ?_)
    obtain ⟨hr_, hE_⟩ := hp_27
    subst hr_
    have hW := hW.eq hE_
    refine lv_imul hx hb dX6_tapers_30 ?_
    refine lv_bipush (v := 100) hx hb dX6_tapers_31 (by decide) ?_
    refine lv_idiv hx hb dX6_tapers_33 (by decide) ?_
    refine lv_goto (tgt := 38) hx hb dX6_tapers_34 (by decide) ?_
    refine b_top (y := ovr mI (V (20 + 4) d) (V (20 + 5) d)) (if_pos (Int32.not_le.mp c_10)).symm ?_
    refine lv_istore_n (lv' := [(2, .int (ovr mI (V (20 + 4) d) (V (20 + 5) d))), (0, .ref (ad 0)), (1, .int (nI d))]) hx hb dX6_tapers_38 rfl hl (by decide) rfl (fun ls hl => ?_)
    refine lv_iload_n hx hb dX6_tapers_39 rfl (lv_at hl 0 rfl) ?_
    refine lv_aload_n hx hb dX6_tapers_40 rfl (lv_at hl 1 rfl) ?_
    refine gfX6_112 B hT hW (by decide) mE_0 rfl dX6_tapers_41 ?_
    refine b_ci (b_runS B hT hX hW hS (As := [.int (ovr mI (V (20 + 4) d) (V (20 + 5) d)), .int mH]) (rest := []) (fun sz => mm_lesser hI (ovr mI (V (20 + 4) d) (V (20 + 5) d)) mH sz) (cwX6_115 B.2.2.2.2.1 ⟨Nat.le_of_ble_eq_true rfl, Nat.le_of_ble_eq_true rfl⟩) rfl hl.1 (Nat.le_of_ble_eq_true rfl) dX6_tapers_44 ⟨Nat.le_of_ble_eq_true rfl, Nat.le_of_ble_eq_true rfl⟩) hS (fun r_44 E1 H locs hp_44 hW hS => ?_)
    obtain ⟨hr_, hE_⟩ := hp_44
    subst hr_
    have hW := hW.eq hE_
    refine lv_istore_n (lv' := [(3, .int (imin (ovr mI (V (20 + 4) d) (V (20 + 5) d)) mH)), (2, .int (ovr mI (V (20 + 4) d) (V (20 + 5) d))), (0, .ref (ad 0)), (1, .int (nI d))]) hx hb dX6_tapers_47 rfl hl (by decide) rfl (fun ls hl => ?_)
    refine lv_iload_n hx hb dX6_tapers_48 rfl (lv_at hl 1 rfl) ?_
    refine lv_iload_n hx hb dX6_tapers_49 rfl (lv_at hl 0 rfl) ?_
    refine lv_isub hx hb dX6_tapers_50 ?_
    refine lv_aload_n hx hb dX6_tapers_51 rfl (lv_at hl 2 rfl) ?_
    refine gfX6_118 B hT hW (by decide) mE_0 rfl dX6_tapers_52 ?_
    refine b_ci (b_runS B hT hX hW hS (As := [.int ((ovr mI (V (20 + 4) d) (V (20 + 5) d)) - (imin (ovr mI (V (20 + 4) d) (V (20 + 5) d)) mH)), .int mA]) (rest := []) (fun sz => mm_lesser hI ((ovr mI (V (20 + 4) d) (V (20 + 5) d)) - (imin (ovr mI (V (20 + 4) d) (V (20 + 5) d)) mH)) mA sz) (cwX6_115 B.2.2.2.2.1 ⟨Nat.le_of_ble_eq_true rfl, Nat.le_of_ble_eq_true rfl⟩) rfl hl.1 (Nat.le_of_ble_eq_true rfl) dX6_tapers_55 ⟨Nat.le_of_ble_eq_true rfl, Nat.le_of_ble_eq_true rfl⟩) hS (fun r_55 E1 H locs hp_55 hW hS => ?_)
    obtain ⟨hr_, hE_⟩ := hp_55
    subst hr_
    have hW := hW.eq hE_
    refine lv_istore (lv' := [(4, .int (imin ((ovr mI (V (20 + 4) d) (V (20 + 5) d)) - (imin (ovr mI (V (20 + 4) d) (V (20 + 5) d)) mH)) mA)), (3, .int (imin (ovr mI (V (20 + 4) d) (V (20 + 5) d)) mH)), (2, .int (ovr mI (V (20 + 4) d) (V (20 + 5) d))), (0, .ref (ad 0)), (1, .int (nI d))]) hx hb dX6_tapers_58 hl (by decide) rfl (fun ls hl => ?_)
    refine lv_aload_n hx hb dX6_tapers_60 rfl (lv_at hl 3 rfl) ?_
    refine lv_dup hx hb dX6_tapers_61 rfl ?_
    refine gfX6_112 B hT hW (by decide) mE_0 rfl dX6_tapers_62 ?_
    refine lv_iload_n hx hb dX6_tapers_65 rfl (lv_at hl 1 rfl) ?_
    refine lv_isub hx hb dX6_tapers_66 ?_
    refine pfX6_112 B hT hI hA hW hS (by decide) mE_0 (Nat.le_of_ble_eq_true rfl) rfl (by first | rfl | decide) dX6_tapers_67 (fun H locs hW hS => ?_)
    have hW := hW.eq (E' := mE cI cZ ad th nP nH rN nf pn sp sk ag (RV V) (RV T) (FL pd) (FL py) du mA mC (mH - (imin (ovr mI (V (20 + 4) d) (V (20 + 5) d)) mH)) mG mS mI mT mP) (mE_u0 _ _ _ _ _ _ _ _ _ _ _ _ _ _ _ _)
    refine lv_aload_n hx hb dX6_tapers_70 rfl (lv_at hl 3 rfl) ?_
    refine lv_dup hx hb dX6_tapers_71 rfl ?_
    refine gfX6_118 B hT hW (by decide) mE_0 rfl dX6_tapers_72 ?_
    refine lv_iload hx hb dX6_tapers_75 (lv_at hl 0 rfl) ?_
    refine lv_isub hx hb dX6_tapers_77 ?_
    refine pfX6_118 B hT hI hA hW hS (by decide) mE_0 (Nat.le_of_ble_eq_true rfl) rfl (by first | rfl | decide) dX6_tapers_78 (fun H locs hW hS => ?_)
    have hW := hW.eq (E' := mE cI cZ ad th nP nH rN nf pn sp sk ag (RV V) (RV T) (FL pd) (FL py) du (mA - (imin ((ovr mI (V (20 + 4) d) (V (20 + 5) d)) - (imin (ovr mI (V (20 + 4) d) (V (20 + 5) d)) mH)) mA)) mC (mH - (imin (ovr mI (V (20 + 4) d) (V (20 + 5) d)) mH)) mG mS mI mT mP) (mE_u0 _ _ _ _ _ _ _ _ _ _ _ _ _ _ _ _)
    refine lv_aload_n hx hb dX6_tapers_81 rfl (lv_at hl 3 rfl) ?_
    refine lv_iload_n hx hb dX6_tapers_82 rfl (lv_at hl 1 rfl) ?_
    refine lv_iload hx hb dX6_tapers_83 (lv_at hl 0 rfl) ?_
    refine lv_iadd hx hb dX6_tapers_85 ?_
    refine lv_if_le (tgt := 93) hx hb dX6_tapers_86 (by decide) (fun c_86 => ?_) (fun c_86 => ?_)
    · skip
      refine lv_iconst (v := 0) hx hb dX6_tapers_93 (by decide) ?_
      refine pfX6_121 B hT hI hA hW hS (by decide) mE_0 (Nat.le_of_ble_eq_true rfl) (by first | rfl | decide) (by first | rfl | decide) dX6_tapers_94 (fun H locs hW hS => ?_)
      have hW := hW.eq (E' := mE cI cZ ad th nP nH rN nf pn sp sk ag (RV V) (RV T) (FL pd) (FL py) du (mA - (imin ((ovr mI (V (20 + 4) d) (V (20 + 5) d)) - (imin (ovr mI (V (20 + 4) d) (V (20 + 5) d)) mH)) mA)) mC (mH - (imin (ovr mI (V (20 + 4) d) (V (20 + 5) d)) mH)) mG mS mI 0 mP) (mE_u0 _ _ _ _ _ _ _ _ _ _ _ _ _ _ _ _)
      exact e_v hQ B hr hlk hS hW dX6_tapers_97 (Nat.le_of_ble_eq_true rfl) (Nat.le_of_ble_eq_true rfl) (by rw [if_pos c_86])
    · skip
      refine lv_iconst (v := 1) hx hb dX6_tapers_89 (by decide) ?_
      refine lv_goto (tgt := 94) hx hb dX6_tapers_90 (by decide) ?_
      refine pfX6_121 B hT hI hA hW hS (by decide) mE_0 (Nat.le_of_ble_eq_true rfl) (by first | rfl | decide) (by first | rfl | decide) dX6_tapers_94 (fun H locs hW hS => ?_)
      have hW := hW.eq (E' := mE cI cZ ad th nP nH rN nf pn sp sk ag (RV V) (RV T) (FL pd) (FL py) du (mA - (imin ((ovr mI (V (20 + 4) d) (V (20 + 5) d)) - (imin (ovr mI (V (20 + 4) d) (V (20 + 5) d)) mH)) mA)) mC (mH - (imin (ovr mI (V (20 + 4) d) (V (20 + 5) d)) mH)) mG mS mI 1 mP) (mE_u0 _ _ _ _ _ _ _ _ _ _ _ _ _ _ _ _)
      exact e_v hQ B hr hlk hS hW dX6_tapers_97 (Nat.le_of_ble_eq_true rfl) (Nat.le_of_ble_eq_true rfl) (by rw [if_neg c_86])
set_option maxHeartbeats 4000000 in
set_option maxRecDepth 100000 in
theorem mm_caps {l : Launch} {D : va_G} {tys : List (ClassId × FieldType)} {ad : Nat → Nat} (hI : aI ad 13) {cI cZ : ClassId} (th : Int32) (nP nH rN : Nat) (nf pn : Int32) (sp sk : Int64) (ag : Nat → Int32) (V T : Nat → Nat → Int32) (pd py : Nat → Nat → Int32) (du : Nat → Int32) (mA mC mH mG mS mI mT mP : Int32) (x : Int32) (hti : tys[0]? = some (cI, .int)) (htz : tys[1]? = some (cZ, .boolean)) (hm0 : ¬ x < 0) (sz : Nat) : Met l yX6_caps (Cond.code yX6_caps cX6_caps 7 none :: wsL_law) (rmk 0 0 0) (va_Pc [.ref (ad 0), .int x] (PC D tys ad 13 (mE cI cZ ad th nP nH rN nf pn sp sk ag (RV V) (RV T) (FL pd) (FL py) du mA mC mH mG mS mI mT mP) sz)) (Qv D ad 13 (fun E1 => E1 = mE cI cZ ad th nP nH rN nf pn sp sk ag (RV V) (RV T) (FL pd) (FL py) du ((capM mA mC mH x).1) ((capM mA mC mH x).2.1) ((capM mA mC mH x).2.2.1) mG mS mI mT ((capM mA mC mH x).2.2.2)) (cA ad 13 sz)) 0 0 (cA ad 13 sz) := by
  refine cm_of (own := RX6) (Qc := Qv D ad 13 (fun E1 => E1 = mE cI cZ ad th nP nH rN nf pn sp sk ag (RV V) (RV T) (FL pd) (FL py) du ((capM mA mC mH x).1) ((capM mA mC mH x).2.1) ((capM mA mC mH x).2.2.1) mG mS mI mT ((capM mA mC mH x).2.2.2))) rfl (by decide +kernel) (Nat.le_of_ble_eq_true rfl) ?_ sz
  intro p e s m args below meth c ls Q B hT hX hW hr hlk hnm hl hS hA hQ
  have hx := B.1
  have hb := B.2.1
  have hl : lv_has ls 7 [(0, .ref (ad 0)), (1, .int x)] := hl
  have L_120 : ∀ (n_ : Nat) (y : Int32) (ra : Int32) (rc : Int32) (rh : Int32) (a1 : Int32) (c1 : Int32) (h1 : Int32), (hcc : ¬ (mA + mC + mH ≤ x)) → (hn : y.toNatClampNeg < n_) → (hsp : spr y.toNatClampNeg a1 c1 h1 ra rc rh = lim3 mA mC mH x) → ∀ (H : Heap) (locs : List Loc) (ls : Array Slot), hH D ad 13 (mE cI cZ ad th nP nH rN nf pn sp sk ag (RV V) (RV T) (FL pd) (FL py) du a1 c1 h1 mG mS mI mT 1) H → va_S (cA ad 13 s.heap.size) s.heap H locs → lv_has ls 7 [(0, .ref (ad 0)), (1, .int x), (2, .int (mA + mC + mH)), (3, .int ra), (4, .int rc), (5, .int rh), (6, .int y)] → W p l e (rmk 0 0 0) s m args below meth c H locs 0 0 Q (F0 m 120 ls []) := by
    intro n_
    induction n_ with
    | zero =>
      intro y ra rc rh a1 c1 h1 hcc hn hsp
      exact absurd hn (Nat.not_lt_zero _)
    | succ n_ ih =>
      intro y ra rc rh a1 c1 h1 hcc hn hsp H locs ls hW hS hl
      refine lv_iload hx hb dX6_caps_120 (lv_at hl 6 rfl) ?_
      refine lv_if_le (tgt := 194) hx hb dX6_caps_122 (by decide) (fun c_122 => ?_) (fun c_122 => ?_)
      · skip
        exact e_v hQ B hr hlk hS hW dX6_caps_194 (Nat.le_of_ble_eq_true rfl) (Nat.le_of_ble_eq_true rfl) (by unfold capM; rw [if_neg hcc, ← hsp, cl_np c_122, spr])
      · skip
        refine lv_iload_n hx hb dX6_caps_125 rfl (lv_at hl 3 rfl) ?_
        refine lv_iload hx hb dX6_caps_126 (lv_at hl 4 rfl) ?_
        refine lv_icmp_lt (tgt := 152) hx hb dX6_caps_128 (by decide) (fun c_128 => ?_) (fun c_128 => ?_)
        · skip
          refine lv_iload hx hb dX6_caps_152 (lv_at hl 4 rfl) ?_
          refine lv_iload hx hb dX6_caps_154 (lv_at hl 5 rfl) ?_
          refine lv_icmp_lt (tgt := 175) hx hb dX6_caps_156 (by decide) (fun c_156 => ?_) (fun c_156 => ?_)
          · skip
            refine lv_aload_n hx hb dX6_caps_175 rfl (lv_at hl 0 rfl) ?_
            refine lv_dup hx hb dX6_caps_176 rfl ?_
            refine gfX6_112 B hT hW (by decide) mE_0 rfl dX6_caps_177 ?_
            refine lv_iconst (v := 1) hx hb dX6_caps_180 (by decide) ?_
            refine lv_iadd hx hb dX6_caps_181 ?_
            refine pfX6_112 B hT hI hA hW hS (by decide) mE_0 (Nat.le_of_ble_eq_true rfl) rfl (by first | rfl | decide) dX6_caps_182 (fun H locs hW hS => ?_)
            have hW := hW.eq (E' := mE cI cZ ad th nP nH rN nf pn sp sk ag (RV V) (RV T) (FL pd) (FL py) du a1 c1 (h1 + 1) mG mS mI mT 1) (mE_u0 _ _ _ _ _ _ _ _ _ _ _ _ _ _ _ _)
            refine lv_iconst (v := (-1)) hx hb dX6_caps_185 (by decide) ?_
            refine lv_istore (lv' := [(5, .int (-1)), (0, .ref (ad 0)), (1, .int x), (2, .int (mA + mC + mH)), (3, .int ra), (4, .int rc), (6, .int y)]) hx hb dX6_caps_186 hl (by decide) rfl (fun ls hl => ?_)
            refine lv_iinc (v := (y + (-1))) (lv' := [(6, .int (y + (-1))), (5, .int (-1)), (0, .ref (ad 0)), (1, .int x), (2, .int (mA + mC + mH)), (3, .int ra), (4, .int rc)]) hx hb dX6_caps_188 hl (k := 6) rfl rfl (by decide) rfl (fun ls hl => ?_)
            refine lv_goto (tgt := 120) hx hb dX6_caps_191 (by decide) ?_
            exact ih (y + (-1)) ra rc (-1) a1 c1 (h1 + 1) hcc (by have := cl_pos c_122; omega) (by rw [← hsp, cl_pos c_122, spr, if_neg (fun q => Int32.not_le.mpr c_128 q.1), if_neg (Int32.not_le.mpr c_156)]) _ _ _ hW hS (lv_sub hl [2, 3, 4, 5, 6, 1, 0] rfl)
          · skip
            refine lv_aload_n hx hb dX6_caps_159 rfl (lv_at hl 0 rfl) ?_
            refine lv_dup hx hb dX6_caps_160 rfl ?_
            refine gfX6_125 B hT hW (by decide) mE_0 rfl dX6_caps_161 ?_
            refine lv_iconst (v := 1) hx hb dX6_caps_164 (by decide) ?_
            refine lv_iadd hx hb dX6_caps_165 ?_
            refine pfX6_125 B hT hI hA hW hS (by decide) mE_0 (Nat.le_of_ble_eq_true rfl) rfl (by first | rfl | decide) dX6_caps_166 (fun H locs hW hS => ?_)
            have hW := hW.eq (E' := mE cI cZ ad th nP nH rN nf pn sp sk ag (RV V) (RV T) (FL pd) (FL py) du a1 (c1 + 1) h1 mG mS mI mT 1) (mE_u0 _ _ _ _ _ _ _ _ _ _ _ _ _ _ _ _)
            refine lv_iconst (v := (-1)) hx hb dX6_caps_169 (by decide) ?_
            refine lv_istore (lv' := [(4, .int (-1)), (0, .ref (ad 0)), (1, .int x), (2, .int (mA + mC + mH)), (3, .int ra), (5, .int rh), (6, .int y)]) hx hb dX6_caps_170 hl (by decide) rfl (fun ls hl => ?_)
            refine lv_goto (tgt := 188) hx hb dX6_caps_172 (by decide) ?_
            refine lv_iinc (v := (y + (-1))) (lv' := [(6, .int (y + (-1))), (4, .int (-1)), (0, .ref (ad 0)), (1, .int x), (2, .int (mA + mC + mH)), (3, .int ra), (5, .int rh)]) hx hb dX6_caps_188 hl (k := 6) rfl rfl (by decide) rfl (fun ls hl => ?_)
            refine lv_goto (tgt := 120) hx hb dX6_caps_191 (by decide) ?_
            exact ih (y + (-1)) ra (-1) rh a1 (c1 + 1) h1 hcc (by have := cl_pos c_122; omega) (by rw [← hsp, cl_pos c_122, spr, if_neg (fun q => Int32.not_le.mpr c_128 q.1), if_pos (Int32.not_lt.mp c_156)]) _ _ _ hW hS (lv_sub hl [2, 3, 4, 5, 1, 6, 0] rfl)
        · skip
          refine lv_iload_n hx hb dX6_caps_131 rfl (lv_at hl 3 rfl) ?_
          refine lv_iload hx hb dX6_caps_132 (lv_at hl 5 rfl) ?_
          refine lv_icmp_lt (tgt := 152) hx hb dX6_caps_134 (by decide) (fun c_134 => ?_) (fun c_134 => ?_)
          · skip
            refine lv_iload hx hb dX6_caps_152 (lv_at hl 4 rfl) ?_
            refine lv_iload hx hb dX6_caps_154 (lv_at hl 5 rfl) ?_
            refine lv_icmp_lt (tgt := 175) hx hb dX6_caps_156 (by decide) (fun c_156 => ?_) (fun c_156 => ?_)
            · skip
              refine lv_aload_n hx hb dX6_caps_175 rfl (lv_at hl 0 rfl) ?_
              refine lv_dup hx hb dX6_caps_176 rfl ?_
              refine gfX6_112 B hT hW (by decide) mE_0 rfl dX6_caps_177 ?_
              refine lv_iconst (v := 1) hx hb dX6_caps_180 (by decide) ?_
              refine lv_iadd hx hb dX6_caps_181 ?_
              refine pfX6_112 B hT hI hA hW hS (by decide) mE_0 (Nat.le_of_ble_eq_true rfl) rfl (by first | rfl | decide) dX6_caps_182 (fun H locs hW hS => ?_)
              have hW := hW.eq (E' := mE cI cZ ad th nP nH rN nf pn sp sk ag (RV V) (RV T) (FL pd) (FL py) du a1 c1 (h1 + 1) mG mS mI mT 1) (mE_u0 _ _ _ _ _ _ _ _ _ _ _ _ _ _ _ _)
              refine lv_iconst (v := (-1)) hx hb dX6_caps_185 (by decide) ?_
              refine lv_istore (lv' := [(5, .int (-1)), (0, .ref (ad 0)), (1, .int x), (2, .int (mA + mC + mH)), (3, .int ra), (4, .int rc), (6, .int y)]) hx hb dX6_caps_186 hl (by decide) rfl (fun ls hl => ?_)
              refine lv_iinc (v := (y + (-1))) (lv' := [(6, .int (y + (-1))), (5, .int (-1)), (0, .ref (ad 0)), (1, .int x), (2, .int (mA + mC + mH)), (3, .int ra), (4, .int rc)]) hx hb dX6_caps_188 hl (k := 6) rfl rfl (by decide) rfl (fun ls hl => ?_)
              refine lv_goto (tgt := 120) hx hb dX6_caps_191 (by decide) ?_
              exact ih (y + (-1)) ra rc (-1) a1 c1 (h1 + 1) hcc (by have := cl_pos c_122; omega) (by rw [← hsp, cl_pos c_122, spr, if_neg (fun q => Int32.not_le.mpr c_134 q.2), if_neg (Int32.not_le.mpr c_156)]) _ _ _ hW hS (lv_sub hl [2, 3, 4, 5, 6, 1, 0] rfl)
            · skip
              refine lv_aload_n hx hb dX6_caps_159 rfl (lv_at hl 0 rfl) ?_
              refine lv_dup hx hb dX6_caps_160 rfl ?_
              refine gfX6_125 B hT hW (by decide) mE_0 rfl dX6_caps_161 ?_
              refine lv_iconst (v := 1) hx hb dX6_caps_164 (by decide) ?_
              refine lv_iadd hx hb dX6_caps_165 ?_
              refine pfX6_125 B hT hI hA hW hS (by decide) mE_0 (Nat.le_of_ble_eq_true rfl) rfl (by first | rfl | decide) dX6_caps_166 (fun H locs hW hS => ?_)
              have hW := hW.eq (E' := mE cI cZ ad th nP nH rN nf pn sp sk ag (RV V) (RV T) (FL pd) (FL py) du a1 (c1 + 1) h1 mG mS mI mT 1) (mE_u0 _ _ _ _ _ _ _ _ _ _ _ _ _ _ _ _)
              refine lv_iconst (v := (-1)) hx hb dX6_caps_169 (by decide) ?_
              refine lv_istore (lv' := [(4, .int (-1)), (0, .ref (ad 0)), (1, .int x), (2, .int (mA + mC + mH)), (3, .int ra), (5, .int rh), (6, .int y)]) hx hb dX6_caps_170 hl (by decide) rfl (fun ls hl => ?_)
              refine lv_goto (tgt := 188) hx hb dX6_caps_172 (by decide) ?_
              refine lv_iinc (v := (y + (-1))) (lv' := [(6, .int (y + (-1))), (4, .int (-1)), (0, .ref (ad 0)), (1, .int x), (2, .int (mA + mC + mH)), (3, .int ra), (5, .int rh)]) hx hb dX6_caps_188 hl (k := 6) rfl rfl (by decide) rfl (fun ls hl => ?_)
              refine lv_goto (tgt := 120) hx hb dX6_caps_191 (by decide) ?_
              exact ih (y + (-1)) ra (-1) rh a1 (c1 + 1) h1 hcc (by have := cl_pos c_122; omega) (by rw [← hsp, cl_pos c_122, spr, if_neg (fun q => Int32.not_le.mpr c_134 q.2), if_pos (Int32.not_lt.mp c_156)]) _ _ _ hW hS (lv_sub hl [2, 3, 4, 5, 1, 6, 0] rfl)
          · skip
            refine lv_aload_n hx hb dX6_caps_137 rfl (lv_at hl 0 rfl) ?_
            refine lv_dup hx hb dX6_caps_138 rfl ?_
            refine gfX6_118 B hT hW (by decide) mE_0 rfl dX6_caps_139 ?_
            refine lv_iconst (v := 1) hx hb dX6_caps_142 (by decide) ?_
            refine lv_iadd hx hb dX6_caps_143 ?_
            refine pfX6_118 B hT hI hA hW hS (by decide) mE_0 (Nat.le_of_ble_eq_true rfl) rfl (by first | rfl | decide) dX6_caps_144 (fun H locs hW hS => ?_)
            have hW := hW.eq (E' := mE cI cZ ad th nP nH rN nf pn sp sk ag (RV V) (RV T) (FL pd) (FL py) du (a1 + 1) c1 h1 mG mS mI mT 1) (mE_u0 _ _ _ _ _ _ _ _ _ _ _ _ _ _ _ _)
            refine lv_iconst (v := (-1)) hx hb dX6_caps_147 (by decide) ?_
            refine lv_istore_n (lv' := [(3, .int (-1)), (0, .ref (ad 0)), (1, .int x), (2, .int (mA + mC + mH)), (4, .int rc), (5, .int rh), (6, .int y)]) hx hb dX6_caps_148 rfl hl (by decide) rfl (fun ls hl => ?_)
            refine lv_goto (tgt := 188) hx hb dX6_caps_149 (by decide) ?_
            refine lv_iinc (v := (y + (-1))) (lv' := [(6, .int (y + (-1))), (3, .int (-1)), (0, .ref (ad 0)), (1, .int x), (2, .int (mA + mC + mH)), (4, .int rc), (5, .int rh)]) hx hb dX6_caps_188 hl (k := 6) rfl rfl (by decide) rfl (fun ls hl => ?_)
            refine lv_goto (tgt := 120) hx hb dX6_caps_191 (by decide) ?_
            exact ih (y + (-1)) (-1) rc rh (a1 + 1) c1 h1 hcc (by have := cl_pos c_122; omega) (by rw [← hsp, cl_pos c_122, spr, if_pos ⟨Int32.not_lt.mp c_128, Int32.not_lt.mp c_134⟩]) _ _ _ hW hS (lv_sub hl [2, 3, 4, 1, 5, 6, 0] rfl)
  refine lv_aload_n hx hb dX6_caps_0 rfl (lv_at hl 0 rfl) ?_
  refine gfX6_118 B hT hW (by decide) mE_0 rfl dX6_caps_1 ?_
  refine lv_aload_n hx hb dX6_caps_4 rfl (lv_at hl 0 rfl) ?_
  refine gfX6_125 B hT hW (by decide) mE_0 rfl dX6_caps_5 ?_
  refine lv_iadd hx hb dX6_caps_8 ?_
  refine lv_aload_n hx hb dX6_caps_9 rfl (lv_at hl 0 rfl) ?_
  refine gfX6_112 B hT hW (by decide) mE_0 rfl dX6_caps_10 ?_
  refine lv_iadd hx hb dX6_caps_13 ?_
  refine lv_istore_n (lv' := [(2, .int ((mA + mC) + mH)), (0, .ref (ad 0)), (1, .int x)]) hx hb dX6_caps_14 rfl hl (by decide) rfl (fun ls hl => ?_)
  refine lv_aload_n hx hb dX6_caps_15 rfl (lv_at hl 1 rfl) ?_
  refine lv_iload_n hx hb dX6_caps_16 rfl (lv_at hl 0 rfl) ?_
  refine lv_iload_n hx hb dX6_caps_17 rfl (lv_at hl 2 rfl) ?_
  refine lv_icmp_le (tgt := 25) hx hb dX6_caps_18 (by decide) (fun c_18 => ?_) (fun c_18 => ?_)
  · skip
    refine lv_iconst (v := 0) hx hb dX6_caps_25 (by decide) ?_
    refine pfX6_128 B hT hI hA hW hS (by decide) mE_0 (Nat.le_of_ble_eq_true rfl) (by first | rfl | decide) (by first | rfl | decide) dX6_caps_26 (fun H locs hW hS => ?_)
    have hW := hW.eq (E' := mE cI cZ ad th nP nH rN nf pn sp sk ag (RV V) (RV T) (FL pd) (FL py) du mA mC mH mG mS mI mT 0) (mE_u0 _ _ _ _ _ _ _ _ _ _ _ _ _ _ _ _)
    refine lv_aload_n hx hb dX6_caps_29 rfl (lv_at hl 1 rfl) ?_
    refine gfX6_128 B hT hW (by decide) mE_0 rfl dX6_caps_30 ?_
    refine lv_if_ne (tgt := 37) hx hb dX6_caps_33 (by decide) (fun c_33 => ?_) (fun c_33 => ?_)
    · exact absurd rfl c_33
    · skip
      exact e_v hQ B hr hlk hS hW dX6_caps_36 (Nat.le_of_ble_eq_true rfl) (Nat.le_of_ble_eq_true rfl) (by unfold capM; rw [if_pos c_18])
  · skip
    refine lv_iconst (v := 1) hx hb dX6_caps_21 (by decide) ?_
    refine lv_goto (tgt := 26) hx hb dX6_caps_22 (by decide) ?_
    refine pfX6_128 B hT hI hA hW hS (by decide) mE_0 (Nat.le_of_ble_eq_true rfl) (by first | rfl | decide) (by first | rfl | decide) dX6_caps_26 (fun H locs hW hS => ?_)
    have hW := hW.eq (E' := mE cI cZ ad th nP nH rN nf pn sp sk ag (RV V) (RV T) (FL pd) (FL py) du mA mC mH mG mS mI mT 1) (mE_u0 _ _ _ _ _ _ _ _ _ _ _ _ _ _ _ _)
    refine lv_aload_n hx hb dX6_caps_29 rfl (lv_at hl 1 rfl) ?_
    refine gfX6_128 B hT hW (by decide) mE_0 rfl dX6_caps_30 ?_
    refine lv_if_ne (tgt := 37) hx hb dX6_caps_33 (by decide) (fun c_33 => ?_) (fun c_33 => ?_)
    · skip
      have hcc : ¬ (mA + mC + mH ≤ x) := c_18
      refine lv_aload_n hx hb dX6_caps_37 rfl (lv_at hl 1 rfl) ?_
      refine gfX6_118 B hT hW (by decide) mE_0 rfl dX6_caps_38 ?_
      refine lv_iload_n hx hb dX6_caps_41 rfl (lv_at hl 2 rfl) ?_
      refine lv_imul hx hb dX6_caps_42 ?_
      refine lv_iload_n hx hb dX6_caps_43 rfl (lv_at hl 0 rfl) ?_
      refine lv_irem hx hb dX6_caps_44 (fun q => hcc (by rw [q]; exact Int32.not_lt.mp hm0)) ?_
      refine lv_istore_n (lv' := [(3, .int ((mA * x) - (mA * x) / ((mA + mC) + mH) * ((mA + mC) + mH))), (2, .int ((mA + mC) + mH)), (0, .ref (ad 0)), (1, .int x)]) hx hb dX6_caps_45 rfl hl (by decide) rfl (fun ls hl => ?_)
      refine lv_aload_n hx hb dX6_caps_46 rfl (lv_at hl 2 rfl) ?_
      refine gfX6_125 B hT hW (by decide) mE_0 rfl dX6_caps_47 ?_
      refine lv_iload_n hx hb dX6_caps_50 rfl (lv_at hl 3 rfl) ?_
      refine lv_imul hx hb dX6_caps_51 ?_
      refine lv_iload_n hx hb dX6_caps_52 rfl (lv_at hl 1 rfl) ?_
      refine lv_irem hx hb dX6_caps_53 (fun q => hcc (by rw [q]; exact Int32.not_lt.mp hm0)) ?_
      refine lv_istore (lv' := [(4, .int ((mC * x) - (mC * x) / ((mA + mC) + mH) * ((mA + mC) + mH))), (3, .int ((mA * x) - (mA * x) / ((mA + mC) + mH) * ((mA + mC) + mH))), (2, .int ((mA + mC) + mH)), (0, .ref (ad 0)), (1, .int x)]) hx hb dX6_caps_54 hl (by decide) rfl (fun ls hl => ?_)
      refine lv_aload_n hx hb dX6_caps_56 rfl (lv_at hl 3 rfl) ?_
      refine gfX6_112 B hT hW (by decide) mE_0 rfl dX6_caps_57 ?_
      refine lv_iload_n hx hb dX6_caps_60 rfl (lv_at hl 4 rfl) ?_
      refine lv_imul hx hb dX6_caps_61 ?_
      refine lv_iload_n hx hb dX6_caps_62 rfl (lv_at hl 2 rfl) ?_
      refine lv_irem hx hb dX6_caps_63 (fun q => hcc (by rw [q]; exact Int32.not_lt.mp hm0)) ?_
      refine lv_istore (lv' := [(5, .int ((mH * x) - (mH * x) / ((mA + mC) + mH) * ((mA + mC) + mH))), (4, .int ((mC * x) - (mC * x) / ((mA + mC) + mH) * ((mA + mC) + mH))), (3, .int ((mA * x) - (mA * x) / ((mA + mC) + mH) * ((mA + mC) + mH))), (2, .int ((mA + mC) + mH)), (0, .ref (ad 0)), (1, .int x)]) hx hb dX6_caps_64 hl (by decide) rfl (fun ls hl => ?_)
      refine lv_aload_n hx hb dX6_caps_66 rfl (lv_at hl 4 rfl) ?_
      refine lv_aload_n hx hb dX6_caps_67 rfl (lv_at hl 4 rfl) ?_
      refine gfX6_118 B hT hW (by decide) mE_0 rfl dX6_caps_68 ?_
      refine lv_iload_n hx hb dX6_caps_71 rfl (lv_at hl 5 rfl) ?_
      refine lv_imul hx hb dX6_caps_72 ?_
      refine lv_iload_n hx hb dX6_caps_73 rfl (lv_at hl 3 rfl) ?_
      refine lv_idiv hx hb dX6_caps_74 (fun q => hcc (by rw [q]; exact Int32.not_lt.mp hm0)) ?_
      refine pfX6_118 B hT hI hA hW hS (by decide) mE_0 (Nat.le_of_ble_eq_true rfl) rfl (by first | rfl | decide) dX6_caps_75 (fun H locs hW hS => ?_)
      have hW := hW.eq (E' := mE cI cZ ad th nP nH rN nf pn sp sk ag (RV V) (RV T) (FL pd) (FL py) du ((mA * x) / ((mA + mC) + mH)) mC mH mG mS mI mT 1) (mE_u0 _ _ _ _ _ _ _ _ _ _ _ _ _ _ _ _)
      refine lv_aload_n hx hb dX6_caps_78 rfl (lv_at hl 4 rfl) ?_
      refine lv_aload_n hx hb dX6_caps_79 rfl (lv_at hl 4 rfl) ?_
      refine gfX6_125 B hT hW (by decide) mE_0 rfl dX6_caps_80 ?_
      refine lv_iload_n hx hb dX6_caps_83 rfl (lv_at hl 5 rfl) ?_
      refine lv_imul hx hb dX6_caps_84 ?_
      refine lv_iload_n hx hb dX6_caps_85 rfl (lv_at hl 3 rfl) ?_
      refine lv_idiv hx hb dX6_caps_86 (fun q => hcc (by rw [q]; exact Int32.not_lt.mp hm0)) ?_
      refine pfX6_125 B hT hI hA hW hS (by decide) mE_0 (Nat.le_of_ble_eq_true rfl) rfl (by first | rfl | decide) dX6_caps_87 (fun H locs hW hS => ?_)
      have hW := hW.eq (E' := mE cI cZ ad th nP nH rN nf pn sp sk ag (RV V) (RV T) (FL pd) (FL py) du ((mA * x) / ((mA + mC) + mH)) ((mC * x) / ((mA + mC) + mH)) mH mG mS mI mT 1) (mE_u0 _ _ _ _ _ _ _ _ _ _ _ _ _ _ _ _)
      refine lv_aload_n hx hb dX6_caps_90 rfl (lv_at hl 4 rfl) ?_
      refine lv_aload_n hx hb dX6_caps_91 rfl (lv_at hl 4 rfl) ?_
      refine gfX6_112 B hT hW (by decide) mE_0 rfl dX6_caps_92 ?_
      refine lv_iload_n hx hb dX6_caps_95 rfl (lv_at hl 5 rfl) ?_
      refine lv_imul hx hb dX6_caps_96 ?_
      refine lv_iload_n hx hb dX6_caps_97 rfl (lv_at hl 3 rfl) ?_
      refine lv_idiv hx hb dX6_caps_98 (fun q => hcc (by rw [q]; exact Int32.not_lt.mp hm0)) ?_
      refine pfX6_112 B hT hI hA hW hS (by decide) mE_0 (Nat.le_of_ble_eq_true rfl) rfl (by first | rfl | decide) dX6_caps_99 (fun H locs hW hS => ?_)
      have hW := hW.eq (E' := mE cI cZ ad th nP nH rN nf pn sp sk ag (RV V) (RV T) (FL pd) (FL py) du ((mA * x) / ((mA + mC) + mH)) ((mC * x) / ((mA + mC) + mH)) ((mH * x) / ((mA + mC) + mH)) mG mS mI mT 1) (mE_u0 _ _ _ _ _ _ _ _ _ _ _ _ _ _ _ _)
      refine lv_iload_n hx hb dX6_caps_102 rfl (lv_at hl 5 rfl) ?_
      refine lv_aload_n hx hb dX6_caps_103 rfl (lv_at hl 4 rfl) ?_
      refine gfX6_118 B hT hW (by decide) mE_0 rfl dX6_caps_104 ?_
      refine lv_isub hx hb dX6_caps_107 ?_
      refine lv_aload_n hx hb dX6_caps_108 rfl (lv_at hl 4 rfl) ?_
      refine gfX6_125 B hT hW (by decide) mE_0 rfl dX6_caps_109 ?_
      refine lv_isub hx hb dX6_caps_112 ?_
      refine lv_aload_n hx hb dX6_caps_113 rfl (lv_at hl 4 rfl) ?_
      refine gfX6_112 B hT hW (by decide) mE_0 rfl dX6_caps_114 ?_
      refine lv_isub hx hb dX6_caps_117 ?_
      refine b_top (y := x - (((mA * x) / ((mA + mC) + mH)) + ((mC * x) / ((mA + mC) + mH)) + ((mH * x) / ((mA + mC) + mH)))) (sub3 _ _ _ _) ?_
      refine lv_istore (lv' := [(6, .int (x - (((mA * x) / ((mA + mC) + mH)) + ((mC * x) / ((mA + mC) + mH)) + ((mH * x) / ((mA + mC) + mH))))), (5, .int ((mH * x) - (mH * x) / ((mA + mC) + mH) * ((mA + mC) + mH))), (4, .int ((mC * x) - (mC * x) / ((mA + mC) + mH) * ((mA + mC) + mH))), (3, .int ((mA * x) - (mA * x) / ((mA + mC) + mH) * ((mA + mC) + mH))), (2, .int ((mA + mC) + mH)), (0, .ref (ad 0)), (1, .int x)]) hx hb dX6_caps_118 hl (by decide) rfl (fun ls hl => ?_)
      exact L_120 _ (x - (((mA * x) / ((mA + mC) + mH)) + ((mC * x) / ((mA + mC) + mH)) + ((mH * x) / ((mA + mC) + mH)))) ((mA * x) - (mA * x) / ((mA + mC) + mH) * ((mA + mC) + mH)) ((mC * x) - (mC * x) / ((mA + mC) + mH) * ((mA + mC) + mH)) ((mH * x) - (mH * x) / ((mA + mC) + mH) * ((mA + mC) + mH)) ((mA * x) / ((mA + mC) + mH)) ((mC * x) / ((mA + mC) + mH)) ((mH * x) / ((mA + mC) + mH)) hcc (Nat.lt_succ_self _) rfl _ _ _ hW hS (lv_sub hl [5, 6, 4, 3, 2, 1, 0] rfl)
    · exact absurd c_33 (by decide)
