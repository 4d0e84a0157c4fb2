theorem ciX5_50 {R : Room} {s : State} {args : Array Value} {rm : Room} (hts : ∀ w ∈ wsL_law, w.before args s = true) (hR : rm.frames + 1 ≤ R.frames ∧ 8 + (2 + 11) + rm.locals ≤ R.locals) : CallB R s args RX5 50 yX4_init cX4_init 2 none (Cond.code yX4_init cX4_init 2 none :: wsL_law) rm rm.cells rm.slots 1 ∧ yX4_init.name = "<init>" ∧ (Cond.instanceMethod yX4_init).before args s = true :=
  cwI 1 hts (gi_self (r2_in _ (List.mem_of_getElem? (i := 23) rfl))) rfl rfl rfl (hts _ (r2_in _ (List.mem_of_getElem? (i := 7) rfl))) (hts _ (r3_in _ (List.mem_of_getElem? (i := 16) rfl))) (hts _ (r2_in _ (List.mem_of_getElem? (i := 22) rfl))) rfl (by decide +kernel) hR
theorem ciX5_49 {R : Room} {s : State} {args : Array Value} {rm : Room} (hts : ∀ w ∈ wsL_law, w.before args s = true) (hR : rm.frames + 1 ≤ R.frames ∧ 8 + (1 + 11) + rm.locals ≤ R.locals) (hT : TX s) : va_CN R s args RX5 49 yX1_init "BenefitOffice" cX1_init 1 none (Cond.code yX1_init cX1_init 1 none :: wsL_law) rm rm.cells rm.slots 0 ∧ yX1_init.name = "<init>" ∧ (Cond.instanceMethod yX1_init).before args s = true :=
  ⟨va_cnB 0 hts (gi_self (r3_in _ (List.mem_of_getElem? (i := 9) rfl))) rfl rfl rfl (hT.1 _ (List.mem_of_getElem? (i := 19) rfl)) (hts _ (r2_in _ (List.mem_of_getElem? (i := 5) rfl))) (by decide +kernel) hR, rfl, hts _ (r3_in _ (List.mem_of_getElem? (i := 8) rfl))⟩
theorem ciX5_48 {R : Room} {s : State} {args : Array Value} {rm : Room} (hts : ∀ w ∈ wsL_law, w.before args s = true) (hR : rm.frames + 1 ≤ R.frames ∧ 8 + (1 + 11) + rm.locals ≤ R.locals) (hT : TX s) : va_CN R s args RX5 48 yX2_init "BenefitOffice" cX2_init 1 none (Cond.code yX2_init cX2_init 1 none :: wsL_law) rm rm.cells rm.slots 0 ∧ yX2_init.name = "<init>" ∧ (Cond.instanceMethod yX2_init).before args s = true :=
  ⟨va_cnB 0 hts (gi_self (r2_in _ (List.mem_of_getElem? (i := 16) rfl))) rfl rfl rfl (hT.1 _ (List.mem_of_getElem? (i := 18) rfl)) (hts _ (r2_in _ (List.mem_of_getElem? (i := 3) rfl))) (by decide +kernel) hR, rfl, hts _ (r2_in _ (List.mem_of_getElem? (i := 15) rfl))⟩
theorem ciX5_33 {R : Room} {s : State} {args : Array Value} {rm : Room} (hts : ∀ w ∈ wsL_law, w.before args s = true) (hR : rm.frames + 1 ≤ R.frames ∧ 8 + (1 + 11) + rm.locals ≤ R.locals) (hT : TX s) : va_CN R s args RX5 33 yX3_init "BenefitOffice" cX3_init 1 none (Cond.code yX3_init cX3_init 1 none :: wsL_law) rm rm.cells rm.slots 0 ∧ yX3_init.name = "<init>" ∧ (Cond.instanceMethod yX3_init).before args s = true :=
  ⟨va_cnB 0 hts (gi_self (r2_in _ (List.mem_of_getElem? (i := 10) rfl))) rfl rfl rfl (hT.1 _ (List.mem_of_getElem? (i := 16) rfl)) (hts _ (r1_in _ (List.mem_of_getElem? (i := 19) rfl))) (by decide +kernel) hR, rfl, hts _ (r2_in _ (List.mem_of_getElem? (i := 9) rfl))⟩
theorem ciX5_40 {R : Room} {s : State} {args : Array Value} {rm : Room} (hts : ∀ w ∈ wsL_law, w.before args s = true) (hR : rm.frames + 1 ≤ R.frames ∧ 8 + (1 + 11) + rm.locals ≤ R.locals) (hT : TX s) : va_CN R s args RX5 40 yX0_init "BenefitOffice" cX0_init 1 none (Cond.code yX0_init cX0_init 1 none :: wsL_law) rm rm.cells rm.slots 0 ∧ yX0_init.name = "<init>" ∧ (Cond.instanceMethod yX0_init).before args s = true :=
  ⟨va_cnB 0 hts (gi_self (r2_in _ (List.mem_of_getElem? (i := 13) rfl))) rfl rfl rfl (hT.1 _ (List.mem_of_getElem? (i := 17) rfl)) (hts _ (r1_in _ (List.mem_of_getElem? (i := 23) rfl))) (by decide +kernel) hR, rfl, hts _ (r2_in _ (List.mem_of_getElem? (i := 12) rfl))⟩
def AO3 (U : State) : Prop := va_AO RX2 U ∧ va_AO RX1 U ∧ va_AO RX4 U
theorem AO3.moved {u U : State} (hvm : u.vm.Alike U.vm) (h : AO3 u) : AO3 U := ⟨h.1.moved hvm, h.2.1.moved hvm, h.2.2.moved hvm⟩
/-- a constructor's start where arrays of objects are made -/
def PA (D : va_G) (tys : List (ClassId × FieldType)) (ad : Nat → Nat) (E : Nat → va_E) (sz : Nat) (U : State) : Prop := PC D tys ad 1 E sz U ∧ AO3 U
theorem PA.blind {D : va_G} {tys : List (ClassId × FieldType)} {ad : Nat → Nat} {E : Nat → va_E} {As : List Value} {sz : Nat} : FrameBlind (va_Pc As (PA D tys ad E sz)) := fun a U g mk q => by
  obtain ⟨q0, q1, q2⟩ := q
  obtain ⟨_, h⟩ := PC.blind (As := As) a U g mk ⟨q0, q1⟩
  exact ⟨q0, h, AO3.moved (u := U) (U := U.calling g mk a) (Vm.Alike.refl U.vm) q2⟩
theorem cgA_of {l : Launch} {y : MethodName} {cc : ByteArray} {maxL : Nat} {rm : Room} {As : List Value} {D : va_G} {tys : List (ClassId × FieldType)} {ad : Nat → Nat} {E : Nat → va_E} {mc ms N2 : Nat} {post : (Nat → Nat) → (Nat → va_E) → Prop} {own : String} (ho : y.cls = own) (hy : plainName y.cls = true) (hy2 : y.name = "<init>") (hL : (lg_sl As).length ≤ maxL)
    (body : ∀ (p : Program) (e : Env) (s : State) (m : MethodId) (args : Array Value) (below : List Frame) (meth : Method) (c : Code) (ls : Array Slot) (Q : State → Prop) (A : Nat → Prop), MB p c cc maxL own s m args D tys → AO3 s → TX s → HX A s s.heap → hH D ad 1 E s.heap → meth.sig.returnType = none → meth.locks = false → meth.name = "<init>" → lv_has ls maxL (lv_args 0 As) → va_S A s.heap s.heap [] → aI ad 1 → (∀ k : Nat, k < 1 → A (ad k)) → (∀ q : Nat, s.heap.size ≤ q → A q) →
      Q = MQ below (Qg D N2 (ad 0) post A) args s mc ms A → W p l e rm s m args below meth c s.heap [] 0 0 Q (F0 m 0 ls [])) (sz : Nat) :
    Met l y (Cond.code y cc maxL none :: wsL_law) rm (va_Pc As (PA D tys ad E sz)) (Qg D N2 (ad 0) post (cA ad 1 sz)) mc ms (cA ad 1 sz) := by
  refine Met.ofW (cc := cc) (maxL := maxL) (ret := none) hy rfl ?_
  intro p e s m args below meth c s₁ B hml hv
  obtain ⟨rfl, ⟨hsz, hW, hK, hT, hX⟩, hAO⟩ := hv
  subst hsz
  have hts0 := atoms_spec (ws := Cond.code y cc maxL none :: wsL_law) B.pre
  have hown : s.vm.findClass y.cls = some m.cls := findClass_of_methodNamed B.named
  rw [ho] at hown
  have hl := lv_entry As (n := maxL) hL
  rw [lg_entry_eq]
  generalize (lg_sl As ++ List.replicate (maxL - (lg_sl As).length) Slot.unset).toArray = ls at hl ⊢
  exact body p e s m _ below meth c ls _ (cA ad 1 s.heap.size) ⟨B.exec, B.bytes, hml, hown, fun w h => hts0 w (List.mem_cons_of_mem _ h), hK⟩ hAO hT hX hW B.returns B.notSynchronized ((name_of_methodNamed B.named B.method).1.trans hy2) hl va_S.rf (fun i j hi hj _ => by omega) (fun k hk => cA.in_ hk) (fun q hq => Or.inr hq) rfl
set_option maxHeartbeats 4000000 in
set_option maxRecDepth 100000 in
/-- BenefitOffice() -/
theorem ct_off {l : Launch} {D : va_G} {tys : List (ClassId × FieldType)} {cI cZ cH cP cT : ClassId} (hti : tys[0]? = some (cI, .int)) (htz : cZ = cI) (hth : tys[2]? = some (cH, .object RX1)) (htp : tys[3]? = some (cP, .object RX2)) (htt : tys[4]? = some (cT, .object RX4))  {ad : Nat → Nat} {E : Nat → va_E} (h_0 : E 0 = .inr (5, [.null, .null, .null, .int 0, .int 0, .null, .int 0, .int 0, .int 0, .long 0, .long 0, .null, .null, .null])) (sz : Nat) : Met l yX5_init (Cond.code yX5_init cX5_init 2 none :: wsL_law) (rmk 5 108 10656) (va_Pc [.ref (ad 0)] (PA D tys ad E sz)) (Qg D 109 (ad 0) (offQ cI cZ cH cP cT) (cA ad 1 sz)) 108 10656 (cA ad 1 sz) := by
  refine cgA_of (own := RX5) (N2 := 109) (post := offQ cI cZ cH cP cT) rfl (by decide +kernel) rfl (Nat.le_of_ble_eq_true rfl) ?_ sz
  intro p e s m args below meth c ls Q A B hAO hT hX hW hr hlk hnm hl hS hI hA hAn hQ
  have hx := B.1
  have hb := B.2.1
  obtain ⟨a0, ha0⟩ : ∃ a0, a0 = ad 0 := ⟨_, rfl⟩
  rw [← ha0] at hQ
  have hl : lv_has ls 2 [(0, .ref (ad 0))] := hl
  have L_124 : ∀ (n_ i : Nat) (ad : Nat → Nat) (E : Nat → va_E) (fP fH fT : Nat → Option Nat) (so : Nat → Int32), i ≤ 7 → 7 < n_ + i → (∀ d, d < 360 → so d = if d = 0 then nI i else 0) → offP cI so (nI i) ad E → (E 1 = qA cP 8 fP ∧ ∀ j, j < 8 → fP j = some (ad (8 + 7 * j))) → (E 2 = qA cH 4 fH ∧ ∀ j, j < 4 → fH j = some (ad (64 + 6 * j))) → (E 3 = qA cT 7 fT ∧ ∀ j, j < i → fT j = some (ad (88 + 3 * j))) → (∀ j, j < 8 → perP cI cZ (fun k => ad (8 + 7 * j + k)) (fun k => E (8 + 7 * j + k))) → (∀ j, j < 4 → hhP cI cZ (fun k => ad (64 + 6 * j + k)) (fun k => E (64 + 6 * j + k))) → (∀ j, j < i → rulP cI cZ (ruFi j) (fun k => ad (88 + 3 * j + k)) (fun k => E (88 + 3 * j + k))) → ad 0 = a0 → aI ad (88 + 3 * i) → (∀ k : Nat, k < 88 + 3 * i → A (ad k)) → ∀ (H : Heap) (locs : List Loc) (ls : Array Slot), hH D ad (88 + 3 * i) E H → va_S A s.heap H locs → lv_has ls 2 [(1, .int (nI i)), (0, .ref (ad 0))] → W p l e (rmk 5 108 10656) s m args below meth c H locs (87 + 3 * i) (8031 + 375 * i) Q (F0 m 124 ls []) := by
    intro n_
    induction n_ with
    | zero =>
      intro i ad E fP fH fT so hi hn
      omega
    | succ n_ ih =>
      intro i ad E fP fH fT so hi hn hso hO hfP hfH hfT hper hhh hru ha0 hI hA H locs ls hW hS hl
      refine lv_iload_n hx hb dX5_init_124 rfl (lv_at hl 0 rfl) ?_
      refine lv_bipush (v := nI 7) hx hb dX5_init_125 (by decide) ?_
      refine lv_icmp_ge (tgt := 167) hx hb dX5_init_127 (by decide) (fun c_127 => ?_) (fun c_127 => ?_)
      · have e7 : i = 7 := by have := (nI_leI (by omega) (by omega)).mp c_127; omega
        subst e7
        exact e_g hQ B hr hlk hS ha0 hI hA hW dX5_init_167 (Nat.le_of_ble_eq_true rfl) (Nat.le_of_ble_eq_true rfl) ⟨so, fP, fH, fT, hso, hO, hfP, hfH, hfT, hper, hhh, hru⟩
      · have hi7 : i < 7 := Nat.lt_of_not_le (fun q => c_127 ((nI_leI (by omega) (by omega)).mpr q))
        refine lv_aload_n hx hb dX5_init_130 rfl (lv_at hl 1 rfl) ?_
        refine gfX5_23 B hT hW (by omega) hO.1 rfl dX5_init_131 ?_
        refine lv_iload_n hx hb dX5_init_134 rfl (lv_at hl 0 rfl) ?_
        refine g_new (ci := 4) B hI hA hAn hW hS inlX4 tyX4 tyX4_ok (r1_in _ (List.mem_of_getElem? (i := 13) rfl)) (r2_in _ (List.mem_of_getElem? (i := 6) rfl)) (r2_in _ (List.mem_of_getElem? (i := 7) rfl)) (fs := [.int 0, .null, .null]) rfl (fun j hj => by rcases (show j = 0 ∨ j = 1 ∨ j = 2 by omega) with rfl | rfl | rfl <;> rfl) (by show _ ≤ 108; omega) (by show _ ≤ 10656; omega) dX5_init_135 (fun ad1 E1 H ha hE h9 hI1 hA1 hW1 hS => ?_)
        refine lv_dup hx hb dX5_init_138 rfl ?_
        refine lv_iconst (v := 0) hx hb dX5_init_139 (by decide) ?_
        refine g_cv (g_runI (As := [.int 0]) (rest := [.ref (ad1 (88 + 3 * i)), .int (nI i), .ref (ad 3)]) B hT hX hAn hA1 hW1 hS (o := 88 + 3 * i) (by omega) (fun sz => ct_tl hti htz 0 (ad := fun k => ad1 (88 + 3 * i + k)) (E := fun k => E1 (88 + 3 * i + k)) h9 sz) (ciX5_50 B.2.2.2.2.1 ⟨Nat.le_of_ble_eq_true rfl, Nat.le_of_ble_eq_true rfl⟩) rfl hl.1 (Nat.le_of_ble_eq_true rfl) dX5_init_140 ⟨by show _ ≤ 108; omega, by show _ ≤ 10656; omega⟩) hI1 hA1 hAn hW1 hS rfl rfl (fun ad2 E2 H locs ha2 hE2 hp hI2 hA2 hW2 hS => ?_)
        have hak : ∀ k : Nat, k < 88 + 3 * i → ad2 k = ad k := fun k hk => (ha2 k (by omega)).trans (ha k hk)
        have hEk : ∀ k : Nat, k < 88 + 3 * i → E2 k = E k := fun k hk => (hE2 k hk).trans (hE k hk)
        rw [← ha2 (88 + 3 * i) (by omega)]
        rw [← hak 3 (by omega)]
        rw [← hak 0 (by omega)] at hl ha0
        have hq : E2 3 = .inl (cT, 7, .inr (.inr (.inr (.inr fT)))) := (hEk 3 (by omega)).trans hfT.1
        refine g_aast B hI2 hA2 hW2 hS (r := (RX4, TX4, 3)) 4 htt (k := 3) (k9 := 88 + 3 * i) (j := i) (by omega) hq (by omega) (show E2 (88 + 3 * i) = _ from hp.1) rfl (vp_in_nI (by omega) (Nat.le_of_ble_eq_true rfl)) (nI_clamp (by omega)) dX5_init_143 (fun H locs hW hS => ?_)
        obtain ⟨E3, hE0⟩ : ∃ E3, E3 = va_up E2 3 (qA cT 7 (va_up fT i (some (ad2 (88 + 3 * i))))) := ⟨_, rfl⟩
        obtain ⟨h9, hE3⟩ := up_facts hE0
        have hW : hH D ad2 (88 + 3 * i + 3) E3 H := hW.eq hE0.symm
        clear hE0
        have hO2 : offP cI so (nI i) ad2 E3 := hO.cong (fun k hk => hak k (by omega)) (fun k hk _ _ h3 => (hE3 k h3).trans (hEk k (by omega)))
        obtain ⟨hp1, ⟨f, hf, hp2⟩, hp3⟩ := hp
        have hp1 : E3 (88 + 3 * i) = .inr (4, [.int 0, .ref (ad2 (88 + 3 * i + 1)), .ref (ad2 (88 + 3 * i + 2))]) := (hE3 _ (by omega)).trans hp1
        have hp2 : E3 (88 + 3 * i + 1) = .inl (cI, 360, .inl f) := (hE3 _ (by omega)).trans hp2
        have hp3 : E3 (88 + 3 * i + 2) = .inl (cI, 12, .inl (pkb (fun _ => 0))) := (hE3 _ (by omega)).trans hp3
        refine lv_aload_n hx hb dX5_init_144 rfl (lv_at hl 1 rfl) ?_
        refine lv_aload_n hx hb dX5_init_145 rfl (lv_at hl 1 rfl) ?_
        refine gfX5_23 B hT hW (by omega) hO2.1 rfl dX5_init_146 ?_
        refine lv_iload_n hx hb dX5_init_149 rfl (lv_at hl 0 rfl) ?_
        refine b_aald B hW 4 htt (j := i) (by omega) h9 (vp_in_nI (by omega) (Nat.le_of_ble_eq_true rfl)) (nI_clamp (by omega)) (va_up_self _ _ _) dX5_init_150 ?_
        refine b_tabI B hX.2.2.2 hS (r2_in _ (List.mem_of_getElem? (i := 8) rfl)) dX5_init_151 (fun t_151 ht_151 => ?_)
        refine lv_iload_n hx hb dX5_init_154 rfl (lv_at hl 0 rfl) ?_
        refine va_ti hx hb ht_151 hS (vp_in_nI hi7 (Nat.le_of_ble_eq_true rfl)) (v := .int (ruFi i)) (by show Value.int (ruFi _) = _; rw [nI_clamp (by omega)]) dX5_init_155 ?_
        refine lv_iconst (v := nI 0) hx hb dX5_init_156 (by decide) ?_
        refine g_ci (g_runV (As := [.ref (ad2 (88 + 3 * i)), .int (ruFi i), .int (nI 0)]) (rest := []) B hT hX hAn hA2 hW hS (k := 0) (fun sz => mt_tell0 hI2 (88 + 3 * i) (88 + 3 * i + 1) (88 + 3 * i + 2) f so (nI i) (ruFi i) hti htz (by omega) (by omega) (by omega) (by omega) hO2.1 hO2.2.1 hp1 hp2 hp3 sz) (cwX5_56 B.2.2.2.2.1 ⟨Nat.le_of_ble_eq_true rfl, Nat.le_of_ble_eq_true rfl⟩) (b_recv B hW (by omega) hO2.1 rfl) rfl hl.1 (Nat.le_of_ble_eq_true rfl) dX5_init_157 ⟨by show _ ≤ 108; omega, by show _ ≤ 10656; omega⟩) hA2 hAn hS (fun r_157 E4 H locs hp_157 hW hS => ?_)
        obtain ⟨-, hE4⟩ := hp_157
        refine lv_pop hx hb dX5_init_160 rfl ?_
        refine lv_iinc (v := nI (i + 1)) (lv' := [(1, .int (nI (i + 1))), (0, .ref (ad2 0))]) hx hb dX5_init_161 hl (k := 0) rfl (nI_1 i) (by decide) rfl (fun ls hl => ?_)
        refine lv_goto (tgt := 124) hx hb dX5_init_164 (by decide) ?_
        refine W.widen (k := 87 + 3 * (i + 1)) (n := 8031 + 375 * (i + 1)) (by omega) (by omega) ?_
        have e3 : 88 + 3 * (i + 1) = 88 + 3 * i + 3 := by omega
        have q0 : E4 0 = .inr (5, [.ref (ad2 1), .ref (ad2 2), .ref (ad2 3), .int 0, .int 0, .ref (ad2 4), .int (nI i + 1), .int 0, .int 0, .long 0, .long 0, .ref (ad2 5), .ref (ad2 6), .ref (ad2 7)]) := by rw [hE4, va_up_ne _ _ (by omega), va_up_ne _ _ (by omega), va_up_self]
        have q4 : E4 4 = .inl (cI, 360, .inl (upd so 0 ((so 0) + 1))) := by rw [hE4, va_up_ne _ _ (by omega), va_up_ne _ _ (by omega), va_up_ne _ _ (by omega), va_up_self]
        have qt : E4 (88 + 3 * i + 2) = .inl (cI, 12, .inl (pkb (upd (fun _ => 0) 0 1))) := by rw [hE4, va_up_ne _ _ (by omega), va_up_self]
        have qv : E4 (88 + 3 * i + 1) = .inl (cI, 360, .inl (tellV f (fun _ => 0) 0 (ruFi i))) := by rw [hE4, va_up_self]
        have qo : ∀ k : Nat, k ≠ 0 → k ≠ 4 → k ≠ 88 + 3 * i + 1 → k ≠ 88 + 3 * i + 2 → E4 k = E3 k := fun k k0 k4 k1 k2 => by rw [hE4, va_up_ne _ _ k1, va_up_ne _ _ k2, va_up_ne _ _ k0, va_up_ne _ _ k4]
        rw [nI_1 i] at q0
        refine ih (i + 1) ad2 E4 fP fH (va_up fT i (some (ad2 (88 + 3 * i)))) (upd so 0 ((so 0) + 1)) (by omega) (by omega) (fun d hd => ?_) ⟨q0, q4, (qo 5 (by omega) (by omega) (by omega) (by omega)).trans hO2.2.2.1, (qo 6 (by omega) (by omega) (by omega) (by omega)).trans hO2.2.2.2.1, (qo 7 (by omega) (by omega) (by omega) (by omega)).trans hO2.2.2.2.2⟩ ⟨(qo 1 (by omega) (by omega) (by omega) (by omega)).trans ((hE3 1 (by omega)).trans ((hEk 1 (by omega)).trans hfP.1)), fun j hj => by rw [hak _ (by omega)]; exact hfP.2 j hj⟩ ⟨(qo 2 (by omega) (by omega) (by omega) (by omega)).trans ((hE3 2 (by omega)).trans ((hEk 2 (by omega)).trans hfH.1)), fun j hj => by rw [hak _ (by omega)]; exact hfH.2 j hj⟩ ⟨(qo 3 (by omega) (by omega) (by omega) (by omega)).trans h9, fun j hj => ?_⟩ (fun j hj => (hper j hj).cong (fun k hk => hak _ (by omega)) (fun k hk => (qo _ (by omega) (by omega) (by omega) (by omega)).trans ((hE3 _ (by omega)).trans (hEk _ (by omega))))) (fun j hj => (hhh j hj).cong (fun k hk => hak _ (by omega)) (fun k hk => (qo _ (by omega) (by omega) (by omega) (by omega)).trans ((hE3 _ (by omega)).trans (hEk _ (by omega))))) (fun j hj => ?_) ha0 (by rw [e3]; exact hI2) (by rw [e3]; exact hA2) H locs ls (by rw [e3]; exact hW) hS hl
        · by_cases h0 : d = 0
          · subst h0; rw [pk_us, hso 0 (by omega), if_pos rfl, if_pos rfl, nI_1]
          · rw [pk_un h0, hso d hd, if_neg h0, if_neg h0]
        · by_cases hji : j = i
          · subst hji; exact va_up_self _ _ _
          · rw [va_up_ne _ _ hji, hak _ (by omega)]; exact hfT.2 j (by omega)
        · by_cases hji : j = i
          · subst hji
            exact ⟨(qo _ (by omega) (by omega) (by omega) (by omega)).trans hp1, ⟨_, fun j hj => tell_all hj, qv⟩, qt⟩
          · exact (hru j (by omega)).cong (fun k hk => hak _ (by omega)) (fun k hk => (qo _ (by omega) (by omega) (by omega) (by omega)).trans ((hE3 _ (by omega)).trans (hEk _ (by omega))))
  have L_98 : ∀ (n_ i : Nat) (ad : Nat → Nat) (E : Nat → va_E) (fP fH : Nat → Option Nat), i ≤ 4 → 4 < n_ + i → offP cI (fun _ => 0) 0 ad E → (E 1 = qA cP 8 fP ∧ ∀ j, j < 8 → fP j = some (ad (8 + 7 * j))) → (E 2 = qA cH 4 fH ∧ ∀ j, j < i → fH j = some (ad (64 + 6 * j))) → E 3 = qA cT 7 (fun _ => none) → (∀ j, j < 8 → perP cI cZ (fun k => ad (8 + 7 * j + k)) (fun k => E (8 + 7 * j + k))) → (∀ j, j < i → hhP cI cZ (fun k => ad (64 + 6 * j + k)) (fun k => E (64 + 6 * j + k))) → ad 0 = a0 → aI ad (64 + 6 * i) → (∀ k : Nat, k < 64 + 6 * i → A (ad k)) → ∀ (H : Heap) (locs : List Loc) (ls : Array Slot), hH D ad (64 + 6 * i) E H → va_S A s.heap H locs → lv_has ls 2 [(1, .int (nI i)), (0, .ref (ad 0))] → W p l e (rmk 5 108 10656) s m args below meth c H locs (63 + 6 * i) (6423 + 402 * i) Q (F0 m 98 ls []) := by
    intro n_
    induction n_ with
    | zero =>
      intro i ad E fP fH hi hn
      omega
    | succ n_ ih =>
      intro i ad E fP fH hi hn hO hfP hfH hfT hper hhh ha0 hI hA H locs ls hW hS hl
      refine lv_iload_n hx hb dX5_init_98 rfl (lv_at hl 0 rfl) ?_
      refine lv_iconst (v := nI 4) hx hb dX5_init_99 (by decide) ?_
      refine lv_icmp_ge (tgt := 122) hx hb dX5_init_100 (by decide) (fun c_100 => ?_) (fun c_100 => ?_)
      · have e7 : i = 4 := by have := (nI_leI (by omega) (by omega)).mp c_100; omega
        subst e7
        refine lv_iconst (v := nI 0) hx hb dX5_init_122 (by decide) ?_
        refine lv_istore_n (lv' := [(1, .int (nI 0)), (0, .ref (ad 0))]) hx hb dX5_init_123 rfl hl (by decide) rfl (fun ls hl => ?_)
        exact L_124 8 0 ad E fP fH (fun _ => none) (fun _ => 0) (by omega) (by omega) (fun d _ => by split <;> rfl) hO hfP hfH ⟨hfT, fun j hj => absurd hj (Nat.not_lt_zero _)⟩ hper hhh (fun j hj => absurd hj (Nat.not_lt_zero _)) ha0 hI hA H locs ls hW hS hl
      · have hi7 : i < 4 := Nat.lt_of_not_le (fun q => c_100 ((nI_leI (by omega) (by omega)).mpr q))
        refine lv_aload_n hx hb dX5_init_103 rfl (lv_at hl 1 rfl) ?_
        refine gfX5_17 B hT hW (by omega) hO.1 rfl dX5_init_104 ?_
        refine lv_iload_n hx hb dX5_init_107 rfl (lv_at hl 0 rfl) ?_
        refine g_new (ci := 1) B hI hA hAn hW hS inlX1 tyX1 tyX1_ok (r1_in _ (List.mem_of_getElem? (i := 11) rfl)) (r2_in _ (List.mem_of_getElem? (i := 4) rfl)) (r2_in _ (List.mem_of_getElem? (i := 5) rfl)) (fs := [.null, .null, .null]) rfl (fun j hj => by rcases (show j = 0 ∨ j = 1 ∨ j = 2 by omega) with rfl | rfl | rfl <;> rfl) (by show _ ≤ 108; omega) (by show _ ≤ 10656; omega) dX5_init_108 (fun ad1 E1 H ha hE h9 hI1 hA1 hW1 hS => ?_)
        refine lv_dup hx hb dX5_init_111 rfl ?_
        refine g_cv (g_runIN (As := []) (rest := [.ref (ad1 (64 + 6 * i)), .int (nI i), .ref (ad 2)]) B hT hX hAn hA1 hW1 hS (o := 64 + 6 * i) (by omega) (fun sz => ct_hh hti htz (ad := fun k => ad1 (64 + 6 * i + k)) (E := fun k => E1 (64 + 6 * i + k)) h9 sz) (ciX5_49 B.2.2.2.2.1 ⟨Nat.le_of_ble_eq_true rfl, Nat.le_of_ble_eq_true rfl⟩ hT) rfl hl.1 (Nat.le_of_ble_eq_true rfl) dX5_init_112 ⟨by show _ ≤ 108; omega, by show _ ≤ 10656; omega⟩) hI1 hA1 hAn hW1 hS rfl rfl (fun ad2 E2 H locs ha2 hE2 hp hI2 hA2 hW2 hS => ?_)
        have hak : ∀ k : Nat, k < 64 + 6 * i → ad2 k = ad k := fun k hk => (ha2 k (by omega)).trans (ha k hk)
        have hEk : ∀ k : Nat, k < 64 + 6 * i → E2 k = E k := fun k hk => (hE2 k hk).trans (hE k hk)
        rw [← ha2 (64 + 6 * i) (by omega)]
        rw [← hak 2 (by omega)]
        rw [← hak 0 (by omega)] at hl ha0
        have hq : E2 2 = .inl (cH, 4, .inr (.inr (.inr (.inr fH)))) := (hEk 2 (by omega)).trans hfH.1
        refine g_aast B hI2 hA2 hW2 hS (r := (RX1, TX1, 3)) 2 hth (k := 2) (k9 := 64 + 6 * i) (j := i) (by omega) hq (by omega) (show E2 (64 + 6 * i) = _ from hp.1) rfl (vp_in_nI (by omega) (Nat.le_of_ble_eq_true rfl)) (nI_clamp (by omega)) dX5_init_115 (fun H locs hW hS => ?_)
        obtain ⟨E3, hE0⟩ : ∃ E3, E3 = va_up E2 2 (qA cH 4 (va_up fH i (some (ad2 (64 + 6 * i))))) := ⟨_, rfl⟩
        obtain ⟨h9, hE3⟩ := up_facts hE0
        have hW : hH D ad2 (64 + 6 * i + 6) E3 H := hW.eq hE0.symm
        clear hE0
        refine lv_iinc (v := nI (i + 1)) (lv' := [(1, .int (nI (i + 1))), (0, .ref (ad2 0))]) hx hb dX5_init_116 hl (k := 0) rfl (nI_1 i) (by decide) rfl (fun ls hl => ?_)
        refine lv_goto (tgt := 98) hx hb dX5_init_119 (by decide) ?_
        refine W.widen (k := 63 + 6 * (i + 1)) (n := 6423 + 402 * (i + 1)) (by omega) (by omega) ?_
        have e3 : 64 + 6 * (i + 1) = 64 + 6 * i + 6 := by omega
        refine ih (i + 1) ad2 E3 fP (va_up fH i (some (ad2 (64 + 6 * i)))) (by omega) (by omega) (hO.cong (fun k hk => hak k (by omega)) (fun k hk _ h3 _ => (hE3 k h3).trans (hEk k (by omega)))) ⟨(hE3 1 (by omega)).trans ((hEk 1 (by omega)).trans hfP.1), fun j hj => by rw [hak _ (by omega)]; exact hfP.2 j hj⟩ ⟨h9, fun j hj => ?_⟩ ((hE3 3 (by omega)).trans ((hEk 3 (by omega)).trans hfT)) (fun j hj => (hper j hj).cong (fun k hk => hak _ (by omega)) (fun k hk => (hE3 _ (by omega)).trans (hEk _ (by omega)))) (fun j hj => ?_) ha0 (by rw [e3]; exact hI2) (by rw [e3]; exact hA2) H locs ls (by rw [e3]; exact hW) hS hl
        · by_cases hji : j = i
          · subst hji; exact va_up_self _ _ _
          · rw [va_up_ne _ _ hji, hak _ (by omega)]; exact hfH.2 j (by omega)
        · by_cases hji : j = i
          · subst hji
            exact hp.cong (fun k hk => rfl) (fun k hk => hE3 _ (by omega))
          · exact (hhh j (by omega)).cong (fun k hk => hak _ (by omega)) (fun k hk => (hE3 _ (by omega)).trans (hEk _ (by omega)))
  have L_71 : ∀ (n_ i : Nat) (ad : Nat → Nat) (E : Nat → va_E) (fP : Nat → Option Nat), i ≤ 8 → 8 < n_ + i → offP cI (fun _ => 0) 0 ad E → (E 1 = qA cP 8 fP ∧ ∀ j, j < i → fP j = some (ad (8 + 7 * j))) → E 2 = qA cH 4 (fun _ => none) → E 3 = qA cT 7 (fun _ => none) → (∀ j, j < i → perP cI cZ (fun k => ad (8 + 7 * j + k)) (fun k => E (8 + 7 * j + k))) → ad 0 = a0 → aI ad (8 + 7 * i) → (∀ k : Nat, k < 8 + 7 * i → A (ad k)) → ∀ (H : Heap) (locs : List Loc) (ls : Array Slot), hH D ad (8 + 7 * i) E H → va_S A s.heap H locs → lv_has ls 2 [(1, .int (nI i)), (0, .ref (ad 0))] → W p l e (rmk 5 108 10656) s m args below meth c H locs (7 + 7 * i) (399 + 753 * i) Q (F0 m 71 ls []) := by
    intro n_
    induction n_ with
    | zero =>
      intro i ad E fP hi hn
      omega
    | succ n_ ih =>
      intro i ad E fP hi hn hO hfP hfH hfT hper ha0 hI hA H locs ls hW hS hl
      refine lv_iload_n hx hb dX5_init_71 rfl (lv_at hl 0 rfl) ?_
      refine lv_bipush (v := nI 8) hx hb dX5_init_72 (by decide) ?_
      refine lv_icmp_ge (tgt := 96) hx hb dX5_init_74 (by decide) (fun c_74 => ?_) (fun c_74 => ?_)
      · have e7 : i = 8 := by have := (nI_leI (by omega) (by omega)).mp c_74; omega
        subst e7
        refine lv_iconst (v := nI 0) hx hb dX5_init_96 (by decide) ?_
        refine lv_istore_n (lv' := [(1, .int (nI 0)), (0, .ref (ad 0))]) hx hb dX5_init_97 rfl hl (by decide) rfl (fun ls hl => ?_)
        exact L_98 5 0 ad E fP (fun _ => none) (by omega) (by omega) hO hfP ⟨hfH, fun j hj => absurd hj (Nat.not_lt_zero _)⟩ hfT hper (fun j hj => absurd hj (Nat.not_lt_zero _)) ha0 hI hA H locs ls hW hS hl
      · have hi7 : i < 8 := Nat.lt_of_not_le (fun q => c_74 ((nI_leI (by omega) (by omega)).mpr q))
        refine lv_aload_n hx hb dX5_init_77 rfl (lv_at hl 1 rfl) ?_
        refine gfX5_11 B hT hW (by omega) hO.1 rfl dX5_init_78 ?_
        refine lv_iload_n hx hb dX5_init_81 rfl (lv_at hl 0 rfl) ?_
        refine g_new (ci := 2) B hI hA hAn hW hS inlX2 tyX2 tyX2_ok (r1_in _ (List.mem_of_getElem? (i := 9) rfl)) (r2_in _ (List.mem_of_getElem? (i := 2) rfl)) (r2_in _ (List.mem_of_getElem? (i := 3) rfl)) (fs := [.int 0, .null, .null]) rfl (fun j hj => by rcases (show j = 0 ∨ j = 1 ∨ j = 2 by omega) with rfl | rfl | rfl <;> rfl) (by show _ ≤ 108; omega) (by show _ ≤ 10656; omega) dX5_init_82 (fun ad1 E1 H ha hE h9 hI1 hA1 hW1 hS => ?_)
        refine lv_dup hx hb dX5_init_85 rfl ?_
        refine g_cv (g_runIN (As := []) (rest := [.ref (ad1 (8 + 7 * i)), .int (nI i), .ref (ad 1)]) B hT hX hAn hA1 hW1 hS (o := 8 + 7 * i) (by omega) (fun sz => ct_per hti htz (ad := fun k => ad1 (8 + 7 * i + k)) (E := fun k => E1 (8 + 7 * i + k)) h9 sz) (ciX5_48 B.2.2.2.2.1 ⟨Nat.le_of_ble_eq_true rfl, Nat.le_of_ble_eq_true rfl⟩ hT) rfl hl.1 (Nat.le_of_ble_eq_true rfl) dX5_init_86 ⟨by show _ ≤ 108; omega, by show _ ≤ 10656; omega⟩) hI1 hA1 hAn hW1 hS rfl rfl (fun ad2 E2 H locs ha2 hE2 hp hI2 hA2 hW2 hS => ?_)
        have hak : ∀ k : Nat, k < 8 + 7 * i → ad2 k = ad k := fun k hk => (ha2 k (by omega)).trans (ha k hk)
        have hEk : ∀ k : Nat, k < 8 + 7 * i → E2 k = E k := fun k hk => (hE2 k hk).trans (hE k hk)
        rw [← ha2 (8 + 7 * i) (by omega)]
        rw [← hak 1 (by omega)]
        rw [← hak 0 (by omega)] at hl ha0
        have hq : E2 1 = .inl (cP, 8, .inr (.inr (.inr (.inr fP)))) := (hEk 1 (by omega)).trans hfP.1
        refine g_aast B hI2 hA2 hW2 hS (r := (RX2, TX2, 3)) 3 htp (k := 1) (k9 := 8 + 7 * i) (j := i) (by omega) hq (by omega) (show E2 (8 + 7 * i) = _ from hp.1) rfl (vp_in_nI (by omega) (Nat.le_of_ble_eq_true rfl)) (nI_clamp (by omega)) dX5_init_89 (fun H locs hW hS => ?_)
        obtain ⟨E3, hE0⟩ : ∃ E3, E3 = va_up E2 1 (qA cP 8 (va_up fP i (some (ad2 (8 + 7 * i))))) := ⟨_, rfl⟩
        obtain ⟨h9, hE3⟩ := up_facts hE0
        have hW : hH D ad2 (8 + 7 * i + 7) E3 H := hW.eq hE0.symm
        clear hE0
        refine lv_iinc (v := nI (i + 1)) (lv' := [(1, .int (nI (i + 1))), (0, .ref (ad2 0))]) hx hb dX5_init_90 hl (k := 0) rfl (nI_1 i) (by decide) rfl (fun ls hl => ?_)
        refine lv_goto (tgt := 71) hx hb dX5_init_93 (by decide) ?_
        refine W.widen (k := 7 + 7 * (i + 1)) (n := 399 + 753 * (i + 1)) (by omega) (by omega) ?_
        have e3 : 8 + 7 * (i + 1) = 8 + 7 * i + 7 := by omega
        refine ih (i + 1) ad2 E3 (va_up fP i (some (ad2 (8 + 7 * i)))) (by omega) (by omega) (hO.cong (fun k hk => hak k (by omega)) (fun k hk h3 _ _ => (hE3 k h3).trans (hEk k (by omega)))) ⟨h9, fun j hj => ?_⟩ ((hE3 2 (by omega)).trans ((hEk 2 (by omega)).trans hfH)) ((hE3 3 (by omega)).trans ((hEk 3 (by omega)).trans hfT)) (fun j hj => ?_) ha0 (by rw [e3]; exact hI2) (by rw [e3]; exact hA2) H locs ls (by rw [e3]; exact hW) hS hl
        · by_cases hji : j = i
          · subst hji; exact va_up_self _ _ _
          · rw [va_up_ne _ _ hji, hak _ (by omega)]; exact hfP.2 j (by omega)
        · by_cases hji : j = i
          · subst hji
            exact hp.cong (fun k hk => rfl) (fun k hk => hE3 _ (by omega))
          · exact (hper j (by omega)).cong (fun k hk => hak _ (by omega)) (fun k hk => (hE3 _ (by omega)).trans (hEk _ (by omega)))
  refine lv_aload_n hx hb dX5_init_0 rfl (lv_at hl 0 rfl) ?_
  refine g_obj B hl.1 (r1_in _ (List.mem_of_getElem? (i := 6) rfl)) dX5_init_1 (Nat.le_of_ble_eq_true rfl) (Nat.le_of_ble_eq_true rfl) ?_
  refine lv_aload_n hx hb dX5_init_4 rfl (lv_at hl 0 rfl) ?_
  refine lv_bipush (v := 8) hx hb dX5_init_5 (by decide) ?_
  refine g_newq B hI hA hAn hW hS (C := RX2) (r1_in _ (List.mem_of_getElem? (i := 9) rfl)) hAO.1 3 htp (N' := 8) (by decide) (by decide) (Nat.le_of_ble_eq_true rfl) (Nat.le_of_ble_eq_true rfl) (Nat.le_of_ble_eq_true rfl) dX5_init_7 (fun ad E H ha hE h9 hI hA hW hS => ?_)
  have h_0 := (hE 0 (by omega)).trans h_0
  rw [← ha 0 (by omega)] at hl
  rw [← ha 0 (by omega)]
  rw [← ha 0 (by omega)] at ha0
  have h_1 : E 1 = .inl (cP, 8, .inr (.inr (.inr (.inr (fun _ => none))))) := h9
  have hI : aI ad 2 := hI
  have hA : ∀ k : Nat, k < 2 → A (ad k) := hA
  have hW : hH D ad 2 E H := hW
  refine g_putF (ty := .array (.object "BenefitOffice$Person")) B hnm hI hA hW hS inlX5 tyX5 tyX5_ok nmX5 rfl 0 (by decide) (r1_in _ (List.mem_of_getElem? (i := 10) rfl)) rfl rfl rfl (by decide +kernel) (by omega) h_0 (Nat.le_of_ble_eq_true rfl) rfl rfl dX5_init_10 (fun H locs hW hS => ?_)
  obtain ⟨E, hE0⟩ : ∃ E2, E2 = va_up E 0 (.inr (5, [.ref (ad 1), .null, .null, .int 0, .int 0, .null, .int 0, .int 0, .int 0, .long 0, .long 0, .null, .null, .null])) := ⟨_, rfl⟩
  have hW : hH D ad 2 E H := hW.eq hE0.symm
  obtain ⟨h9, hE⟩ := up_facts hE0
  have h_1 := (hE 1 (by omega)).trans h_1
  have h_0 := h9
  clear hE0 h9 hE
  refine lv_aload_n hx hb dX5_init_13 rfl (lv_at hl 0 rfl) ?_
  refine lv_iconst (v := 4) hx hb dX5_init_14 (by decide) ?_
  refine g_newq B hI hA hAn hW hS (C := RX1) (r1_in _ (List.mem_of_getElem? (i := 11) rfl)) hAO.2.1 2 hth (N' := 4) (by decide) (by decide) (Nat.le_of_ble_eq_true rfl) (Nat.le_of_ble_eq_true rfl) (Nat.le_of_ble_eq_true rfl) dX5_init_15 (fun ad E H ha hE h9 hI hA hW hS => ?_)
  have h_0 := (hE 0 (by omega)).trans h_0
  have h_1 := (hE 1 (by omega)).trans h_1
  rw [← ha 1 (by omega)] at h_0
  rw [← ha 0 (by omega)] at hl
  rw [← ha 0 (by omega)]
  rw [← ha 0 (by omega)] at ha0
  have h_2 : E 2 = .inl (cH, 4, .inr (.inr (.inr (.inr (fun _ => none))))) := h9
  have hI : aI ad 3 := hI
  have hA : ∀ k : Nat, k < 3 → A (ad k) := hA
  have hW : hH D ad 3 E H := hW
  refine g_putF (ty := .array (.object "BenefitOffice$Household")) B hnm hI hA hW hS inlX5 tyX5 tyX5_ok nmX5 rfl 1 (by decide) (r1_in _ (List.mem_of_getElem? (i := 12) rfl)) rfl rfl rfl (by decide +kernel) (by omega) h_0 (Nat.le_of_ble_eq_true rfl) rfl rfl dX5_init_18 (fun H locs hW hS => ?_)
  obtain ⟨E, hE0⟩ : ∃ E2, E2 = va_up E 0 (.inr (5, [.ref (ad 1), .ref (ad 2), .null, .int 0, .int 0, .null, .int 0, .int 0, .int 0, .long 0, .long 0, .null, .null, .null])) := ⟨_, rfl⟩
  have hW : hH D ad 3 E H := hW.eq hE0.symm
  obtain ⟨h9, hE⟩ := up_facts hE0
  have h_1 := (hE 1 (by omega)).trans h_1
  have h_2 := (hE 2 (by omega)).trans h_2
  have h_0 := h9
  clear hE0 h9 hE
  refine lv_aload_n hx hb dX5_init_21 rfl (lv_at hl 0 rfl) ?_
  refine lv_bipush (v := 7) hx hb dX5_init_22 (by decide) ?_
  refine g_newq B hI hA hAn hW hS (C := RX4) (r1_in _ (List.mem_of_getElem? (i := 13) rfl)) hAO.2.2 4 htt (N' := 7) (by decide) (by decide) (Nat.le_of_ble_eq_true rfl) (Nat.le_of_ble_eq_true rfl) (Nat.le_of_ble_eq_true rfl) dX5_init_24 (fun ad E H ha hE h9 hI hA hW hS => ?_)
  have h_0 := (hE 0 (by omega)).trans h_0
  have h_1 := (hE 1 (by omega)).trans h_1
  have h_2 := (hE 2 (by omega)).trans h_2
  rw [← ha 1 (by omega)] at h_0
  rw [← ha 2 (by omega)] at h_0
  rw [← ha 0 (by omega)] at hl
  rw [← ha 0 (by omega)]
  rw [← ha 0 (by omega)] at ha0
  have h_3 : E 3 = .inl (cT, 7, .inr (.inr (.inr (.inr (fun _ => none))))) := h9
  have hI : aI ad 4 := hI
  have hA : ∀ k : Nat, k < 4 → A (ad k) := hA
  have hW : hH D ad 4 E H := hW
  refine g_putF (ty := .array (.object "BenefitOffice$Timeline")) B hnm hI hA hW hS inlX5 tyX5 tyX5_ok nmX5 rfl 2 (by decide) (r1_in _ (List.mem_of_getElem? (i := 14) rfl)) rfl rfl rfl (by decide +kernel) (by omega) h_0 (Nat.le_of_ble_eq_true rfl) rfl rfl dX5_init_27 (fun H locs hW hS => ?_)
  obtain ⟨E, hE0⟩ : ∃ E2, E2 = va_up E 0 (.inr (5, [.ref (ad 1), .ref (ad 2), .ref (ad 3), .int 0, .int 0, .null, .int 0, .int 0, .int 0, .long 0, .long 0, .null, .null, .null])) := ⟨_, rfl⟩
  have hW : hH D ad 4 E H := hW.eq hE0.symm
  obtain ⟨h9, hE⟩ := up_facts hE0
  have h_1 := (hE 1 (by omega)).trans h_1
  have h_2 := (hE 2 (by omega)).trans h_2
  have h_3 := (hE 3 (by omega)).trans h_3
  have h_0 := h9
  clear hE0 h9 hE
  refine lv_aload_n hx hb dX5_init_30 rfl (lv_at hl 0 rfl) ?_
  refine lv_sipush (v := 360) hx hb dX5_init_31 (by decide) ?_
  refine g_newa B hI hA hAn hW hS (atype := .int) (ty := .int) rfl (r1_in _ (List.mem_of_getElem? (i := 15) rfl)) 0 hti (N' := 360) (a0 := (360, .inl (fun _ => 0))) (fun _ => rfl) (by decide) (by decide) (Nat.le_of_ble_eq_true rfl) (Nat.le_of_ble_eq_true rfl) (Nat.le_of_ble_eq_true rfl) dX5_init_34 (fun ad E H ha hE h9 hI hA hW hS => ?_)
  have h_0 := (hE 0 (by omega)).trans h_0
  have h_1 := (hE 1 (by omega)).trans h_1
  have h_2 := (hE 2 (by omega)).trans h_2
  have h_3 := (hE 3 (by omega)).trans h_3
  rw [← ha 1 (by omega)] at h_0
  rw [← ha 2 (by omega)] at h_0
  rw [← ha 3 (by omega)] at h_0
  rw [← ha 0 (by omega)] at hl
  rw [← ha 0 (by omega)]
  rw [← ha 0 (by omega)] at ha0
  have h_4 : E 4 = .inl (cI, 360, .inl (fun _ => 0)) := h9
  have hI : aI ad 5 := hI
  have hA : ∀ k : Nat, k < 5 → A (ad k) := hA
  have hW : hH D ad 5 E H := hW
  refine g_putF (ty := .array .int) B hnm hI hA hW hS inlX5 tyX5 tyX5_ok nmX5 rfl 5 (by decide) (r1_in _ (List.mem_of_getElem? (i := 16) rfl)) rfl rfl rfl (by decide +kernel) (by omega) h_0 (Nat.le_of_ble_eq_true rfl) rfl rfl dX5_init_36 (fun H locs hW hS => ?_)
  obtain ⟨E, hE0⟩ : ∃ E2, E2 = va_up E 0 (.inr (5, [.ref (ad 1), .ref (ad 2), .ref (ad 3), .int 0, .int 0, .ref (ad 4), .int 0, .int 0, .int 0, .long 0, .long 0, .null, .null, .null])) := ⟨_, rfl⟩
  have hW : hH D ad 5 E H := hW.eq hE0.symm
  obtain ⟨h9, hE⟩ := up_facts hE0
  have h_1 := (hE 1 (by omega)).trans h_1
  have h_2 := (hE 2 (by omega)).trans h_2
  have h_3 := (hE 3 (by omega)).trans h_3
  have h_4 := (hE 4 (by omega)).trans h_4
  have h_0 := h9
  clear hE0 h9 hE
  refine lv_aload_n hx hb dX5_init_39 rfl (lv_at hl 0 rfl) ?_
  refine g_new (ci := 3) B hI hA hAn hW hS inlX3 tyX3 tyX3_ok (r1_in _ (List.mem_of_getElem? (i := 17) rfl)) (r1_in _ (List.mem_of_getElem? (i := 18) rfl)) (r1_in _ (List.mem_of_getElem? (i := 19) rfl)) (fs := [.int 0, .int 0, .int 0]) rfl (fun j hj => by rcases (show j = 0 ∨ j = 1 ∨ j = 2 by omega) with rfl | rfl | rfl <;> rfl) (Nat.le_of_ble_eq_true rfl) (Nat.le_of_ble_eq_true rfl) dX5_init_40 (fun ad E H ha hE h9 hI hA hW hS => ?_)
  have h_0 := (hE 0 (by omega)).trans h_0
  have h_1 := (hE 1 (by omega)).trans h_1
  have h_2 := (hE 2 (by omega)).trans h_2
  have h_3 := (hE 3 (by omega)).trans h_3
  have h_4 := (hE 4 (by omega)).trans h_4
  rw [← ha 1 (by omega)] at h_0
  rw [← ha 2 (by omega)] at h_0
  rw [← ha 3 (by omega)] at h_0
  rw [← ha 4 (by omega)] at h_0
  rw [← ha 0 (by omega)] at hl
  rw [← ha 0 (by omega)]
  rw [← ha 0 (by omega)] at ha0
  have h_5 : E 5 = .inr (3, [.int 0, .int 0, .int 0]) := h9
  have hI : aI ad 6 := hI
  have hA : ∀ k : Nat, k < 6 → A (ad k) := hA
  have hW : hH D ad 6 E H := hW
  refine lv_dup hx hb dX5_init_43 rfl ?_
  refine g_cv (g_runIN (As := []) (rest := [.ref (ad 5), .ref (ad 0)]) B hT hX hAn hA hW hS (o := 5) (by omega) (fun sz => ct_res  (ad := fun k => ad (5 + k)) (E := fun k => E (5 + k)) h_5 sz) (ciX5_33 B.2.2.2.2.1 ⟨Nat.le_of_ble_eq_true rfl, Nat.le_of_ble_eq_true rfl⟩ hT) rfl hl.1 (Nat.le_of_ble_eq_true rfl) dX5_init_44 ⟨Nat.le_of_ble_eq_true rfl, Nat.le_of_ble_eq_true rfl⟩) hI hA hAn hW hS rfl rfl (fun ad E H locs ha hE hp hI hA hW hS => ?_)
  have h_0 := (hE 0 (by omega)).trans h_0
  have h_1 := (hE 1 (by omega)).trans h_1
  have h_2 := (hE 2 (by omega)).trans h_2
  have h_3 := (hE 3 (by omega)).trans h_3
  have h_4 := (hE 4 (by omega)).trans h_4
  rw [← ha 1 (by omega)] at h_0
  rw [← ha 2 (by omega)] at h_0
  rw [← ha 3 (by omega)] at h_0
  rw [← ha 4 (by omega)] at h_0
  rw [← ha 0 (by omega)] at hl
  rw [← ha 5 (by omega)]
  rw [← ha 0 (by omega)]
  rw [← ha 0 (by omega)] at ha0
  have hI : aI ad 6 := hI
  have hA : ∀ k : Nat, k < 6 → A (ad k) := hA
  have hW : hH D ad 6 E H := hW
  have h_5 : E 5 = .inr (3, [.int 0, .int 0, .int 0]) := hp
  refine g_putF (ty := .object "BenefitOffice$Residents") B hnm hI hA hW hS inlX5 tyX5 tyX5_ok nmX5 rfl 11 (by decide) (r1_in _ (List.mem_of_getElem? (i := 20) rfl)) rfl rfl rfl (by decide +kernel) (by omega) h_0 (Nat.le_of_ble_eq_true rfl) rfl rfl dX5_init_47 (fun H locs hW hS => ?_)
  obtain ⟨E, hE0⟩ : ∃ E2, E2 = va_up E 0 (.inr (5, [.ref (ad 1), .ref (ad 2), .ref (ad 3), .int 0, .int 0, .ref (ad 4), .int 0, .int 0, .int 0, .long 0, .long 0, .ref (ad 5), .null, .null])) := ⟨_, rfl⟩
  have hW : hH D ad 6 E H := hW.eq hE0.symm
  obtain ⟨h9, hE⟩ := up_facts hE0
  have h_1 := (hE 1 (by omega)).trans h_1
  have h_2 := (hE 2 (by omega)).trans h_2
  have h_3 := (hE 3 (by omega)).trans h_3
  have h_4 := (hE 4 (by omega)).trans h_4
  have h_5 := (hE 5 (by omega)).trans h_5
  have h_0 := h9
  clear hE0 h9 hE
  refine lv_aload_n hx hb dX5_init_50 rfl (lv_at hl 0 rfl) ?_
  refine g_new (ci := 0) B hI hA hAn hW hS inlX0 tyX0 tyX0_ok (r1_in _ (List.mem_of_getElem? (i := 21) rfl)) (r1_in _ (List.mem_of_getElem? (i := 22) rfl)) (r1_in _ (List.mem_of_getElem? (i := 23) rfl)) (fs := [.int 0, .int 0, .int 0, .int 0, .int 0]) rfl (fun j hj => by rcases (show j = 0 ∨ j = 1 ∨ j = 2 ∨ j = 3 ∨ j = 4 by omega) with rfl | rfl | rfl | rfl | rfl <;> rfl) (Nat.le_of_ble_eq_true rfl) (Nat.le_of_ble_eq_true rfl) dX5_init_51 (fun ad E H ha hE h9 hI hA hW hS => ?_)
  have h_0 := (hE 0 (by omega)).trans h_0
  have h_1 := (hE 1 (by omega)).trans h_1
  have h_2 := (hE 2 (by omega)).trans h_2
  have h_3 := (hE 3 (by omega)).trans h_3
  have h_4 := (hE 4 (by omega)).trans h_4
  have h_5 := (hE 5 (by omega)).trans h_5
  rw [← ha 1 (by omega)] at h_0
  rw [← ha 2 (by omega)] at h_0
  rw [← ha 3 (by omega)] at h_0
  rw [← ha 4 (by omega)] at h_0
  rw [← ha 5 (by omega)] at h_0
  rw [← ha 0 (by omega)] at hl
  rw [← ha 0 (by omega)]
  rw [← ha 0 (by omega)] at ha0
  have h_6 : E 6 = .inr (0, [.int 0, .int 0, .int 0, .int 0, .int 0]) := h9
  have hI : aI ad 7 := hI
  have hA : ∀ k : Nat, k < 7 → A (ad k) := hA
  have hW : hH D ad 7 E H := hW
  refine lv_dup hx hb dX5_init_54 rfl ?_
  refine g_cv (g_runIN (As := []) (rest := [.ref (ad 6), .ref (ad 0)]) B hT hX hAn hA hW hS (o := 6) (by omega) (fun sz => ct_am  (ad := fun k => ad (6 + k)) (E := fun k => E (6 + k)) h_6 sz) (ciX5_40 B.2.2.2.2.1 ⟨Nat.le_of_ble_eq_true rfl, Nat.le_of_ble_eq_true rfl⟩ hT) rfl hl.1 (Nat.le_of_ble_eq_true rfl) dX5_init_55 ⟨Nat.le_of_ble_eq_true rfl, Nat.le_of_ble_eq_true rfl⟩) hI hA hAn hW hS rfl rfl (fun ad E H locs ha hE hp hI hA hW hS => ?_)
  have h_0 := (hE 0 (by omega)).trans h_0
  have h_1 := (hE 1 (by omega)).trans h_1
  have h_2 := (hE 2 (by omega)).trans h_2
  have h_3 := (hE 3 (by omega)).trans h_3
  have h_4 := (hE 4 (by omega)).trans h_4
  have h_5 := (hE 5 (by omega)).trans h_5
  rw [← ha 1 (by omega)] at h_0
  rw [← ha 2 (by omega)] at h_0
  rw [← ha 3 (by omega)] at h_0
  rw [← ha 4 (by omega)] at h_0
  rw [← ha 5 (by omega)] at h_0
  rw [← ha 0 (by omega)] at hl
  rw [← ha 6 (by omega)]
  rw [← ha 0 (by omega)]
  rw [← ha 0 (by omega)] at ha0
  have hI : aI ad 7 := hI
  have hA : ∀ k : Nat, k < 7 → A (ad k) := hA
  have hW : hH D ad 7 E H := hW
  have h_6 : E 6 = .inr (0, [.int 0, .int 0, .int 0, .int 0, .int 0]) := hp
  refine g_putF (ty := .object "BenefitOffice$Amounts") B hnm hI hA hW hS inlX5 tyX5 tyX5_ok nmX5 rfl 12 (by decide) (r2_in _ (List.mem_of_getElem? (i := 0) rfl)) rfl rfl rfl (by decide +kernel) (by omega) h_0 (Nat.le_of_ble_eq_true rfl) rfl rfl dX5_init_58 (fun H locs hW hS => ?_)
  obtain ⟨E, hE0⟩ : ∃ E2, E2 = va_up E 0 (.inr (5, [.ref (ad 1), .ref (ad 2), .ref (ad 3), .int 0, .int 0, .ref (ad 4), .int 0, .int 0, .int 0, .long 0, .long 0, .ref (ad 5), .ref (ad 6), .null])) := ⟨_, rfl⟩
  have hW : hH D ad 7 E H := hW.eq hE0.symm
  obtain ⟨h9, hE⟩ := up_facts hE0
  have h_1 := (hE 1 (by omega)).trans h_1
  have h_2 := (hE 2 (by omega)).trans h_2
  have h_3 := (hE 3 (by omega)).trans h_3
  have h_4 := (hE 4 (by omega)).trans h_4
  have h_5 := (hE 5 (by omega)).trans h_5
  have h_6 := (hE 6 (by omega)).trans h_6
  have h_0 := h9
  clear hE0 h9 hE
  refine lv_aload_n hx hb dX5_init_61 rfl (lv_at hl 0 rfl) ?_
  refine lv_bipush (v := 12) hx hb dX5_init_62 (by decide) ?_
  refine g_newa B hI hA hAn hW hS (atype := .int) (ty := .int) rfl (r1_in _ (List.mem_of_getElem? (i := 15) rfl)) 0 hti (N' := 12) (a0 := (12, .inl (fun _ => 0))) (fun _ => rfl) (by decide) (by decide) (Nat.le_of_ble_eq_true rfl) (Nat.le_of_ble_eq_true rfl) (Nat.le_of_ble_eq_true rfl) dX5_init_64 (fun ad E H ha hE h9 hI hA hW hS => ?_)
  have h_0 := (hE 0 (by omega)).trans h_0
  have h_1 := (hE 1 (by omega)).trans h_1
  have h_2 := (hE 2 (by omega)).trans h_2
  have h_3 := (hE 3 (by omega)).trans h_3
  have h_4 := (hE 4 (by omega)).trans h_4
  have h_5 := (hE 5 (by omega)).trans h_5
  have h_6 := (hE 6 (by omega)).trans h_6
  rw [← ha 1 (by omega)] at h_0
  rw [← ha 2 (by omega)] at h_0
  rw [← ha 3 (by omega)] at h_0
  rw [← ha 4 (by omega)] at h_0
  rw [← ha 5 (by omega)] at h_0
  rw [← ha 6 (by omega)] at h_0
  rw [← ha 0 (by omega)] at hl
  rw [← ha 0 (by omega)]
  rw [← ha 0 (by omega)] at ha0
  have h_7 : E 7 = .inl (cI, 12, .inl (fun _ => 0)) := h9
  have hI : aI ad 8 := hI
  have hA : ∀ k : Nat, k < 8 → A (ad k) := hA
  have hW : hH D ad 8 E H := hW
  refine g_putF (ty := .array .int) B hnm hI hA hW hS inlX5 tyX5 tyX5_ok nmX5 rfl 13 (by decide) (r2_in _ (List.mem_of_getElem? (i := 1) rfl)) rfl rfl rfl (by decide +kernel) (by omega) h_0 (Nat.le_of_ble_eq_true rfl) rfl rfl dX5_init_66 (fun H locs hW hS => ?_)
  obtain ⟨E, hE0⟩ : ∃ E2, E2 = va_up E 0 (.inr (5, [.ref (ad 1), .ref (ad 2), .ref (ad 3), .int 0, .int 0, .ref (ad 4), .int 0, .int 0, .int 0, .long 0, .long 0, .ref (ad 5), .ref (ad 6), .ref (ad 7)])) := ⟨_, rfl⟩
  have hW : hH D ad 8 E H := hW.eq hE0.symm
  obtain ⟨h9, hE⟩ := up_facts hE0
  have h_1 := (hE 1 (by omega)).trans h_1
  have h_2 := (hE 2 (by omega)).trans h_2
  have h_3 := (hE 3 (by omega)).trans h_3
  have h_4 := (hE 4 (by omega)).trans h_4
  have h_5 := (hE 5 (by omega)).trans h_5
  have h_6 := (hE 6 (by omega)).trans h_6
  have h_7 := (hE 7 (by omega)).trans h_7
  have h_0 := h9
  clear hE0 h9 hE
  refine lv_iconst (v := nI 0) hx hb dX5_init_69 (by decide) ?_
  refine lv_istore_n (lv' := [(1, .int (nI 0)), (0, .ref (ad 0))]) hx hb dX5_init_70 rfl hl (by decide) rfl (fun ls hl => ?_)
  exact L_71 9 0 ad E (fun _ => none) (by omega) (by omega) ⟨h_0, h_4, h_5, h_6, h_7⟩ ⟨h_1, fun j hj => absurd hj (Nat.not_lt_zero _)⟩ h_2 h_3 (fun j hj => absurd hj (Nat.not_lt_zero _)) ha0.symm hI hA _ _ _ hW hS hl
