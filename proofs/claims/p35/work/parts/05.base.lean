/-! ===== THE BASE LAYER: one world (addresses ad 0 .. ad (N-1), contents E), one word list (wsL_law), one context ===== -/
abbrev cls7 : List vw_C := [(RX0, TX0, 5), (RX1, TX1, 3), (RX2, TX2, 3), (RX3, TX3, 3), (RX4, TX4, 3), (RX5, TX5, 14)]
def hH (D : va_G) (ad : Nat → Nat) (N : Nat) (E : Nat → va_E) (H : Heap) : Prop := ∀ k : Nat, k < N → va_at D cls7 (ad k, E k) H
def aI (ad : Nat → Nat) (N : Nat) : Prop := ∀ i j : Nat, i < N → j < N → ad i = ad j → i = j
def cA (ad : Nat → Nat) (N sz : Nat) : Nat → Prop := fun q => (∃ k : Nat, k < N ∧ ad k = q) ∨ sz ≤ q
def wl (ad : Nat → Nat) (E : Nat → va_E) (N : Nat) : va_W := (List.range N).map (fun k => (ad k, E k))
theorem wl_len {ad : Nat → Nat} {E : Nat → va_E} {N : Nat} : (wl ad E N).length = N := by simp [wl]
theorem wl_get {ad : Nat → Nat} {E : Nat → va_E} {N k : Nat} (h : k < N) : (wl ad E N)[k]? = some (ad k, E k) := by simp [wl, h]
theorem wl_of {ad : Nat → Nat} {E : Nat → va_E} {N k : Nat} {q : Nat × va_E} (h : (wl ad E N)[k]? = some q) : k < N ∧ q = (ad k, E k) := by
  have hk : k < N := by
    have hl := (List.getElem?_eq_some_iff.mp h).1
    rw [wl_len] at hl
    exact hl
  rw [wl_get hk] at h
  exact ⟨hk, (Option.some.inj h).symm⟩
theorem hH.toP {D : va_G} {ad : Nat → Nat} {N : Nat} {E : Nat → va_E} {H : Heap} (h : hH D ad N E H) : va_P D cls7 (wl ad E N) H := fun k q hk => by
  obtain ⟨h1, rfl⟩ := wl_of hk
  exact h k h1
theorem wl_D {ad : Nat → Nat} {N : Nat} {E : Nat → va_E} {A : Nat → Prop} (hI : aI ad N) (hA : ∀ k : Nat, k < N → A (ad k)) : va_D A (wl ad E N) := by
  refine ⟨fun i j p q hi hj e => ?_, fun k q hk => ?_⟩
  · obtain ⟨h1, rfl⟩ := wl_of hi
    obtain ⟨h2, rfl⟩ := wl_of hj
    exact hI i j h1 h2 e
  · obtain ⟨h1, rfl⟩ := wl_of hk
    exact hA k h1
theorem hH.ofSet {D : va_G} {ad : Nat → Nat} {N : Nat} {E : Nat → va_E} {H : Heap} {k : Nat} {e : va_E} (h : va_P D cls7 ((wl ad E N).set k (ad k, e)) H) : hH D ad N (va_up E k e) H := by
  intro j hj
  refine h j (ad j, va_up E k e j) ?_
  by_cases hjk : j = k
  · subst hjk
    rw [List.getElem?_set_self (by rw [wl_len]; exact hj)]
    simp [va_up]
  · rw [List.getElem?_set_ne (Ne.symm hjk), wl_get hj]
    simp [va_up, hjk]
theorem hH.one {D : va_G} {ad : Nat → Nat} {N : Nat} {E : Nat → va_E} {H : Heap} (h : hH D ad N E H) {k : Nat} (hk : k < N) {e : va_E} (he : E k = e) : va_P D cls7 [(ad k, e)] H := by
  subst he
  intro j q hj
  cases j with
  | zero => cases hj; exact h k hk
  | succ j => simp at hj
theorem hH.kept {D : va_G} {ad : Nat → Nat} {N : Nat} {E : Nat → va_E} {H H1 : Heap} (h : hH D ad N E H) (hq : ∀ k : Nat, k < N → H1[ad k]? = H[ad k]?) : hH D ad N E H1 := fun k hk => (h k hk).kept (hq k hk)
theorem hH.lt {D : va_G} {ad : Nat → Nat} {N : Nat} {E : Nat → va_E} {H : Heap} (h : hH D ad N E H) {k : Nat} (hk : k < N) : ad k < H.size := (h k hk).lt
theorem cA.in_ {ad : Nat → Nat} {N sz k : Nat} (hk : k < N) : cA ad N sz (ad k) := Or.inl ⟨k, hk, rfl⟩
theorem cA.up {ad : Nat → Nat} {N sz sz' : Nat} (h : sz ≤ sz') : ∀ q : Nat, cA ad N sz' q → cA ad N sz q := fun q hq => hq.elim Or.inl (fun h2 => Or.inr (Nat.le_trans h h2))
/-! the words -/
theorem wsL_good : ∀ w ∈ wsL_law, (w.onTables && w.keeps) = true ∨ ∃ ty, w = .arrayClass ty := fun w h => good_of_word (List.all_eq_true.mp (show wsL_law.all goodWord = true by decide +kernel) w h)
theorem gi_self {cw : Cond} (h : cw ∈ wsL_law) : GoodIn wsL_law (cw :: wsL_law) := fun w hw => by
  rcases List.mem_cons.mp hw with rfl | hw
  · exact ⟨h, wsL_good _ h⟩
  · exact ⟨hw, wsL_good _ hw⟩
theorem gi_V {own C : String} {index : Nat} {y : MethodName} {cw : Cond} (h1 : Cond.methodLink own index y ∈ wsL_law) (h2 : Cond.instanceMethod y ∈ wsL_law) (h3 : Cond.selects C y y ∈ wsL_law) (h4 : Cond.initialized C ∈ wsL_law) (h5 : cw ∈ wsL_law) : GoodIn wsL_law (wsV own index C y (cw :: wsL_law)) := fun w hw => by
  unfold wsV at hw
  rcases List.mem_append.mp hw with hw | hw
  · have hm : w ∈ wsL_law := by
      simp only [List.mem_cons, List.not_mem_nil, or_false] at hw
      rcases hw with rfl | rfl | rfl | rfl
      · exact h1
      · exact h2
      · exact h3
      · exact h4
    exact ⟨hm, wsL_good _ hm⟩
  · exact gi_self h5 w hw
theorem gi_S {own : String} {index : Nat} {y : MethodName} {cw : Cond} (h1 : Cond.methodLink own index y ∈ wsL_law) (h2 : Cond.static y ∈ wsL_law) (h4 : Cond.initialized y.cls ∈ wsL_law) (h5 : cw ∈ wsL_law) : GoodIn wsL_law (va_wsS own index y (cw :: wsL_law)) := fun w hw => by
  unfold va_wsS at hw
  rcases List.mem_append.mp hw with hw | hw
  · have hm : w ∈ wsL_law := by
      simp only [List.mem_cons, List.not_mem_nil, or_false] at hw
      rcases hw with rfl | rfl | rfl
      · exact h1
      · exact h2
      · exact h4
    exact ⟨hm, wsL_good _ hm⟩
  · exact gi_self h5 w hw
/-! the context: words that are not carried by a method's list; statics -/
def okN : Cond → Bool
  | .fieldLinkNest .. => true
  | .methodLinkNest .. => true
  | w => w.faceAtom && w.onTables
theorem okN_warm {w : Cond} (hw : okN w = true) {s U : State} (hW : s.WarmedH U.vm) (h : va_Nw w s) : va_Nw w U := by
  cases w with
  | fieldLinkNest a i b n d hh => exact va_Nw.warmF hW h
  | methodLinkNest a i x hh => exact va_Nw.warmM hW h
  | declares x => exact va_tabs rfl (rfl : (s.setVm U.vm).vm = U.vm) (Cond.faceAtom_setVm hW.alike _ rfl h)
  | publicMethod x => exact va_tabs rfl (rfl : (s.setVm U.vm).vm = U.vm) (Cond.faceAtom_setVm hW.alike _ rfl h)
  | privateMethod x => exact va_tabs rfl (rfl : (s.setVm U.vm).vm = U.vm) (Cond.faceAtom_setVm hW.alike _ rfl h)
  | unhidden a b d => exact va_tabs rfl (rfl : (s.setVm U.vm).vm = U.vm) (Cond.faceAtom_setVm hW.alike _ rfl h)
  | castable a b => exact va_tabs rfl (rfl : (s.setVm U.vm).vm = U.vm) (Cond.faceAtom_setVm hW.alike _ rfl h)
  | interfaceMethod r o n d => 
    have h2 : (Cond.interfaceMethod r o n d).faceAtom = true := by
      simp only [okN, Bool.and_eq_true] at hw
      exact hw.1
    exact va_tabs rfl (rfl : (s.setVm U.vm).vm = U.vm) (Cond.faceAtom_setVm hW.alike _ h2 h)
  | _ => simp [okN, Cond.faceAtom] at hw

/-! where a word stands in the list -/
theorem l0_in : ∀ w ∈ wsL_law0, w ∈ wsL_law := fun w h => List.mem_append_left _ (List.mem_append_left _ (List.mem_append_left _ (List.mem_append_left _ (List.mem_append_left _ (List.mem_append_left _ (List.mem_append_left _ (List.mem_append_left _ (h))))))))
theorem r1_in : ∀ w ∈ wsL_law0_r1, w ∈ wsL_law := fun w h => l0_in w (List.mem_append_left _ (List.mem_append_left _ (List.mem_append_left _ (List.mem_append_left _ (List.mem_append_left _ (List.mem_append_left _ (List.mem_append_left _ (List.mem_append_left _ (h)))))))))
theorem r2_in : ∀ w ∈ wsL_law0_r2, w ∈ wsL_law := fun w h => l0_in w (List.mem_append_left _ (List.mem_append_left _ (List.mem_append_left _ (List.mem_append_left _ (List.mem_append_left _ (List.mem_append_left _ (List.mem_append_left _ (List.mem_append_right _ (List.mem_append_left _ (h))))))))))
theorem r3_in : ∀ w ∈ wsL_law0_r3, w ∈ wsL_law := fun w h => l0_in w (List.mem_append_left _ (List.mem_append_left _ (List.mem_append_left _ (List.mem_append_left _ (List.mem_append_left _ (List.mem_append_left _ (List.mem_append_left _ (List.mem_append_right _ (List.mem_append_right _ (List.mem_append_left _ (h)))))))))))
theorem r4_in : ∀ w ∈ wsL_law0_r4, w ∈ wsL_law := fun w h => l0_in w (List.mem_append_left _ (List.mem_append_left _ (List.mem_append_left _ (List.mem_append_left _ (List.mem_append_left _ (List.mem_append_left _ (List.mem_append_left _ (List.mem_append_right _ (List.mem_append_right _ (List.mem_append_right _ (List.mem_append_left _ (h))))))))))))
theorem r5_in : ∀ w ∈ wsL_law0_r5, w ∈ wsL_law := fun w h => l0_in w (List.mem_append_left _ (List.mem_append_left _ (List.mem_append_left _ (List.mem_append_left _ (List.mem_append_left _ (List.mem_append_left _ (List.mem_append_left _ (List.mem_append_right _ (List.mem_append_right _ (List.mem_append_right _ (List.mem_append_right _ (List.mem_append_left _ (h)))))))))))))
theorem r6_in : ∀ w ∈ wsL_law0_r6, w ∈ wsL_law := fun w h => l0_in w (List.mem_append_left _ (List.mem_append_left _ (List.mem_append_left _ (List.mem_append_left _ (List.mem_append_left _ (List.mem_append_left _ (List.mem_append_left _ (List.mem_append_right _ (List.mem_append_right _ (List.mem_append_right _ (List.mem_append_right _ (List.mem_append_right _ (List.mem_append_left _ (h))))))))))))))
theorem r7_in : ∀ w ∈ wsL_law0_r7, w ∈ wsL_law := fun w h => l0_in w (List.mem_append_left _ (List.mem_append_left _ (List.mem_append_left _ (List.mem_append_left _ (List.mem_append_left _ (List.mem_append_left _ (List.mem_append_left _ (List.mem_append_right _ (List.mem_append_right _ (List.mem_append_right _ (List.mem_append_right _ (List.mem_append_right _ (List.mem_append_right _ (List.mem_append_left _ (h)))))))))))))))
theorem r8_in : ∀ w ∈ wsL_law0_r8, w ∈ wsL_law := fun w h => l0_in w (List.mem_append_left _ (List.mem_append_left _ (List.mem_append_left _ (List.mem_append_left _ (List.mem_append_left _ (List.mem_append_left _ (List.mem_append_left _ (List.mem_append_right _ (List.mem_append_right _ (List.mem_append_right _ (List.mem_append_right _ (List.mem_append_right _ (List.mem_append_right _ (List.mem_append_right _ (List.mem_append_left _ (h))))))))))))))))
theorem r9_in : ∀ w ∈ wsL_law0_r9, w ∈ wsL_law := fun w h => l0_in w (List.mem_append_left _ (List.mem_append_left _ (List.mem_append_left _ (List.mem_append_left _ (List.mem_append_left _ (List.mem_append_left _ (List.mem_append_left _ (List.mem_append_right _ (List.mem_append_right _ (List.mem_append_right _ (List.mem_append_right _ (List.mem_append_right _ (List.mem_append_right _ (List.mem_append_right _ (List.mem_append_right _ (List.mem_append_left _ (h)))))))))))))))))
theorem r10_in : ∀ w ∈ wsL_law0_r10, w ∈ wsL_law := fun w h => l0_in w (List.mem_append_left _ (List.mem_append_left _ (List.mem_append_left _ (List.mem_append_left _ (List.mem_append_left _ (List.mem_append_left _ (List.mem_append_left _ (List.mem_append_right _ (List.mem_append_right _ (List.mem_append_right _ (List.mem_append_right _ (List.mem_append_right _ (List.mem_append_right _ (List.mem_append_right _ (List.mem_append_right _ (List.mem_append_right _ (List.mem_append_left _ (h))))))))))))))))))
theorem r11_in : ∀ w ∈ wsL_law0_r11, w ∈ wsL_law := fun w h => l0_in w (List.mem_append_left _ (List.mem_append_left _ (List.mem_append_left _ (List.mem_append_left _ (List.mem_append_left _ (List.mem_append_left _ (List.mem_append_left _ (List.mem_append_right _ (List.mem_append_right _ (List.mem_append_right _ (List.mem_append_right _ (List.mem_append_right _ (List.mem_append_right _ (List.mem_append_right _ (List.mem_append_right _ (List.mem_append_right _ (List.mem_append_right _ (List.mem_append_left _ (h)))))))))))))))))))
theorem r12_in : ∀ w ∈ wsL_law0_r12, w ∈ wsL_law := fun w h => l0_in w (List.mem_append_left _ (List.mem_append_left _ (List.mem_append_left _ (List.mem_append_left _ (List.mem_append_left _ (List.mem_append_left _ (List.mem_append_left _ (List.mem_append_right _ (List.mem_append_right _ (List.mem_append_right _ (List.mem_append_right _ (List.mem_append_right _ (List.mem_append_right _ (List.mem_append_right _ (List.mem_append_right _ (List.mem_append_right _ (List.mem_append_right _ (List.mem_append_right _ (List.mem_append_left _ (h))))))))))))))))))))
theorem r13_in : ∀ w ∈ wsL_law0_r13, w ∈ wsL_law := fun w h => l0_in w (List.mem_append_left _ (List.mem_append_left _ (List.mem_append_left _ (List.mem_append_left _ (List.mem_append_left _ (List.mem_append_left _ (List.mem_append_left _ (List.mem_append_right _ (List.mem_append_right _ (List.mem_append_right _ (List.mem_append_right _ (List.mem_append_right _ (List.mem_append_right _ (List.mem_append_right _ (List.mem_append_right _ (List.mem_append_right _ (List.mem_append_right _ (List.mem_append_right _ (List.mem_append_right _ (List.mem_append_left _ (h)))))))))))))))))))))
theorem r14_in : ∀ w ∈ wsL_law0_r14, w ∈ wsL_law := fun w h => l0_in w (List.mem_append_left _ (List.mem_append_left _ (List.mem_append_left _ (List.mem_append_left _ (List.mem_append_left _ (List.mem_append_left _ (List.mem_append_left _ (List.mem_append_right _ (List.mem_append_right _ (List.mem_append_right _ (List.mem_append_right _ (List.mem_append_right _ (List.mem_append_right _ (List.mem_append_right _ (List.mem_append_right _ (List.mem_append_right _ (List.mem_append_right _ (List.mem_append_right _ (List.mem_append_right _ (List.mem_append_right _ (List.mem_append_left _ (h))))))))))))))))))))))
theorem r15_in : ∀ w ∈ wsL_law0_r15, w ∈ wsL_law := fun w h => l0_in w (List.mem_append_left _ (List.mem_append_left _ (List.mem_append_left _ (List.mem_append_left _ (List.mem_append_left _ (List.mem_append_left _ (List.mem_append_left _ (List.mem_append_right _ (List.mem_append_right _ (List.mem_append_right _ (List.mem_append_right _ (List.mem_append_right _ (List.mem_append_right _ (List.mem_append_right _ (List.mem_append_right _ (List.mem_append_right _ (List.mem_append_right _ (List.mem_append_right _ (List.mem_append_right _ (List.mem_append_right _ (List.mem_append_right _ (List.mem_append_left _ (h)))))))))))))))))))))))
theorem r16_in : ∀ w ∈ wsL_law0_r16, w ∈ wsL_law := fun w h => l0_in w (List.mem_append_left _ (List.mem_append_left _ (List.mem_append_left _ (List.mem_append_left _ (List.mem_append_left _ (List.mem_append_left _ (List.mem_append_left _ (List.mem_append_right _ (List.mem_append_right _ (List.mem_append_right _ (List.mem_append_right _ (List.mem_append_right _ (List.mem_append_right _ (List.mem_append_right _ (List.mem_append_right _ (List.mem_append_right _ (List.mem_append_right _ (List.mem_append_right _ (List.mem_append_right _ (List.mem_append_right _ (List.mem_append_right _ (List.mem_append_right _ (List.mem_append_left _ (h))))))))))))))))))))))))
theorem r17_in : ∀ w ∈ wsL_law0_r17, w ∈ wsL_law := fun w h => l0_in w (List.mem_append_left _ (List.mem_append_left _ (List.mem_append_left _ (List.mem_append_left _ (List.mem_append_left _ (List.mem_append_left _ (List.mem_append_left _ (List.mem_append_right _ (List.mem_append_right _ (List.mem_append_right _ (List.mem_append_right _ (List.mem_append_right _ (List.mem_append_right _ (List.mem_append_right _ (List.mem_append_right _ (List.mem_append_right _ (List.mem_append_right _ (List.mem_append_right _ (List.mem_append_right _ (List.mem_append_right _ (List.mem_append_right _ (List.mem_append_right _ (List.mem_append_right _ (List.mem_append_left _ (h)))))))))))))))))))))))))
theorem r18_in : ∀ w ∈ wsL_law0_r18, w ∈ wsL_law := fun w h => l0_in w (List.mem_append_left _ (List.mem_append_left _ (List.mem_append_left _ (List.mem_append_left _ (List.mem_append_left _ (List.mem_append_left _ (List.mem_append_left _ (List.mem_append_right _ (List.mem_append_right _ (List.mem_append_right _ (List.mem_append_right _ (List.mem_append_right _ (List.mem_append_right _ (List.mem_append_right _ (List.mem_append_right _ (List.mem_append_right _ (List.mem_append_right _ (List.mem_append_right _ (List.mem_append_right _ (List.mem_append_right _ (List.mem_append_right _ (List.mem_append_right _ (List.mem_append_right _ (List.mem_append_right _ (List.mem_append_left _ (h))))))))))))))))))))))))))
theorem r19_in : ∀ w ∈ wsL_law0_r19, w ∈ wsL_law := fun w h => l0_in w (List.mem_append_left _ (List.mem_append_left _ (List.mem_append_left _ (List.mem_append_left _ (List.mem_append_left _ (List.mem_append_left _ (List.mem_append_left _ (List.mem_append_right _ (List.mem_append_right _ (List.mem_append_right _ (List.mem_append_right _ (List.mem_append_right _ (List.mem_append_right _ (List.mem_append_right _ (List.mem_append_right _ (List.mem_append_right _ (List.mem_append_right _ (List.mem_append_right _ (List.mem_append_right _ (List.mem_append_right _ (List.mem_append_right _ (List.mem_append_right _ (List.mem_append_right _ (List.mem_append_right _ (List.mem_append_right _ (h))))))))))))))))))))))))))
def nxw : List Cond := [.fieldLinkNest "BenefitOffice" 175 "BenefitOffice$Residents" "adults" "I" "BenefitOffice",
  .fieldLinkNest "BenefitOffice" 178 "BenefitOffice$Residents" "children" "I" "BenefitOffice",
  .fieldLinkNest "BenefitOffice" 181 "BenefitOffice$Residents" "income" "I" "BenefitOffice",
  .fieldLinkNest "BenefitOffice" 186 "BenefitOffice$Amounts" "adult" "I" "BenefitOffice",
  .fieldLinkNest "BenefitOffice" 189 "BenefitOffice$Amounts" "child" "I" "BenefitOffice",
  .fieldLinkNest "BenefitOffice" 192 "BenefitOffice$Amounts" "housing" "I" "BenefitOffice",
  .fieldLinkNest "BenefitOffice" 195 "BenefitOffice$Amounts" "tapered" "Z" "BenefitOffice",
  .fieldLinkNest "BenefitOffice" 199 "BenefitOffice$Amounts" "capped" "Z" "BenefitOffice",
  .fieldLinkNest "BenefitOffice" 74 "BenefitOffice$Person" "age" "I" "BenefitOffice",
  .fieldLinkNest "BenefitOffice$Residents" 19 "BenefitOffice$Person" "age" "I" "BenefitOffice",
  .fieldLinkNest "BenefitOffice" 92 "BenefitOffice$Person" "home" "LBenefitOffice$Timeline;" "BenefitOffice",
  .fieldLinkNest "BenefitOffice$Residents" 24 "BenefitOffice$Person" "income" "LBenefitOffice$Timeline;" "BenefitOffice",
  .fieldLinkNest "BenefitOffice" 96 "BenefitOffice$Person" "income" "LBenefitOffice$Timeline;" "BenefitOffice",
  .fieldLinkNest "BenefitOffice" 103 "BenefitOffice$Household" "rent" "LBenefitOffice$Timeline;" "BenefitOffice",
  .fieldLinkNest "BenefitOffice" 155 "BenefitOffice$Household" "payments" "[I" "BenefitOffice",
  .fieldLinkNest "BenefitOffice" 158 "BenefitOffice$Household" "paid" "[I" "BenefitOffice",
  .methodLinkNest "BenefitOffice" 33 ⟨"BenefitOffice$Residents", "<init>", "()V"⟩ "BenefitOffice",
  .methodLinkNest "BenefitOffice" 40 ⟨"BenefitOffice$Amounts", "<init>", "()V"⟩ "BenefitOffice",
  .methodLinkNest "BenefitOffice" 48 ⟨"BenefitOffice$Person", "<init>", "()V"⟩ "BenefitOffice",
  .methodLinkNest "BenefitOffice" 49 ⟨"BenefitOffice$Household", "<init>", "()V"⟩ "BenefitOffice",
  .declares ⟨"java/lang/RuntimeException", "<init>", "(Ljava/lang/String;)V"⟩,
  .declares ⟨"java/lang/Exception", "<init>", "(Ljava/lang/String;)V"⟩,
  .declares ⟨"java/lang/Throwable", "<init>", "(Ljava/lang/String;)V"⟩,
  .castable "java/lang/IllegalStateException" "java/lang/IllegalStateException",
  .castable "java/lang/IllegalArgumentException" "java/lang/IllegalArgumentException",
  .castable "java/lang/IndexOutOfBoundsException" "java/lang/IndexOutOfBoundsException",
  .castable "java/util/NoSuchElementException" "java/util/NoSuchElementException",
  .castable "java/lang/UnsupportedOperationException" "java/lang/UnsupportedOperationException",
  .castable "java/lang/ArithmeticException" "java/lang/ArithmeticException"]
theorem nxw_ok : ∀ w ∈ nxw, okN w = true := List.all_eq_true.mp (by decide +kernel)
def strs : List (Nat × String) := [(69, "there are 8 persons"), (80, "there are 4 households"), (115, "the value is out of the range of the rule"), (128, "a rule keeps its fact for the day 0"), (134, "there was a run for each month"), (152, "there was no run for this month yet"), (202, "no amount changes up to the day 359"), (213, "nothing was kept back and nothing was paid"), (216, "there was no payment"), (220, "there is no such person"), (223, "there is no such household"), (229, "there is no rule with this letter"), (231, "the day is out of range"), (233, "there is no such month"), (235, "the number is out of range"), (241, "no such fact is told for this day")]
def TX (U : State) : Prop := (∀ w ∈ nxw, va_Nw w U) ∧ ∀ q ∈ strs, ∃ a : Nat, vk_R RX5 q.1 q.2 a U
theorem TX.warm {s U : State} (hW : s.WarmedH U.vm) (h : TX s) : TX U := ⟨fun w hw => okN_warm (nxw_ok w hw) hW (h.1 w hw), fun q hq => by
  obtain ⟨a, ha⟩ := h.2 q hq
  exact ⟨a, ha.warm hW⟩⟩
def ruLet : Nat → Int32 := fun j => match j with | 0 => 97 | 1 => 99 | 2 => 102 | 3 => 114 | 4 => 116 | 5 => 112 | _ => 109
def ruGr : Nat → Int32 := fun j => match j with | 0 => 99 | 1 => 99 | 2 => 99 | 3 => 99 | 4 => 999 | 5 => 100 | _ => 999
def ruFi : Nat → Int32 := fun j => match j with | 0 => 10 | 1 => 5 | 2 => 3 | 3 => 20 | 4 => 15 | 5 => 50 | _ => 60
def HT (n d : String) (ty : FieldType) (f : Nat → Int32) (A : Nat → Prop) (U : State) (H : Heap) : Prop := ∃ t : Nat, va_Z RX5 n d (.ref t) A U H ∧ va_T ty t 7 (fun j => .int (f j)) A U H
theorem HT.go {n d : String} {ty : FieldType} {f : Nat → Int32} {A B : Nat → Prop} {s U : State} {H : Heap} {locs : List Loc} (h : HT n d ty f A s s.heap) (hS : va_S A s.heap H locs) (hvm : s.vm.Alike U.vm) (hU : U.heap = H) (hB : ∀ q, B q → A q) : HT n d ty f B U U.heap := by
  obtain ⟨t, h1, h2⟩ := h
  rw [hU]
  exact ⟨t, ((h1.kept hS.2.1).moved hvm).narrow hB, ((h2.kept hS.2.1).moved hvm).narrow hB⟩
def HX (A : Nat → Prop) (U : State) (H : Heap) : Prop := (vx_Zq Bundle.tN "UNASSIGNED_STACK" Bundle.steD A U H ∧ vx_Zq Bundle.tN "SUPPRESSED_SENTINEL" Bundle.listD A U H) ∧ HT "RULE_LETTERS" "[C" .char ruLet A U H ∧ HT "RULE_GREATEST" "[I" .int ruGr A U H ∧ HT "RULE_FIRST" "[I" .int ruFi A U H
theorem HX.go {A B : Nat → Prop} {s U : State} {H : Heap} {locs : List Loc} (h : HX A s s.heap) (hS : va_S A s.heap H locs) (hvm : s.vm.Alike U.vm) (hU : U.heap = H) (hB : ∀ q, B q → A q) : HX B U U.heap := by
  obtain ⟨⟨h1, h2⟩, h3, h4, h5⟩ := h
  refine ⟨?_, h3.go hS hvm hU hB, h4.go hS hvm hU hB, h5.go hS hvm hU hB⟩
  rw [hU]
  exact ⟨vx_Zq.narrow (vx_Zq.moved hvm (vx_Zq.kept h1 hS.2.1)) hB, vx_Zq.narrow (vx_Zq.moved hvm (vx_Zq.kept h2 hS.2.1)) hB⟩

/-! what a throw of each class wants -/
/-- what a throw of a class wants; its constructor with a text: the link ix in the code rx -/
def XF (cls : String) (ik ic : Nat) : Prop := Bundle.fit cls = true ∧ Cond.classLink RX5 ik cls ∈ wsL_law ∧ Cond.initialized cls ∈ wsL_law ∧ ∃ (ix : Nat) (rx : ByteArray), (decode rx 0 = .ok (.aload_n 0, 1) ∧ decode rx 1 = .ok (.aload_n 1, 1) ∧ decode rx 2 = .ok (.invokespecial ix, 3) ∧ decode rx 5 = .ok (.return_, 1)) ∧ (∀ w ∈ (vx_atX RX5 ic cls ix rx ["java/lang/RuntimeException", "java/lang/Exception"]).filter goodWord, w ∈ wsL_law) ∧ (∀ w ∈ (vx_atX RX5 ic cls ix rx ["java/lang/RuntimeException", "java/lang/Exception"]).filter (fun w => !goodWord w), w ∈ nxw) ∧ (∀ w ∈ Cond.classLink RX5 ik cls :: Cond.initialized cls :: vx_atX RX5 ic cls ix rx ["java/lang/RuntimeException", "java/lang/Exception"], vx_ot w = true)
theorem atX_six (own : String) (ic : Nat) (X : String) (names : List String) : vx_atX own ic X 7 Bundle.six names = vx_atS own ic X names := by cases names <;> rfl
set_option maxRecDepth 20000 in
theorem xf_ISE : XF "java/lang/IllegalStateException" 67 71 := ⟨by decide +kernel, (r5_in _ (List.mem_of_getElem? (i := 11) rfl)), (r5_in _ (List.mem_of_getElem? (i := 12) rfl)), 7, Bundle.six, ⟨by decide +kernel, by decide +kernel, by decide +kernel, by decide +kernel⟩, fun w h => List.mem_append_left _ (List.mem_append_left _ (List.mem_append_left _ (List.mem_append_left _ (List.mem_append_left _ (List.mem_append_right _ (by rw [atX_six] at h; exact h)))))), fun w h => List.elem_iff.mp (List.all_eq_true.mp (show ((vx_atX RX5 71 "java/lang/IllegalStateException" 7 Bundle.six ["java/lang/RuntimeException", "java/lang/Exception"]).filter (fun w => !goodWord w)).all (fun w => nxw.elem w) = true by decide +kernel) w h), List.all_eq_true.mp (show (Cond.classLink RX5 67 "java/lang/IllegalStateException" :: Cond.initialized "java/lang/IllegalStateException" :: vx_atX RX5 71 "java/lang/IllegalStateException" 7 Bundle.six ["java/lang/RuntimeException", "java/lang/Exception"]).all vx_ot = true by decide +kernel)⟩
set_option maxRecDepth 20000 in
theorem xf_IAE : XF "java/lang/IllegalArgumentException" 113 117 := ⟨by decide +kernel, (r5_in _ (List.mem_of_getElem? (i := 17) rfl)), (r5_in _ (List.mem_of_getElem? (i := 18) rfl)), 7, Bundle.six, ⟨by decide +kernel, by decide +kernel, by decide +kernel, by decide +kernel⟩, fun w h => List.mem_append_left _ (List.mem_append_left _ (List.mem_append_left _ (List.mem_append_left _ (List.mem_append_right _ (by rw [atX_six] at h; exact h))))), fun w h => List.elem_iff.mp (List.all_eq_true.mp (show ((vx_atX RX5 117 "java/lang/IllegalArgumentException" 7 Bundle.six ["java/lang/RuntimeException", "java/lang/Exception"]).filter (fun w => !goodWord w)).all (fun w => nxw.elem w) = true by decide +kernel) w h), List.all_eq_true.mp (show (Cond.classLink RX5 113 "java/lang/IllegalArgumentException" :: Cond.initialized "java/lang/IllegalArgumentException" :: vx_atX RX5 117 "java/lang/IllegalArgumentException" 7 Bundle.six ["java/lang/RuntimeException", "java/lang/Exception"]).all vx_ot = true by decide +kernel)⟩
set_option maxRecDepth 20000 in
theorem xf_IOB : XF "java/lang/IndexOutOfBoundsException" 218 222 := ⟨by decide +kernel, (r6_in _ (List.mem_of_getElem? (i := 15) rfl)), (r6_in _ (List.mem_of_getElem? (i := 16) rfl)), 7, Bundle.six, ⟨by decide +kernel, by decide +kernel, by decide +kernel, by decide +kernel⟩, fun w h => List.mem_append_left _ (List.mem_append_left _ (List.mem_append_left _ (List.mem_append_right _ (by rw [atX_six] at h; exact h)))), fun w h => List.elem_iff.mp (List.all_eq_true.mp (show ((vx_atX RX5 222 "java/lang/IndexOutOfBoundsException" 7 Bundle.six ["java/lang/RuntimeException", "java/lang/Exception"]).filter (fun w => !goodWord w)).all (fun w => nxw.elem w) = true by decide +kernel) w h), List.all_eq_true.mp (show (Cond.classLink RX5 218 "java/lang/IndexOutOfBoundsException" :: Cond.initialized "java/lang/IndexOutOfBoundsException" :: vx_atX RX5 222 "java/lang/IndexOutOfBoundsException" 7 Bundle.six ["java/lang/RuntimeException", "java/lang/Exception"]).all vx_ot = true by decide +kernel)⟩
set_option maxRecDepth 20000 in
theorem xf_NSE : XF "java/util/NoSuchElementException" 150 154 := ⟨by decide +kernel, (r12_in _ (List.mem_of_getElem? (i := 9) rfl)), (r12_in _ (List.mem_of_getElem? (i := 10) rfl)), 13, prog_22_method_4_code, ⟨by decide +kernel, by decide +kernel, by decide +kernel, by decide +kernel⟩, fun w h => List.mem_append_left _ (List.mem_append_left _ (List.mem_append_right _ h)), fun w h => List.elem_iff.mp (List.all_eq_true.mp (show ((vx_atX RX5 154 "java/util/NoSuchElementException" 13 prog_22_method_4_code ["java/lang/RuntimeException", "java/lang/Exception"]).filter (fun w => !goodWord w)).all (fun w => nxw.elem w) = true by decide +kernel) w h), List.all_eq_true.mp (show (Cond.classLink RX5 150 "java/util/NoSuchElementException" :: Cond.initialized "java/util/NoSuchElementException" :: vx_atX RX5 154 "java/util/NoSuchElementException" 13 prog_22_method_4_code ["java/lang/RuntimeException", "java/lang/Exception"]).all vx_ot = true by decide +kernel)⟩
set_option maxRecDepth 20000 in
theorem xf_UOE : XF "java/lang/UnsupportedOperationException" 126 130 := ⟨by decide +kernel, (r14_in _ (List.mem_of_getElem? (i := 5) rfl)), (r14_in _ (List.mem_of_getElem? (i := 6) rfl)), 7, Bundle.six, ⟨by decide +kernel, by decide +kernel, by decide +kernel, by decide +kernel⟩, fun w h => List.mem_append_left _ (List.mem_append_right _ (by rw [atX_six] at h; exact h)), fun w h => List.elem_iff.mp (List.all_eq_true.mp (show ((vx_atX RX5 130 "java/lang/UnsupportedOperationException" 7 Bundle.six ["java/lang/RuntimeException", "java/lang/Exception"]).filter (fun w => !goodWord w)).all (fun w => nxw.elem w) = true by decide +kernel) w h), List.all_eq_true.mp (show (Cond.classLink RX5 126 "java/lang/UnsupportedOperationException" :: Cond.initialized "java/lang/UnsupportedOperationException" :: vx_atX RX5 130 "java/lang/UnsupportedOperationException" 7 Bundle.six ["java/lang/RuntimeException", "java/lang/Exception"]).all vx_ot = true by decide +kernel)⟩
set_option maxRecDepth 20000 in
theorem xf_ARE : XF "java/lang/ArithmeticException" 211 215 := ⟨by decide +kernel, (r19_in _ (List.mem_of_getElem? (i := 11) rfl)), (r19_in _ (List.mem_of_getElem? (i := 12) rfl)), 7, Bundle.six, ⟨by decide +kernel, by decide +kernel, by decide +kernel, by decide +kernel⟩, fun w h => List.mem_append_right _ (by rw [atX_six] at h; exact h), fun w h => List.elem_iff.mp (List.all_eq_true.mp (show ((vx_atX RX5 215 "java/lang/ArithmeticException" 7 Bundle.six ["java/lang/RuntimeException", "java/lang/Exception"]).filter (fun w => !goodWord w)).all (fun w => nxw.elem w) = true by decide +kernel) w h), List.all_eq_true.mp (show (Cond.classLink RX5 211 "java/lang/ArithmeticException" :: Cond.initialized "java/lang/ArithmeticException" :: vx_atX RX5 215 "java/lang/ArithmeticException" 7 Bundle.six ["java/lang/RuntimeException", "java/lang/Exception"]).all vx_ot = true by decide +kernel)⟩
section VXQ
variable {p : Program} {l : Launch} {e : Env} {R : Room} {s : State} {m : MethodId} {args : Array Value} {below : List Frame} {meth : Method} {c : Code} {H : Heap} {locs : List Loc} {cells slots : Nat} {Q : State → Prop}
variable {mc ms : Nat} {free : Addr → Prop} {A0 A1 : Nat → Prop} {H0 : Heap} {a : Array Value} {pc : Nat} {ls : Array Slot} {st0 rest : List Value}
theorem vx_callq {S SX : Type} {post : Option Nat → S → Prop} {px : SX → Prop} {B : S → State → Prop} {BX : String → SX → State → Prop} {AX : Nat → Prop} (hr : vx_Run p l e R s m args below meth c H locs cells slots mc ms (F0 m pc ls st0) rest (va_Qq post B A1 a) (vx_X px BX AX) free) (hS : va_S A0 H0 H locs) (hA : ∀ q, q < H.size → A1 q → A0 q) (hf : ∀ q, free q → A0 q) (hAX : ∀ q, q < H.size → AX q → A0 q)
    (kx : ∀ (E : String) (ce : Cell) (q9 : Addr) (u : SX) (t : State) (H1 : Heap) (locs1 : List Loc), t.heap = H1 → s.vm.Alike t.vm → px u → BX E u t → H.size ≤ H1.size → (∀ q : Nat, q < H.size → ¬ AX q → H1[q]? = H[q]?) → va_S A0 H0 H1 locs1 → H1[q9]? = some ce → ce.vm = .none → s.vm.findClass E = some ce.cls → vx_W p l e R s m args below meth c H1 locs1 (cells + mc) (slots + ms) Q (F0 m pc ls rest) q9)
    (kk : ∀ (r : Option Nat) (u : S) (t : State) (H1 : Heap) (locs1 : List Loc), t.heap = H1 → s.vm.Alike t.vm → post r u → B u t → H.size ≤ H1.size → (∀ q : Nat, q < H.size → ¬ A1 q → H1[q]? = H[q]?) → va_S A0 H0 H1 locs1 → W p l e R s m args below meth c H1 locs1 (cells + mc) (slots + ms) Q (F0 m (pc + 3) ls (va_rf r :: rest))) : W p l e R s m args below meth c H locs cells slots Q (F0 m pc ls st0) := by
  intro T hT X
  rcases hr T hT X with ⟨v, st₀, t, T', L, h0, X', hL, e1, e2, ⟨⟨r, u, hv, hp, hb⟩, hF⟩, st⟩ | ⟨q, st₀, t, T', L, E, ce, h0, X', hL, e1, e2, ⟨u, hp, hb, hF⟩, hce, hcv, hcl, st⟩
  · cases hv
    obtain ⟨k1, k2, k3⟩ := vx_keep h0 e1 hS hA hf hL hF
    obtain ⟨t2, a1, b1⟩ := kk r u t T'.heap (locs ++ L) e1.symm (by rw [← e2]; exact X'.warmed.alike) hp hb k1 k2 k3 T' rfl X'
    exact ⟨t2, st t2 a1, b1⟩
  · obtain ⟨k1, k2, k3⟩ := vx_keep h0 e1 hS hAX hf hL hF
    obtain ⟨t2, a1, b1⟩ := kx E ce q u t T'.heap (locs ++ L) e1.symm (by rw [← e2]; exact X'.warmed.alike) hp hb k1 k2 k3 (by rw [e1]; exact hce) hcv hcl T' rfl X'
    exact ⟨t2, st.trans a1, b1⟩
end VXQ

/-! ===== rows over one world ===== -/
def MB (p : Program) (c : Code) (cc : ByteArray) (nL : Nat) (own : String) (s : State) (m : MethodId) (args : Array Value) (D : va_G) (tys : List (ClassId × FieldType)) : Prop := p.tables.exec = Jvm.exec ∧ c.code = cc ∧ c.maxLocals = nL ∧ s.vm.findClass own = some m.cls ∧ (∀ w ∈ wsL_law, w.before args s = true) ∧ va_K D cls7 tys s
def PC (D : va_G) (tys : List (ClassId × FieldType)) (ad : Nat → Nat) (N : Nat) (E : Nat → va_E) (sz : Nat) (U : State) : Prop := U.heap.size = sz ∧ hH D ad N E U.heap ∧ va_K D cls7 tys U ∧ TX U ∧ HX (cA ad N sz) U U.heap
section BASE
variable {p : Program} {l : Launch} {e : Env} {R : Room} {s : State} {m : MethodId} {args : Array Value} {below : List Frame} {meth : Method} {c : Code} {H : Heap} {locs : List Loc} {cells slots : Nat} {Q : State → Prop}
variable {cc : ByteArray} {pc nL : Nat} {own : String} {ls : Array Slot} {rest : List Value} {D : va_G} {tys : List (ClassId × FieldType)} {ad : Nat → Nat} {N : Nat} {E : Nat → va_E} {A : Nat → Prop} {H0 : Heap}
theorem b_get (B : MB p c cc nL own s m args D tys) (hW : hH D ad N E H) {ref C : String} {T : u_T} {n ci index k : Nat} {fs : List Value} {v : Value} (hin : ∀ w ∈ u_ws C T n, w ∈ wsL_law) (hc : cls7[ci]? = some (C, T, n)) (f : Nat) (hf : f < n) (hlink : Cond.fieldLink own index ref (T f).2.1 (T f).2.2.1 ∈ wsL_law) (hsame : (T f).1 = ref) (hk : k < N) (he : E k = .inr (ci, fs)) (hv : fs[f]? = some v) (hdg : decode cc pc = .ok (.getfield index, 3))
    (kk : W p l e R s m args below meth c H locs cells slots Q (F0 m (pc + 3) ls (v :: rest))) : W p l e R s m args below meth c H locs cells slots Q (F0 m pc ls (.ref (ad k) :: rest)) :=
  va_get B.1 B.2.1 B.2.2.2.2.1 hin B.2.2.2.1 B.2.2.2.2.2 (hW.one hk he) 0 rfl hc f hf (B.2.2.2.2.1 _ hlink) (by subst hsame; exact fun _ h => h) hv hdg kk
theorem b_getN (B : MB p c cc nL own s m args D tys) (hT : TX s) (hW : hH D ad N E H) {ref C host : String} {T : u_T} {n ci index k : Nat} {fs : List Value} {v : Value} (hin : ∀ w ∈ u_ws C T n, w ∈ wsL_law) (hc : cls7[ci]? = some (C, T, n)) (f : Nat) (hf : f < n) (hlink : Cond.fieldLinkNest own index ref (T f).2.1 (T f).2.2.1 host ∈ nxw) (hsame : (T f).1 = ref) (hk : k < N) (he : E k = .inr (ci, fs)) (hv : fs[f]? = some v) (hdg : decode cc pc = .ok (.getfield index, 3))
    (kk : W p l e R s m args below meth c H locs cells slots Q (F0 m (pc + 3) ls (v :: rest))) : W p l e R s m args below meth c H locs cells slots Q (F0 m pc ls (.ref (ad k) :: rest)) :=
  va_getN B.1 B.2.1 B.2.2.2.2.1 hin B.2.2.2.1 B.2.2.2.2.2 (hW.one hk he) 0 rfl hc f hf (va_Nw.use rfl (hT.1 _ hlink)) (by subst hsame; exact fun _ h => h) hv hdg kk
theorem b_put (B : MB p c cc nL own s m args D tys) (hI : aI ad N) (hA : ∀ k : Nat, k < N → A (ad k)) (hW : hH D ad N E H) (hS : va_S A H0 H locs) {ref C : String} {T : u_T} {n ci index k : Nat} {fs : List Value} {v : Value} {ty : FieldType} (hin : ∀ w ∈ u_ws C T n, w ∈ wsL_law) (ty0 : Nat → FieldType) (hty : ∀ k, k < n → parseFieldDescriptor (T k).2.2.1 = some (ty0 k)) (hnm : ∀ a, a < n → ∀ b, b < n → a ≠ b → (T a).2.1 ≠ (T b).2.1) (hc : cls7[ci]? = some (C, T, n)) (f : Nat) (hf : f < n) (hlink : Cond.fieldLink own index ref (T f).2.1 (T f).2.2.1 ∈ wsL_law) (hsame : (T f).1 = ref) (hfin : (T f).2.2.2 = false) (hd : parseFieldDescriptor (T f).2.2.1 = some ty) (hk : k < N) (he : E k = .inr (ci, fs)) (hl : f < fs.length) (hn : narrow ty v = v) (hfit : fits ty v = true) (hdg : decode cc pc = .ok (.putfield index, 3))
    (kk : ∀ (H1 : Heap) (locs1 : List Loc), hH D ad N (va_up E k (.inr (ci, fs.set f v))) H1 → va_S A H0 H1 locs1 → W p l e R s m args below meth c H1 locs1 cells slots Q (F0 m (pc + 3) ls rest)) : W p l e R s m args below meth c H locs cells slots Q (F0 m pc ls (v :: .ref (ad k) :: rest)) :=
  va_put B.1 B.2.1 B.2.2.2.2.1 hin ty0 hty hnm B.2.2.2.1 B.2.2.2.2.2 hW.toP (wl_D hI hA) hS k (by rw [wl_get hk, he]) hc f hf (B.2.2.2.2.1 _ hlink) (by subst hsame; exact fun _ h => h) hfin hd hn hfit hl hdg (fun H1 locs1 hP _ hS1 => kk H1 locs1 (hH.ofSet hP) hS1)
theorem b_putN (B : MB p c cc nL own s m args D tys) (hT : TX s) (hI : aI ad N) (hA : ∀ k : Nat, k < N → A (ad k)) (hW : hH D ad N E H) (hS : va_S A H0 H locs) {ref C host : String} {T : u_T} {n ci index k : Nat} {fs : List Value} {v : Value} {ty : FieldType} (hin : ∀ w ∈ u_ws C T n, w ∈ wsL_law) (ty0 : Nat → FieldType) (hty : ∀ k, k < n → parseFieldDescriptor (T k).2.2.1 = some (ty0 k)) (hnm : ∀ a, a < n → ∀ b, b < n → a ≠ b → (T a).2.1 ≠ (T b).2.1) (hc : cls7[ci]? = some (C, T, n)) (f : Nat) (hf : f < n) (hlink : Cond.fieldLinkNest own index ref (T f).2.1 (T f).2.2.1 host ∈ nxw) (hsame : (T f).1 = ref) (hfin : (T f).2.2.2 = false) (hd : parseFieldDescriptor (T f).2.2.1 = some ty) (hk : k < N) (he : E k = .inr (ci, fs)) (hl : f < fs.length) (hn : narrow ty v = v) (hfit : fits ty v = true) (hdg : decode cc pc = .ok (.putfield index, 3))
    (kk : ∀ (H1 : Heap) (locs1 : List Loc), hH D ad N (va_up E k (.inr (ci, fs.set f v))) H1 → va_S A H0 H1 locs1 → W p l e R s m args below meth c H1 locs1 cells slots Q (F0 m (pc + 3) ls rest)) : W p l e R s m args below meth c H locs cells slots Q (F0 m pc ls (v :: .ref (ad k) :: rest)) :=
  va_putN B.1 B.2.1 B.2.2.2.2.1 hin ty0 hty hnm B.2.2.2.1 B.2.2.2.2.2 hW.toP (wl_D hI hA) hS k (by rw [wl_get hk, he]) hc f hf (va_Nw.use rfl (hT.1 _ hlink)) (by subst hsame; exact fun _ h => h) hfin hd hn hfit hl hdg (fun H1 locs1 hP _ hS1 => kk H1 locs1 (hH.ofSet hP) hS1)
/-! arrays: the index is named by a natural -/
theorem b_iald (B : MB p c cc nL own s m args D tys) (hW : hH D ad N E H) {cI : ClassId} (ht : tys[0]? = some (cI, .int)) {k n j : Nat} {f : Nat → Int32} {i : Int32} (hk : k < N) (he : E k = .inl (cI, n, .inl f)) (hin : vp_in i n) (hj : i.toNatClampNeg = j) (hdg : decode cc pc = .ok (.iaload, 1))
    (kk : W p l e R s m args below meth c H locs cells slots Q (F0 m (pc + 1) ls (.int (f j) :: rest))) : W p l e R s m args below meth c H locs cells slots Q (F0 m pc ls (.int i :: .ref (ad k) :: rest)) :=
  va_iald B.1 B.2.1 B.2.2.2.2.2 (hW.one hk he) 0 0 rfl ht hin hdg (by rw [hj]; exact kk)
theorem b_zald (B : MB p c cc nL own s m args D tys) (hW : hH D ad N E H) {cZ : ClassId} (ht : tys[1]? = some (cZ, .boolean)) {k n j : Nat} {f : Nat → Int32} {i : Int32} (hk : k < N) (he : E k = .inl (cZ, n, .inl f)) (hin : vp_in i n) (hj : i.toNatClampNeg = j) (hdg : decode cc pc = .ok (.baload, 1))
    (kk : W p l e R s m args below meth c H locs cells slots Q (F0 m (pc + 1) ls (.int (f j) :: rest))) : W p l e R s m args below meth c H locs cells slots Q (F0 m pc ls (.int i :: .ref (ad k) :: rest)) :=
  va_zald B.1 B.2.1 B.2.2.2.2.2 (hW.one hk he) 0 1 rfl ht hin hdg (by rw [hj]; exact kk)
theorem b_aald (B : MB p c cc nL own s m args D tys) (hW : hH D ad N E H) {cX : ClassId} {C : String} (tk : Nat) (ht : tys[tk]? = some (cX, .object C)) {k n j a : Nat} {f : Nat → Option Nat} {i : Int32} (hk : k < N) (he : E k = .inl (cX, n, .inr (.inr (.inr (.inr f))))) (hin : vp_in i n) (hj : i.toNatClampNeg = j) (ha : f j = some a) (hdg : decode cc pc = .ok (.aaload, 1))
    (kk : W p l e R s m args below meth c H locs cells slots Q (F0 m (pc + 1) ls (.ref a :: rest))) : W p l e R s m args below meth c H locs cells slots Q (F0 m pc ls (.int i :: .ref (ad k) :: rest)) :=
  va_aldq B.1 B.2.1 B.2.2.2.2.2 (hW.one hk he) 0 tk rfl ht hin hdg (by rw [hj, ha]; exact kk)
theorem b_iast (B : MB p c cc nL own s m args D tys) (hI : aI ad N) (hA : ∀ k : Nat, k < N → A (ad k)) (hW : hH D ad N E H) (hS : va_S A H0 H locs) {cI : ClassId} (ht : tys[0]? = some (cI, .int)) {k n j : Nat} {f : Nat → Int32} {i x : Int32} (hk : k < N) (he : E k = .inl (cI, n, .inl f)) (hin : vp_in i n) (hj : i.toNatClampNeg = j) (hdg : decode cc pc = .ok (.iastore, 1))
    (kk : ∀ (H1 : Heap) (locs1 : List Loc), hH D ad N (va_up E k (.inl (cI, n, .inl (upd f j x)))) H1 → va_S A H0 H1 locs1 → W p l e R s m args below meth c H1 locs1 cells slots Q (F0 m (pc + 1) ls rest)) : W p l e R s m args below meth c H locs cells slots Q (F0 m pc ls (.int x :: .int i :: .ref (ad k) :: rest)) := by
  subst hj
  exact va_iast B.1 B.2.1 B.2.2.2.2.2 hW.toP (wl_D hI hA) hS k 0 (by rw [wl_get hk, he]) ht hin hdg (fun H1 locs1 hP _ hS1 => kk H1 locs1 (hH.ofSet hP) hS1)
theorem b_zast (B : MB p c cc nL own s m args D tys) (hI : aI ad N) (hA : ∀ k : Nat, k < N → A (ad k)) (hW : hH D ad N E H) (hS : va_S A H0 H locs) {cZ : ClassId} (ht : tys[1]? = some (cZ, .boolean)) {k n j : Nat} {f : Nat → Int32} {i x : Int32} (hk : k < N) (he : E k = .inl (cZ, n, .inl f)) (hin : vp_in i n) (hj : i.toNatClampNeg = j) (hx : vp_nar .boolean x = x) (hdg : decode cc pc = .ok (.bastore, 1))
    (kk : ∀ (H1 : Heap) (locs1 : List Loc), hH D ad N (va_up E k (.inl (cZ, n, .inl (upd f j x)))) H1 → va_S A H0 H1 locs1 → W p l e R s m args below meth c H1 locs1 cells slots Q (F0 m (pc + 1) ls rest)) : W p l e R s m args below meth c H locs cells slots Q (F0 m pc ls (.int x :: .int i :: .ref (ad k) :: rest)) := by
  subst hj
  exact va_zast B.1 B.2.1 B.2.2.2.2.2 hW.toP (wl_D hI hA) hS k 1 (by rw [wl_get hk, he]) ht hin hdg (fun H1 locs1 hP _ hS1 => kk H1 locs1 (hH.ofSet (by rw [hx] at hP; exact hP)) hS1)
/-! statics of BenefitOffice -/
theorem b_tabI (B : MB p c cc nL RX5 s m args D tys) {nm : String} {f : Nat → Int32} {A : Nat → Prop} {index : Nat} (hT : HT nm "[I" .int f A s s.heap) (hS : va_S A s.heap H locs) (hlink : Cond.fieldLink RX5 index RX5 nm "[I" ∈ wsL_law) (hdg : decode cc pc = .ok (.getstatic index, 3))
    (kk : ∀ t : Nat, va_T .int t 7 (fun j => .int (f j)) A s s.heap → W p l e R s m args below meth c H locs cells slots Q (F0 m (pc + 3) ls (.ref t :: rest))) : W p l e R s m args below meth c H locs cells slots Q (F0 m pc ls rest) := by
  obtain ⟨t, h1, h2⟩ := hT
  exact va_gets B.1 B.2.1 h1 hS B.2.2.2.1 (B.2.2.2.2.1 _ hlink) (fun _ h => h) hdg (kk t h2)
theorem b_tabC (B : MB p c cc nL RX5 s m args D tys) {nm : String} {f : Nat → Int32} {A : Nat → Prop} {index : Nat} (hT : HT nm "[C" .char f A s s.heap) (hS : va_S A s.heap H locs) (hlink : Cond.fieldLink RX5 index RX5 nm "[C" ∈ wsL_law) (hdg : decode cc pc = .ok (.getstatic index, 3))
    (kk : ∀ t : Nat, va_T .char t 7 (fun j => .int (f j)) A s s.heap → W p l e R s m args below meth c H locs cells slots Q (F0 m (pc + 3) ls (.ref t :: rest))) : W p l e R s m args below meth c H locs cells slots Q (F0 m pc ls rest) := by
  obtain ⟨t, h1, h2⟩ := hT
  exact va_gets B.1 B.2.1 h1 hS B.2.2.2.1 (B.2.2.2.2.1 _ hlink) (fun _ h => h) hdg (kk t h2)
/-! a number on the stack under another name -/
theorem b_top {x y : Int32} (h : x = y) (kk : W p l e R s m args below meth c H locs cells slots Q (F0 m pc ls (.int y :: rest))) : W p l e R s m args below meth c H locs cells slots Q (F0 m pc ls (.int x :: rest)) := h ▸ kk
/-! calls -/
theorem PC.of {U : State} (B : MB p c cc nL own s m args D tys) (hT : TX s) (hX : HX (cA ad N s.heap.size) s s.heap) (hW : hH D ad N E H) (hS : va_S (cA ad N s.heap.size) s.heap H locs) (hU : U.heap = H) (hU2 : s.WarmedH U.vm) : PC D tys ad N E H.size U :=
  ⟨by rw [hU], by rw [hU]; exact hW, va_K.moved hU2.alike B.2.2.2.2.2, hT.warm hU2, hX.go hS hU2.alike hU (cA.up hS.1)⟩
theorem PC.blind {As : List Value} {sz : Nat} : FrameBlind (va_Pc As (PC D tys ad N E sz)) := fun a U g mk q => by
  obtain ⟨q0, q1, q2, q3, q4, q5⟩ := q
  refine ⟨q0, q1, q2, va_K.moved (u := U) (U := U.calling g mk a) (Vm.Alike.refl U.vm) q3, TX.warm (s := U) (U := U.calling g mk a) (State.WarmedH.refl U) q4, ?_⟩
  exact HX.go (s := U) (U := U.calling g mk a) (locs := []) q5 (va_S.rf) (Vm.Alike.refl U.vm) rfl (fun _ h => h)
variable {y : MethodName} {bytes : ByteArray} {maxL mc ms n index : Nat} {ret : Option FieldType} {rm : Room} {As : List Value} {C : String} {k : Nat}
abbrev CWV (R : Room) (s : State) (args : Array Value) (own C : String) (index : Nat) (y : MethodName) (bytes : ByteArray) (maxL : Nat) (ret : Option FieldType) (rm : Room) (mc ms n : Nat) : Prop := CallW R s args own C index y bytes maxL ret (Cond.code y bytes maxL ret :: wsL_law) rm mc ms n
abbrev CWS (R : Room) (s : State) (args : Array Value) (own : String) (index : Nat) (y : MethodName) (bytes : ByteArray) (maxL : Nat) (ret : Option FieldType) (rm : Room) (mc ms n : Nat) : Prop := CallB R s args own index y bytes maxL ret (Cond.code y bytes maxL ret :: wsL_law) rm mc ms n ∧ (Cond.static y).before args s = true
theorem b_recv (B : MB p c cc nL own s m args D tys) (hW : hH D ad N E H) {ci : Nat} {fs : List Value} {q : vw_C} (hk : k < N) (he : E k = .inr (ci, fs)) (hc : cls7[ci]? = some q) : ∃ cell : Cell, H[ad k]? = some cell ∧ cell.vm.isStatics = false ∧ s.vm.findClass q.1 = some cell.cls := va_recv B.2.2.2.2.2 (hW.one hk he) hc (q0 := 0) rfl
theorem b_runV (B : MB p c cc nL own s m args D tys) (hT : TX s) (hX : HX (cA ad N s.heap.size) s s.heap) (hW : hH D ad N E H) (hS : va_S (cA ad N s.heap.size) s.heap H locs) {Qc : (Nat → Prop) → Array Value → State → Outcome → State → Prop} (hM : ∀ sz, Met l y (Cond.code y bytes maxL ret :: wsL_law) rm (va_Pc (.ref (ad k) :: As) (PC D tys ad N E sz)) (Qc (cA ad N sz)) mc ms (cA ad N sz)) (cw : CWV R s args own C index y bytes maxL ret rm mc ms n) (hr : ∃ cell : Cell, H[ad k]? = some cell ∧ cell.vm.isStatics = false ∧ s.vm.findClass C = some cell.cls) (hn : As.length = n) (hsize : ls.size = nL) (hW8 : (rest.map fun v => v.category).sum ≤ 8) (hdg : decode cc pc = .ok (.invokevirtual index, 3)) (hf : cells + mc ≤ R.cells ∧ slots + ms ≤ R.slots) :
    va_Run p l e R s m args below meth c H locs cells slots mc ms (F0 m pc ls (As.reverse ++ .ref (ad k) :: rest)) rest (Qc (cA ad N H.size) (Value.ref (ad k) :: As).toArray) (cA ad N H.size) :=
  va_runV ⟨B.1, B.2.1, B.2.2.1, B.2.2.2.1, B.2.2.2.2.1⟩ (hM H.size) cw ⟨PC.blind, hr, fun U hU hU2 => ⟨rfl, PC.of B hT hX hW hS hU hU2⟩⟩ rfl hn hsize rfl (lv_room hW8) hdg hf
theorem b_runS (B : MB p c cc nL own s m args D tys) (hT : TX s) (hX : HX (cA ad N s.heap.size) s s.heap) (hW : hH D ad N E H) (hS : va_S (cA ad N s.heap.size) s.heap H locs) {Qc : (Nat → Prop) → Array Value → State → Outcome → State → Prop} (hM : ∀ sz, Met l y (Cond.code y bytes maxL ret :: wsL_law) rm (va_Pc As (PC D tys ad N E sz)) (Qc (cA ad N sz)) mc ms (cA ad N sz)) (cw : CWS R s args own index y bytes maxL ret rm mc ms n) (hn : As.length = n) (hsize : ls.size = nL) (hW8 : (rest.map fun v => v.category).sum ≤ 8) (hdg : decode cc pc = .ok (.invokestatic index, 3)) (hf : cells + mc ≤ R.cells ∧ slots + ms ≤ R.slots) :
    va_Run p l e R s m args below meth c H locs cells slots mc ms (F0 m pc ls (As.reverse ++ rest)) rest (Qc (cA ad N H.size) As.toArray) (cA ad N H.size) :=
  va_runS ⟨B.1, B.2.1, B.2.2.1, B.2.2.2.1, B.2.2.2.2.1⟩ (hM H.size) cw ⟨PC.blind, fun U hU hU2 => ⟨rfl, PC.of B hT hX hW hS hU hU2⟩⟩ rfl hn hsize rfl (lv_room hW8) hdg hf
theorem b_xrunV (B : MB p c cc nL own s m args D tys) (hT : TX s) (hX : HX (cA ad N s.heap.size) s s.heap) (hW : hH D ad N E H) (hS : va_S (cA ad N s.heap.size) s.heap H locs) {Qc : (Nat → Prop) → Array Value → State → Outcome → State → Prop} {XC : (Nat → Prop) → String → State → State → Prop} (hM : ∀ sz, vx_Met l y (Cond.code y bytes maxL ret :: wsL_law) rm (va_Pc (.ref (ad k) :: As) (PC D tys ad N E sz)) (Qc (cA ad N sz)) (XC (cA ad N sz)) mc ms (cA ad N sz)) (cw : CWV R s args own C index y bytes maxL ret rm mc ms n) (hr : ∃ cell : Cell, H[ad k]? = some cell ∧ cell.vm.isStatics = false ∧ s.vm.findClass C = some cell.cls) (hn : As.length = n) (hsize : ls.size = nL) (hW8 : (rest.map fun v => v.category).sum ≤ 8) (hdg : decode cc pc = .ok (.invokevirtual index, 3)) (hf : cells + mc ≤ R.cells ∧ slots + ms ≤ R.slots) :
    vx_Run p l e R s m args below meth c H locs cells slots mc ms (F0 m pc ls (As.reverse ++ .ref (ad k) :: rest)) rest (Qc (cA ad N H.size) (Value.ref (ad k) :: As).toArray) (XC (cA ad N H.size)) (cA ad N H.size) :=
  vx_runV ⟨B.1, B.2.1, B.2.2.1, B.2.2.2.1, B.2.2.2.2.1⟩ (hM H.size) cw ⟨PC.blind, hr, fun U hU hU2 => ⟨rfl, PC.of B hT hX hW hS hU hU2⟩⟩ rfl hn hsize rfl (lv_room hW8) hdg hf
theorem b_xrunS (B : MB p c cc nL own s m args D tys) (hT : TX s) (hX : HX (cA ad N s.heap.size) s s.heap) (hW : hH D ad N E H) (hS : va_S (cA ad N s.heap.size) s.heap H locs) {Qc : (Nat → Prop) → Array Value → State → Outcome → State → Prop} {XC : (Nat → Prop) → String → State → State → Prop} (hM : ∀ sz, vx_Met l y (Cond.code y bytes maxL ret :: wsL_law) rm (va_Pc As (PC D tys ad N E sz)) (Qc (cA ad N sz)) (XC (cA ad N sz)) mc ms (cA ad N sz)) (cw : CWS R s args own index y bytes maxL ret rm mc ms n) (hn : As.length = n) (hsize : ls.size = nL) (hW8 : (rest.map fun v => v.category).sum ≤ 8) (hdg : decode cc pc = .ok (.invokestatic index, 3)) (hf : cells + mc ≤ R.cells ∧ slots + ms ≤ R.slots) :
    vx_Run p l e R s m args below meth c H locs cells slots mc ms (F0 m pc ls (As.reverse ++ rest)) rest (Qc (cA ad N H.size) As.toArray) (XC (cA ad N H.size)) (cA ad N H.size) :=
  vx_runS ⟨B.1, B.2.1, B.2.2.1, B.2.2.2.1, B.2.2.2.2.1⟩ (hM H.size) cw ⟨PC.blind, fun U hU hU2 => ⟨rfl, PC.of B hT hX hW hS hU hU2⟩⟩ rfl hn hsize rfl (lv_room hW8) hdg hf
/-- what a method of one world says at its end -/
abbrev Qi (D : va_G) (ad : Nat → Nat) (N : Nat) (post : Int32 → (Nat → va_E) → Prop) : (Nat → Prop) → Array Value → State → Outcome → State → Prop := fun A => va_Qi post (fun E' t => hH D ad N E' t.heap) A
abbrev Qv (D : va_G) (ad : Nat → Nat) (N : Nat) (post : (Nat → va_E) → Prop) : (Nat → Prop) → Array Value → State → Outcome → State → Prop := fun A => va_Qv post (fun E' t => hH D ad N E' t.heap) A
abbrev Ql (D : va_G) (ad : Nat → Nat) (N : Nat) (post : Int64 → (Nat → va_E) → Prop) : (Nat → Prop) → Array Value → State → Outcome → State → Prop := fun A => va_Ql post (fun E' t => hH D ad N E' t.heap) A
abbrev Qf (D : va_G) (ad : Nat → Nat) (N : Nat) (post : UInt32 → (Nat → va_E) → Prop) : (Nat → Prop) → Array Value → State → Outcome → State → Prop := fun A => va_Qf post (fun E' t => hH D ad N E' t.heap) A
abbrev Qd (D : va_G) (ad : Nat → Nat) (N : Nat) (post : UInt64 → (Nat → va_E) → Prop) : (Nat → Prop) → Array Value → State → Outcome → State → Prop := fun A => va_Qd post (fun E' t => hH D ad N E' t.heap) A
abbrev Qq (D : va_G) (ad : Nat → Nat) (N : Nat) (post : Option Nat → (Nat → va_E) → Prop) : (Nat → Prop) → Array Value → State → Outcome → State → Prop := fun A => va_Qq post (fun E' t => hH D ad N E' t.heap) A
abbrev Xx (D : va_G) (ad : Nat → Nat) (N : Nat) (X : String → (Nat → va_E) → Prop) : (Nat → Prop) → String → State → State → Prop := fun A => vx_X (fun _ : Nat → va_E => True) (fun Ex E' t => X Ex E' ∧ hH D ad N E' t.heap) A
variable {post : Int32 → (Nat → va_E) → Prop} {postv : (Nat → va_E) → Prop} {postl : Int64 → (Nat → va_E) → Prop} {postq : Option Nat → (Nat → va_E) → Prop} {postf : UInt32 → (Nat → va_E) → Prop} {postd : UInt64 → (Nat → va_E) → Prop} {X : String → (Nat → va_E) → Prop} {av : Array Value} {st0 : List Value}
theorem b_ci (hr : va_Run p l e R s m args below meth c H locs cells slots mc ms (F0 m pc ls st0) rest (Qi D ad N post (cA ad N H.size) av) (cA ad N H.size)) (hS : va_S (cA ad N s.heap.size) s.heap H locs)
    (kk : ∀ (r : Int32) (E1 : Nat → va_E) (H1 : Heap) (locs1 : List Loc), post r E1 → hH D ad N E1 H1 → va_S (cA ad N s.heap.size) s.heap H1 locs1 → W p l e R s m args below meth c H1 locs1 (cells + mc) (slots + ms) Q (F0 m (pc + 3) ls (.int r :: rest))) : W p l e R s m args below meth c H locs cells slots Q (F0 m pc ls st0) :=
  va_calli hr hS (fun q _ h => cA.up hS.1 q h) (cA.up hS.1) (fun r u t H1 locs1 ht _ hw hB _ _ hS1 => kk r u H1 locs1 hw (by rw [ht] at hB; exact hB) hS1)
theorem b_cv (hr : va_Run p l e R s m args below meth c H locs cells slots mc ms (F0 m pc ls st0) rest (Qv D ad N postv (cA ad N H.size) av) (cA ad N H.size)) (hS : va_S (cA ad N s.heap.size) s.heap H locs)
    (kk : ∀ (E1 : Nat → va_E) (H1 : Heap) (locs1 : List Loc), postv E1 → hH D ad N E1 H1 → va_S (cA ad N s.heap.size) s.heap H1 locs1 → W p l e R s m args below meth c H1 locs1 (cells + mc) (slots + ms) Q (F0 m (pc + 3) ls rest)) : W p l e R s m args below meth c H locs cells slots Q (F0 m pc ls st0) :=
  va_callv hr hS (fun q _ h => cA.up hS.1 q h) (cA.up hS.1) (fun u t H1 locs1 ht _ hw hB _ _ hS1 => kk u H1 locs1 hw (by rw [ht] at hB; exact hB) hS1)
/-! a callee that may throw; what is thrown goes on to the caller -/
theorem b_xci {Q0 : Array Value → State → Outcome → State → Prop} {X0 : String → (Nat → va_E) → Prop} {mc0 ms0 : Nat} (hQ : Q = (vx_MQ below Q0 (Xx D ad N X0 (cA ad N s.heap.size)) args s mc0 ms0 (cA ad N s.heap.size))) (hr : vx_Run p l e R s m args below meth c H locs cells slots mc ms (F0 m pc ls st0) rest (Qi D ad N post (cA ad N H.size) av) (Xx D ad N X (cA ad N H.size)) (cA ad N H.size)) (hS : va_S (cA ad N s.heap.size) s.heap H locs) (htb : ∀ x ∈ c.exceptionTable.toList, False) (hlk : meth.locks = false) (hc : cells + mc ≤ mc0) (hs : slots + ms ≤ ms0)
    (kx : ∀ (Ex : String) (E1 : Nat → va_E), X Ex E1 → X0 Ex E1)
    (kk : ∀ (r : Int32) (E1 : Nat → va_E) (H1 : Heap) (locs1 : List Loc), post r E1 → hH D ad N E1 H1 → va_S (cA ad N s.heap.size) s.heap H1 locs1 → W p l e R s m args below meth c H1 locs1 (cells + mc) (slots + ms) Q (F0 m (pc + 3) ls (.int r :: rest))) : W p l e R s m args below meth c H locs cells slots Q (F0 m pc ls st0) := by
  subst hQ
  exact vx_calli hr hS (fun q _ h => cA.up hS.1 q h) (cA.up hS.1) (fun q _ h => cA.up hS.1 q h)
    (fun Ex ce q9 u t H1 locs1 ht _ _ hB _ _ hS1 hce hcv hcl => vx_out (fun x hx => (htb x hx).elim) hlk hce hcv hcl (fun t2 ht2 _ => ⟨u, trivial, ⟨kx _ _ hB.1, by rw [ht2, ← ht]; exact hB.2⟩, hS1.F ht2⟩) hS1.2.2 hc hs)
    (fun r u t H1 locs1 ht _ hw hB _ _ hS1 => kk r u H1 locs1 hw (by rw [ht] at hB; exact hB) hS1)
theorem b_xcv {Q0 : Array Value → State → Outcome → State → Prop} {X0 : String → (Nat → va_E) → Prop} {mc0 ms0 : Nat} (hQ : Q = (vx_MQ below Q0 (Xx D ad N X0 (cA ad N s.heap.size)) args s mc0 ms0 (cA ad N s.heap.size))) (hr : vx_Run p l e R s m args below meth c H locs cells slots mc ms (F0 m pc ls st0) rest (Qv D ad N postv (cA ad N H.size) av) (Xx D ad N X (cA ad N H.size)) (cA ad N H.size)) (hS : va_S (cA ad N s.heap.size) s.heap H locs) (htb : ∀ x ∈ c.exceptionTable.toList, False) (hlk : meth.locks = false) (hc : cells + mc ≤ mc0) (hs : slots + ms ≤ ms0)
    (kx : ∀ (Ex : String) (E1 : Nat → va_E), X Ex E1 → X0 Ex E1)
    (kk : ∀ (E1 : Nat → va_E) (H1 : Heap) (locs1 : List Loc), postv E1 → hH D ad N E1 H1 → va_S (cA ad N s.heap.size) s.heap H1 locs1 → W p l e R s m args below meth c H1 locs1 (cells + mc) (slots + ms) Q (F0 m (pc + 3) ls rest)) : W p l e R s m args below meth c H locs cells slots Q (F0 m pc ls st0) := by
  subst hQ
  exact vx_callv hr hS (fun q _ h => cA.up hS.1 q h) (cA.up hS.1) (fun q _ h => cA.up hS.1 q h)
    (fun Ex ce q9 u t H1 locs1 ht _ _ hB _ _ hS1 hce hcv hcl => vx_out (fun x hx => (htb x hx).elim) hlk hce hcv hcl (fun t2 ht2 _ => ⟨u, trivial, ⟨kx _ _ hB.1, by rw [ht2, ← ht]; exact hB.2⟩, hS1.F ht2⟩) hS1.2.2 hc hs)
    (fun u t H1 locs1 ht _ hw hB _ _ hS1 => kk u H1 locs1 hw (by rw [ht] at hB; exact hB) hS1)
theorem b_xcq {Q0 : Array Value → State → Outcome → State → Prop} {X0 : String → (Nat → va_E) → Prop} {mc0 ms0 : Nat} (hQ : Q = (vx_MQ below Q0 (Xx D ad N X0 (cA ad N s.heap.size)) args s mc0 ms0 (cA ad N s.heap.size))) (hr : vx_Run p l e R s m args below meth c H locs cells slots mc ms (F0 m pc ls st0) rest (Qq D ad N postq (cA ad N H.size) av) (Xx D ad N X (cA ad N H.size)) (cA ad N H.size)) (hS : va_S (cA ad N s.heap.size) s.heap H locs) (htb : ∀ x ∈ c.exceptionTable.toList, False) (hlk : meth.locks = false) (hc : cells + mc ≤ mc0) (hs : slots + ms ≤ ms0)
    (kx : ∀ (Ex : String) (E1 : Nat → va_E), X Ex E1 → X0 Ex E1)
    (kk : ∀ (r : Option Nat) (E1 : Nat → va_E) (H1 : Heap) (locs1 : List Loc), postq r E1 → hH D ad N E1 H1 → va_S (cA ad N s.heap.size) s.heap H1 locs1 → W p l e R s m args below meth c H1 locs1 (cells + mc) (slots + ms) Q (F0 m (pc + 3) ls (va_rf r :: rest))) : W p l e R s m args below meth c H locs cells slots Q (F0 m pc ls st0) := by
  subst hQ
  exact vx_callq hr hS (fun q _ h => cA.up hS.1 q h) (cA.up hS.1) (fun q _ h => cA.up hS.1 q h)
    (fun Ex ce q9 u t H1 locs1 ht _ _ hB _ _ hS1 hce hcv hcl => vx_out (fun x hx => (htb x hx).elim) hlk hce hcv hcl (fun t2 ht2 _ => ⟨u, trivial, ⟨kx _ _ hB.1, by rw [ht2, ← ht]; exact hB.2⟩, hS1.F ht2⟩) hS1.2.2 hc hs)
    (fun r u t H1 locs1 ht _ hw hB _ _ hS1 => kk r u H1 locs1 hw (by rw [ht] at hB; exact hB) hS1)
/-! 'throw new X("text")' -/
theorem b_throw {Q0 : Array Value → State → Outcome → State → Prop} {X0 : String → (Nat → va_E) → Prop} {mc0 ms0 ik ic is : Nat} {cls text : String} (hQ : Q = (vx_MQ below Q0 (Xx D ad N X0 (cA ad N s.heap.size)) args s mc0 ms0 (cA ad N s.heap.size))) (B : MB p c cc nL RX5 s m args D tys) (hT : TX s) (hX : HX (cA ad N s.heap.size) s s.heap) (hW : hH D ad N E H) (hS : va_S (cA ad N s.heap.size) s.heap H locs) (hl : l.stackTraces = false) (hF : XF cls ik ic) (hq : (is, text) ∈ strs) (hsize : ls.size = nL)
    (d0 : decode cc pc = .ok (.new ik, 3)) (d3 : decode cc (pc + 3) = .ok (.dup, 1)) (d4 : decode cc (pc + 4) = .ok (.ldc is, 2)) (d6 : decode cc (pc + 6) = .ok (.invokespecial ic, 3)) (d9 : decode cc (pc + 9) = .ok (.athrow, 1)) (htb : ∀ x ∈ c.exceptionTable.toList, False) (hlk : meth.locks = false)
    (hRf : 6 ≤ R.frames) (hRl : (rest.map fun v => v.category).sum + 82 ≤ R.locals) (hRc : cells + 1 ≤ R.cells) (hRs : slots + 6 ≤ R.slots) (hc : cells + 1 ≤ mc0) (hs : slots + 6 ≤ ms0) (hx : X0 cls E) :
    W p l e R s m args below meth c H locs cells slots Q (F0 m pc ls rest) := by
  subst hQ
  obtain ⟨f1, f2, f3, ix, rx, ⟨x0, x1, x2, x5⟩, f4, f5, f6⟩ := hF
  obtain ⟨sa, hsa⟩ := hT.2 _ hq
  refine vx_throwX B.1 B.2.1 hl x0 x1 x2 x5 (names := ["java/lang/RuntimeException", "java/lang/Exception"]) B.2.2.2.1 f1 (by decide +kernel) (B.2.2.2.2.1 _ f2) (B.2.2.2.2.1 _ f3) hsa (vx_hat (fun w h => B.2.2.2.2.1 _ (f4 w h)) f5 (fun w h => va_tabs ?_ rfl (hT.1 w h))) f6 hX.1.1 hX.1.2 hS (by rw [hsize, B.2.2.1]) d0 d3 d4 d6 d9 (fun x hx => (htb x hx).elim) hRf hRl hRc hRs hlk (fun t hvm h1 h2 => ⟨E, trivial, ⟨hx, hW.kept (fun k hk => h2 _ (hW.lt hk))⟩, ⟨Nat.le_trans hS.1 h1, fun q hq1 hq2 => by rw [h2 q (Nat.lt_of_lt_of_le hq1 hS.1)]; exact hS.2.1 q hq1 hq2⟩⟩) hS.2.2 hc hs
  have h9 := nxw_ok w h
  cases w <;> first | rfl | (simp [okN, Cond.faceAtom, Cond.onTables] at h9; done)
/-! ends -/
theorem hH.eq {E E' : Nat → va_E} (h : hH D ad N E H) (he : E = E') : hH D ad N E' H := he ▸ h
theorem e_i (hQ : Q = MQ below (Qi D ad N post A) args s mc ms A) (B : MB p c cc nL own s m args D tys) (hr : meth.sig.returnType = some .int) (hlk : meth.locks = false) (hS : va_S A s.heap H locs) {E1 : Nat → va_E} {r : Int32} (hW : hH D ad N E1 H) (hdg : decode cc pc = .ok (.ireturn, 1)) (hc : cells ≤ mc) (hs : slots ≤ ms) (hp : post r E1) : W p l e R s m args below meth c H locs cells slots Q (F0 m pc ls [.int r]) := by
  subst hQ
  exact W.widen hc hs (W.iret B.1 B.2.1 hr (fun t ht _ => ⟨⟨r, E1, rfl, hp, show hH D ad N E1 t.heap from by rw [ht]; exact hW⟩, hS.F ht⟩) hS.2.2 hdg hlk)
theorem e_n (hQ : Q = MQ below (Qi D ad N post A) args s mc ms A) (B : MB p c cc nL own s m args D tys) {ty : FieldType} (hr : meth.sig.returnType = some ty) (hlk : meth.locks = false) (hS : va_S A s.heap H locs) {E1 : Nat → va_E} {r : Int32} (hn : narrow ty (.int r) = .int r) (hW : hH D ad N E1 H) (hdg : decode cc pc = .ok (.ireturn, 1)) (hc : cells ≤ mc) (hs : slots ≤ ms) (hp : post r E1) : W p l e R s m args below meth c H locs cells slots Q (F0 m pc ls [.int r]) := by
  subst hQ
  exact W.widen hc hs (W.zret B.1 B.2.1 hr hn (fun t ht _ => ⟨⟨r, E1, rfl, hp, show hH D ad N E1 t.heap from by rw [ht]; exact hW⟩, hS.F ht⟩) hS.2.2 hdg hlk)
theorem e_q (hQ : Q = MQ below (Qq D ad N postq A) args s mc ms A) (B : MB p c cc nL own s m args D tys) {C : String} (hr : meth.sig.returnType = some (.object C)) (hlk : meth.locks = false) (hS : va_S A s.heap H locs) {E1 : Nat → va_E} {a : Nat} (hW : hH D ad N E1 H) (hdg : decode cc pc = .ok (.areturn, 1)) (hc : cells ≤ mc) (hs : slots ≤ ms) (hp : postq (some a) E1) : W p l e R s m args below meth c H locs cells slots Q (F0 m pc ls [.ref a]) := by
  subst hQ
  exact W.widen hc hs (W.aret (v := .ref a) B.1 B.2.1 hr (Or.inl ⟨_, rfl⟩) (Or.inr ⟨a, rfl⟩) (fun t ht _ => ⟨⟨some a, E1, rfl, hp, show hH D ad N E1 t.heap from by rw [ht]; exact hW⟩, hS.F ht⟩) hS.2.2 hdg hlk)
theorem e_v (hQ : Q = MQ below (Qv D ad N postv A) args s mc ms A) (B : MB p c cc nL own s m args D tys) (hr : meth.sig.returnType = none) (hlk : meth.locks = false) (hS : va_S A s.heap H locs) {E1 : Nat → va_E} (hW : hH D ad N E1 H) (hdg : decode cc pc = .ok (.return_, 1)) (hc : cells ≤ mc) (hs : slots ≤ ms) (hp : postv E1) : W p l e R s m args below meth c H locs cells slots Q (F0 m pc ls []) := by
  subst hQ
  exact W.widen hc hs (W.vret B.1 B.2.1 hr (fun t ht _ => ⟨⟨E1, rfl, hp, show hH D ad N E1 t.heap from by rw [ht]; exact hW⟩, hS.F ht⟩) hS.2.2 hdg hlk)
theorem e_l (hQ : Q = MQ below (Ql D ad N postl A) args s mc ms A) (B : MB p c cc nL own s m args D tys) (hr : meth.sig.returnType = some .long) (hlk : meth.locks = false) (hS : va_S A s.heap H locs) {E1 : Nat → va_E} {r : Int64} (hW : hH D ad N E1 H) (hdg : decode cc pc = .ok (.lreturn, 1)) (hc : cells ≤ mc) (hs : slots ≤ ms) (hp : postl r E1) : W p l e R s m args below meth c H locs cells slots Q (F0 m pc ls [.long r]) := by
  subst hQ
  exact W.widen hc hs (W.lret B.1 B.2.1 hr (fun t ht _ => ⟨⟨r, E1, rfl, hp, show hH D ad N E1 t.heap from by rw [ht]; exact hW⟩, hS.F ht⟩) hS.2.2 hdg hlk)
theorem e_f (hQ : Q = MQ below (Qf D ad N postf A) args s mc ms A) (B : MB p c cc nL own s m args D tys) (hr : meth.sig.returnType = some .float) (hlk : meth.locks = false) (hS : va_S A s.heap H locs) {E1 : Nat → va_E} {r : UInt32} (hW : hH D ad N E1 H) (hdg : decode cc pc = .ok (.freturn, 1)) (hc : cells ≤ mc) (hs : slots ≤ ms) (hp : postf r E1) : W p l e R s m args below meth c H locs cells slots Q (F0 m pc ls [.float r]) := by
  subst hQ
  exact W.widen hc hs (W.fret B.1 B.2.1 hr (fun t ht _ => ⟨⟨r, E1, rfl, hp, show hH D ad N E1 t.heap from by rw [ht]; exact hW⟩, hS.F ht⟩) hS.2.2 hdg hlk)
theorem e_d (hQ : Q = MQ below (Qd D ad N postd A) args s mc ms A) (B : MB p c cc nL own s m args D tys) (hr : meth.sig.returnType = some .double) (hlk : meth.locks = false) (hS : va_S A s.heap H locs) {E1 : Nat → va_E} {r : UInt64} (hW : hH D ad N E1 H) (hdg : decode cc pc = .ok (.dreturn, 1)) (hc : cells ≤ mc) (hs : slots ≤ ms) (hp : postd r E1) : W p l e R s m args below meth c H locs cells slots Q (F0 m pc ls [.double r]) := by
  subst hQ
  exact W.widen hc hs (W.dret B.1 B.2.1 hr (fun t ht _ => ⟨⟨r, E1, rfl, hp, show hH D ad N E1 t.heap from by rw [ht]; exact hW⟩, hS.F ht⟩) hS.2.2 hdg hlk)
theorem x_i {XC : String → State → State → Prop} (hQ : Q = vx_MQ below (Qi D ad N post A) XC args s mc ms A) (B : MB p c cc nL own s m args D tys) (hr : meth.sig.returnType = some .int) (hlk : meth.locks = false) (hS : va_S A s.heap H locs) {E1 : Nat → va_E} {r : Int32} (hW : hH D ad N E1 H) (hdg : decode cc pc = .ok (.ireturn, 1)) (hc : cells ≤ mc) (hs : slots ≤ ms) (hp : post r E1) : W p l e R s m args below meth c H locs cells slots Q (F0 m pc ls [.int r]) := by
  subst hQ
  exact vx_ret (e_i rfl B hr hlk hS hW hdg hc hs hp)
theorem x_n {XC : String → State → State → Prop} (hQ : Q = vx_MQ below (Qi D ad N post A) XC args s mc ms A) (B : MB p c cc nL own s m args D tys) {ty : FieldType} (hr : meth.sig.returnType = some ty) (hlk : meth.locks = false) (hS : va_S A s.heap H locs) {E1 : Nat → va_E} {r : Int32} (hn : narrow ty (.int r) = .int r) (hW : hH D ad N E1 H) (hdg : decode cc pc = .ok (.ireturn, 1)) (hc : cells ≤ mc) (hs : slots ≤ ms) (hp : post r E1) : W p l e R s m args below meth c H locs cells slots Q (F0 m pc ls [.int r]) := by
  subst hQ
  exact vx_ret (e_n rfl B hr hlk hS hn hW hdg hc hs hp)
theorem x_q {XC : String → State → State → Prop} (hQ : Q = vx_MQ below (Qq D ad N postq A) XC args s mc ms A) (B : MB p c cc nL own s m args D tys) {C : String} (hr : meth.sig.returnType = some (.object C)) (hlk : meth.locks = false) (hS : va_S A s.heap H locs) {E1 : Nat → va_E} {a : Nat} (hW : hH D ad N E1 H) (hdg : decode cc pc = .ok (.areturn, 1)) (hc : cells ≤ mc) (hs : slots ≤ ms) (hp : postq (some a) E1) : W p l e R s m args below meth c H locs cells slots Q (F0 m pc ls [.ref a]) := by
  subst hQ
  exact vx_ret (e_q rfl B hr hlk hS hW hdg hc hs hp)
theorem x_v {XC : String → State → State → Prop} (hQ : Q = vx_MQ below (Qv D ad N postv A) XC args s mc ms A) (B : MB p c cc nL own s m args D tys) (hr : meth.sig.returnType = none) (hlk : meth.locks = false) (hS : va_S A s.heap H locs) {E1 : Nat → va_E} (hW : hH D ad N E1 H) (hdg : decode cc pc = .ok (.return_, 1)) (hc : cells ≤ mc) (hs : slots ≤ ms) (hp : postv E1) : W p l e R s m args below meth c H locs cells slots Q (F0 m pc ls []) := by
  subst hQ
  exact vx_ret (e_v rfl B hr hlk hS hW hdg hc hs hp)
theorem x_f {XC : String → State → State → Prop} (hQ : Q = vx_MQ below (Qf D ad N postf A) XC args s mc ms A) (B : MB p c cc nL own s m args D tys) (hr : meth.sig.returnType = some .float) (hlk : meth.locks = false) (hS : va_S A s.heap H locs) {E1 : Nat → va_E} {r : UInt32} (hW : hH D ad N E1 H) (hdg : decode cc pc = .ok (.freturn, 1)) (hc : cells ≤ mc) (hs : slots ≤ ms) (hp : postf r E1) : W p l e R s m args below meth c H locs cells slots Q (F0 m pc ls [.float r]) := by
  subst hQ
  exact vx_ret (e_f rfl B hr hlk hS hW hdg hc hs hp)
theorem x_d {XC : String → State → State → Prop} (hQ : Q = vx_MQ below (Qd D ad N postd A) XC args s mc ms A) (B : MB p c cc nL own s m args D tys) (hr : meth.sig.returnType = some .double) (hlk : meth.locks = false) (hS : va_S A s.heap H locs) {E1 : Nat → va_E} {r : UInt64} (hW : hH D ad N E1 H) (hdg : decode cc pc = .ok (.dreturn, 1)) (hc : cells ≤ mc) (hs : slots ≤ ms) (hp : postd r E1) : W p l e R s m args below meth c H locs cells slots Q (F0 m pc ls [.double r]) := by
  subst hQ
  exact vx_ret (e_d rfl B hr hlk hS hW hdg hc hs hp)
end BASE
/-! ===== a method's entry ===== -/
section ENTRY
variable {l : Launch} {y : MethodName} {cc : ByteArray} {maxL : Nat} {ret : Option FieldType} {rm : Room} {As : List Value} {D : va_G} {tys : List (ClassId × FieldType)} {ad : Nat → Nat} {N : Nat} {E : Nat → va_E} {mc ms : Nat}
theorem cm_of {own : String} {Qc : (Nat → Prop) → Array Value → State → Outcome → State → Prop} (ho : y.cls = own) (hy : plainName y.cls = true) (hL : (lg_sl As).length ≤ maxL)
    (body : ∀ (p : Program) (e : Env) (s : State) (m : MethodId) (args : Array Value) (below : List Frame) (meth : Method) (c : Code) (ls : Array Slot) (Q : State → Prop), MB p c cc maxL own s m args D tys → TX s → HX (cA ad N s.heap.size) s s.heap → hH D ad N E s.heap → meth.sig.returnType = ret → meth.locks = false → meth.name = y.name → lv_has ls maxL (lv_args 0 As) → va_S (cA ad N s.heap.size) s.heap s.heap [] → (∀ k : Nat, k < N → cA ad N s.heap.size (ad k)) →
      Q = MQ below (Qc (cA ad N s.heap.size)) args s mc ms (cA ad N s.heap.size) → W p l e rm s m args below meth c s.heap [] 0 0 Q (F0 m 0 ls [])) (sz : Nat) :
    Met l y (Cond.code y cc maxL ret :: wsL_law) rm (va_Pc As (PC D tys ad N E sz)) (Qc (cA ad N sz)) mc ms (cA ad N sz) := by
  refine Met.ofW (cc := cc) (maxL := maxL) (ret := ret) hy rfl ?_
  intro p e s m args below meth c s₁ B hml hv
  obtain ⟨rfl, hsz, hW, hK, hT, hX⟩ := hv
  subst hsz
  have hts0 := atoms_spec (ws := Cond.code y cc maxL ret :: wsL_law) B.pre
  have hown : s.vm.findClass y.cls = some m.cls := findClass_of_methodNamed B.named
  rw [ho] at hown
  have hl := lv_entry As (n := maxL) hL
  rw [lg_entry_eq]
  generalize (lg_sl As ++ List.replicate (maxL - (lg_sl As).length) Slot.unset).toArray = ls at hl ⊢
  exact body p e s m _ below meth c ls _ ⟨B.exec, B.bytes, hml, hown, fun w h => hts0 w (List.mem_cons_of_mem _ h), hK⟩ hT hX hW B.returns B.notSynchronized (name_of_methodNamed B.named B.method).1 hl va_S.rf (fun k hk => cA.in_ hk) rfl
theorem cx_of {own : String} {Qc : (Nat → Prop) → Array Value → State → Outcome → State → Prop} {XC : (Nat → Prop) → String → State → State → Prop} (ho : y.cls = own) (hy : plainName y.cls = true) (hL : (lg_sl As).length ≤ maxL)
    (body : ∀ (p : Program) (e : Env) (s : State) (m : MethodId) (args : Array Value) (below : List Frame) (meth : Method) (c : Code) (ls : Array Slot) (Q : State → Prop), MB p c cc maxL own s m args D tys → TX s → HX (cA ad N s.heap.size) s s.heap → hH D ad N E s.heap → meth.sig.returnType = ret → meth.locks = false → (∀ x ∈ c.exceptionTable.toList, False) → lv_has ls maxL (lv_args 0 As) → va_S (cA ad N s.heap.size) s.heap s.heap [] → (∀ k : Nat, k < N → cA ad N s.heap.size (ad k)) →
      Q = vx_MQ below (Qc (cA ad N s.heap.size)) (XC (cA ad N s.heap.size)) args s mc ms (cA ad N s.heap.size) → W p l e rm s m args below meth c s.heap [] 0 0 Q (F0 m 0 ls [])) (sz : Nat) :
    vx_Met l y (Cond.code y cc maxL ret :: wsL_law) rm (va_Pc As (PC D tys ad N E sz)) (Qc (cA ad N sz)) (XC (cA ad N sz)) mc ms (cA ad N sz) := by
  refine vx_ofW (cc := cc) (maxL := maxL) (ret := ret) hy rfl ?_
  intro p e s m args below meth c s₁ B hml htb hv
  obtain ⟨rfl, hsz, hW, hK, hT, hX⟩ := hv
  subst hsz
  have hts0 := atoms_spec (ws := Cond.code y cc maxL ret :: wsL_law) B.pre
  have hown : s.vm.findClass y.cls = some m.cls := findClass_of_methodNamed B.named
  rw [ho] at hown
  have hl := lv_entry As (n := maxL) hL
  rw [lg_entry_eq]
  generalize (lg_sl As ++ List.replicate (maxL - (lg_sl As).length) Slot.unset).toArray = ls at hl ⊢
  exact body p e s m _ below meth c ls _ ⟨B.exec, B.bytes, hml, hown, fun w h => hts0 w (List.mem_cons_of_mem _ h), hK⟩ hT hX hW B.returns B.notSynchronized htb hl va_S.rf (fun k hk => cA.in_ hk) rfl
end ENTRY
abbrev rmk (k mc ms : Nat) : Room := { frames := 6 + k, cells := mc, slots := ms, locals := 100 + 60 * k }

