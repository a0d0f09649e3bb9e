/-! ===== the abstract walk: calls ===== -/
def aw_x (G : ag_T) (M : am_M) (fr lo kc ks pc : Nat) (lv : List (Nat × Value)) (st : List Value) (h : List va_E) (k9 ci : Nat) (Q : aq_T) : Prop :=
  ∀ (p : Program) (l : Launch) (e : Env) (R : Room) (s : State) (m : MethodId) (args : Array Value) (below : List Frame) (meth : Method) (c : Code) (H : Heap) (locs : List Loc) (cells slots mc ms : Nat) (ls : Array Slot),
    aw_C G M fr lo p l R s m args meth c → lv_has ls M.2.2.2.1 lv → ah_R G h H → h[k9]? = some (.inr (ci, [])) → aw_O G s s.heap → va_S (aw_A G) s.heap H locs → G.1 ≤ s.heap.size → cells + kc ≤ mc → slots + ks ≤ ms → mc ≤ R.cells → ms ≤ R.slots →
    ∀ T : State, T.heap = H → Stand p l e R s m args below meth c T locs cells slots → ∃ t, Steps p.tables e below ((T.setTop (F0 m pc ls st)).pushFrame (.throwing (G.1 + k9))) t ∧ aw_Z G Q below mc ms s t
/-- a method of the program, by its words -/
def aw_my (Y : am_M) : Prop := ((Cond.code Y.2.1 Y.2.2.1 Y.2.2.2.1 Y.2.2.2.2.1 ∈ aw_T ∧ Y.2.2.2.2.2 = []) ∨ Cond.codeWith Y.2.1 Y.2.2.1 Y.2.2.2.1 Y.2.2.2.2.1 Y.2.2.2.2.2 ∈ aw_T) ∧ plainFor Y.2.1 = true ∧ Y.1 = Y.2.1.cls
theorem aw_my.facts {Y : am_M} (hY : aw_my Y) {args : Array Value} {s : State} (hts : ∀ w ∈ aw_T, w.before args s = true) :
    ∃ (mk : MethodId) (methk : Method) (ck : Code), s.methodNamed? Y.2.1 = some mk ∧ s.vm.method? mk = some methk ∧ methk.code = some ck ∧ ck.code = Y.2.2.1 ∧ ck.maxLocals = Y.2.2.2.1 ∧ methk.sig.returnType = Y.2.2.2.2.1 ∧ methk.locks = false ∧ ck.exceptionTable.toList = tableOf Y.2.2.2.2.2 ∧ parseMethodDescriptor Y.2.1.desc = some methk.sig := by
  rcases hY.1 with ⟨hw, he⟩ | hw
  · obtain ⟨mk, hn⟩ := Cond.code_named (hts _ hw)
    obtain ⟨methk, ck, q1, q2, q3, q4, q5, q6, q7, q8⟩ := Cond.code_spec hn (hts _ hw)
    refine ⟨mk, methk, ck, hn, q1, q2, q3, q4, q5, q6, ?_, q8⟩
    rw [he, Array.isEmpty_iff.mp q7]
    rfl
  · obtain ⟨mk, methk, ck, hn, q1, q2, q3, q4, q6, q5, q7, q8⟩ := Cond.codeWith_spec (hts _ hw)
    refine ⟨mk, methk, ck, hn, q1, q2, q3, q4, q5, q7, ?_, q8⟩
    rw [← q6, table_eq]
theorem aw_Sc {A : Nat → Prop} {H0 H H1 : Heap} {locs L : List Loc} (hS : va_S A H0 H locs) (h1 : va_S A H H1 L) : va_S A H0 H1 (locs ++ L) :=
  ⟨Nat.le_trans hS.1 h1.1, fun q a b => (h1.2.1 q (Nat.lt_of_lt_of_le a hS.1) b).trans (hS.2.1 q a b), fun q hq => (List.mem_append.mp hq).elim (hS.2.2 q) (h1.2.2 q)⟩
/-- the invoking instruction's own step -/
def aw_iv (p : Program) (l : Launch) (e : Env) (R : Room) (s : State) (m : MethodId) (args : Array Value) (below : List Frame) (meth : Method) (c : Code) (H : Heap) (locs : List Loc) (cells slots pc : Nat) (ls : Array Slot) (st rest : List Value) (y : MethodName) (as : List Value) : Prop :=
  ∀ T : State, T.heap = H → Stand p l e R s m args below meth c T locs cells slots → ∃ (vm₁ : Vm) (mk : MethodId), Stand p l e R s m args below meth c (T.setVm vm₁) locs cells slots ∧ s.methodNamed? y = some mk ∧
    ∀ target, Steps p.tables e below (doInvoke e ((T.setVm vm₁).setTop (F0 m pc ls rest)) [] mk as.toArray).1 target → Steps p.tables e below (T.setTop (F0 m pc ls st)) target
section AWC
variable {G : ag_T} {M : am_M} {fr lo kc ks pc : Nat} {lv : List (Nat × Value)} {st : List Value} {h : List va_E} {Q : aq_T}
theorem aw_core (Y : am_M) {ig : Instr} {fr' lo' kc1 ks1 kc' ks' : Nat} {as rest : List Value} {Qc : aq_T} (hd : decode M.2.2.1 pc = .ok (ig, 3)) (hY : aw_my Y) (hf9 : fr' + 1 ≤ fr) (hk1 : kc = kc1 + kc') (hk2 : ks = ks1 + ks') (hrest : (rest.map fun v => v.category).sum + (Y.2.2.2.1 + 11) + lo' ≤ lo) (hlen : (lg_sl as).length ≤ Y.2.2.2.1)
    (hiv : ∀ (p : Program) (l : Launch) (e : Env) (R : Room) (s : State) (m : MethodId) (args : Array Value) (below : List Frame) (meth : Method) (c : Code) (H : Heap) (locs : List Loc) (cells slots : Nat) (ls : Array Slot), aw_C G M fr lo p l R s m args meth c → ah_R G h H → aw_iv p l e R s m args below meth c H locs cells slots pc ls st rest Y.2.1 as)
    (hent : aw_w G Y fr' lo' kc1 ks1 0 (lv_args 0 as) [] h Qc)
    (kret : ∀ v h', Qc (.inl v) h' → aw_w G M fr lo kc' ks' (pc + 3) lv (v.toList ++ rest) h' Q)
    (kthr : ∀ k9 ci h', Qc (.inr ci) h' → aw_x G M fr lo kc' ks' pc lv rest h' k9 ci Q) : aw_w G M fr lo kc ks pc lv st h Q := by
  intro p l e R s m args below meth c H locs cells slots mc ms ls C hl hR hO hS hG h1 h2 h3 h4 T hT X
  obtain ⟨hx, hb, hml, hown, hts, hret, htab, hlk, hnm, hst9, hK, hfr, hlo⟩ := id C
  obtain ⟨vm₁, mk, X1, hn, hst⟩ := hiv p l e R s m args below meth c H locs cells slots ls C hR T hT X
  obtain ⟨mk', methk, ck, hn', hmk, hck, hcb, hcl, hcr, hlkk, hctab, hsig⟩ := hY.facts hts
  have emk : mk = mk' := Option.some.inj (hn.symm.trans hn')
  subst emk
  obtain ⟨-, hY2, hY3⟩ := hY
  have hW1 : s.WarmedH vm₁ := X1.warmed
  have hmk1 : (T.setVm vm₁).vm.method? mk = some methk := by
    show vm₁.method? mk = _
    rw [hW1.alike.method?]; exact hmk
  have hpk : (T.setVm vm₁).plainMethod mk := State.plainMethod.of_named hY2 (X1.named hn) hmk1
  have hsz : (F0 m pc ls rest).locals.size = c.maxLocals := hl.1.trans hml.symm
  have hdg : decode c.code (F0 m pc ls rest).pc = .ok (ig, 3) := by rw [hb]; exact hd
  obtain ⟨Y0, hin⟩ := X1.into (g := F0 m pc ls rest) rfl hsz hdg as.toArray (R' := aw_rm fr' lo' kc1 ks1) hmk1 hck hlkk hpk (by show fr' + 1 ≤ R.frames; omega)
    (by show 2 * 0 + (rest.map fun v => v.category).sum + (ck.maxLocals + 11) + lo' ≤ R.locals; rw [hcl]; omega) (by show cells + kc1 ≤ R.cells; omega) (by show slots + ks1 ≤ R.slots; omega)
  obtain ⟨s', hs'⟩ : ∃ z, z = (T.setVm vm₁).calling (F0 m pc ls rest) mk as.toArray := ⟨_, rfl⟩
  obtain ⟨U0, hU0⟩ : ∃ z, z = ((T.setVm vm₁).setTop (F0 m pc ls rest)).pushFrame (.java (entryFrame mk as.toArray ck.maxLocals)) := ⟨_, rfl⟩
  rw [← hs', ← hU0] at Y0
  have hv' : s'.vm = vm₁ := by rw [hs']; rfl
  have hh' : s'.heap = H := by rw [hs']; exact hT
  have hW' : s.WarmedH s'.vm := by rw [hv']; exact hW1
  have Cc : aw_C G Y fr' lo' p l (aw_rm fr' lo' kc1 ks1) s' mk as.toArray methk ck :=
    ⟨hx, hcb, hcl, by rw [hY3, hW'.alike.findClass]; exact findClass_of_methodNamed hn, fun w hw => word_at hW' (aw_good w hw) (hts w hw), hcr, hctab, hlkk, (name_of_methodNamed hn hmk).1, hst9, hK.moved hW', Nat.le_refl _, Nat.le_refl _⟩
  have hlv : lv_has ((lg_sl as ++ List.replicate (ck.maxLocals - (lg_sl as).length) Slot.unset).toArray) Y.2.2.2.1 (lv_args 0 as) := by
    rw [← hcl]
    exact lv_entry as (by rw [hcl]; exact hlen)
  have hO' : aw_O G s' s'.heap := by
    rw [hh']
    exact (hO.moved hW').kept hS.2.1
  obtain ⟨t, a1, o, b1, b2, h', L, c1, c2, c3, c4, c5⟩ := hent p l e (aw_rm fr' lo' kc1 ks1) s' mk as.toArray (.java (F0 m pc ls rest) :: below) methk ck H [] 0 0 kc1 ks1 _ Cc hlv hR hO'
    (by rw [hh']; exact va_S.rf) (by rw [hh']; exact Nat.le_trans hG hS.1) (by omega) (by omega) (Nat.le_refl _) (Nat.le_refl _) U0 (by rw [hU0]; exact hT) Y0
  rw [← lg_entry_eq mk as ck.maxLocals] at a1
  have a2 : Steps p.tables e below (doInvoke e ((T.setVm vm₁).setTop (F0 m pc ls rest)) [] mk as.toArray).1 t := by
    rw [hin [], ← hU0]
    exact Steps.weaken (mid := [.java (F0 m pc ls rest)]) a1
  rw [hs'] at c2 c3
  rw [hh'] at c4
  rcases c5 with ⟨v, ho, hq⟩ | ⟨k9, ci, ho, hcell, hq⟩
  · subst ho
    obtain ⟨T', X', -, -, ht⟩ := X1.outOf (g := F0 m pc ls rest) rfl hdg b2 c2 c3
    have hth : T'.heap = t.heap := by rw [ht]; rfl
    obtain ⟨t2, d1, d2⟩ := kret v h' hq p l e R s m args below meth c T'.heap (locs ++ L) (cells + kc1) (slots + ks1) mc ms ls C hl (by rw [hth]; exact c1) hO (by rw [hth]; exact aw_Sc hS c4) hG (by omega) (by omega) h3 h4 T' rfl X'
    refine ⟨t2, hst _ (a2.trans ?_), d2⟩
    rw [ht]
    exact d1
  · subst ho
    obtain ⟨T', X', -, -, ht⟩ := X1.outOfThrown (g := F0 m pc ls rest) rfl b2 c2 c3
    have hth : T'.heap = t.heap := by rw [ht]; rfl
    obtain ⟨t2, d1, d2⟩ := kthr k9 ci h' hq p l e R s m args below meth c T'.heap (locs ++ L) (cells + kc1) (slots + ks1) mc ms ls C hl (by rw [hth]; exact c1) hcell hO (by rw [hth]; exact aw_Sc hS c4) hG (by omega) (by omega) h3 h4 T' rfl X'
    refine ⟨t2, hst _ (a2.trans ?_), d2⟩
    rw [ht]
    exact d1
def aw_mh (y : MethodName) : Prop := y.cls ≠ "java/lang/invoke/MethodHandle" ∧ y.cls ≠ "java/lang/invoke/VarHandle"
def aw_cs (own : String) (idx : Nat) (Y : am_M) : Prop := Cond.methodLink own idx Y.2.1 ∈ aw_T ∧ Cond.static Y.2.1 ∈ aw_T ∧ Cond.initialized Y.2.1.cls ∈ aw_T ∧ aw_mh Y.2.1
def aw_cn (own : String) (idx : Nat) (host : String) (Y : am_M) : Prop := Cond.methodLinkNest own idx Y.2.1 host ∈ aw_N ∧ Cond.static Y.2.1 ∈ aw_T ∧ Cond.initialized Y.2.1.cls ∈ aw_T ∧ aw_mh Y.2.1
def aw_cv (own : String) (idx : Nat) (Y : am_M) : Prop := Cond.methodLink own idx Y.2.1 ∈ aw_T ∧ Cond.instanceMethod Y.2.1 ∈ aw_T ∧ Cond.selects Y.2.1.cls Y.2.1 Y.2.1 ∈ aw_T ∧ aw_mh Y.2.1
def aw_ci (own : String) (idx : Nat) (Y : am_M) : Prop := Cond.methodLink own idx Y.2.1 ∈ aw_T ∧ Cond.instanceMethod Y.2.1 ∈ aw_T ∧ Y.2.1.name = "<init>" ∧ Y.2.2.2.2.1 = none ∧ Y.2.2.2.2.2 = [] ∧ Cond.code Y.2.1 Y.2.2.1 Y.2.2.2.1 none ∈ aw_T ∧ aw_mh Y.2.1
def aw_np (Y : am_M) (n : Nat) : Prop := (parseMethodDescriptor Y.2.1.desc).map (fun d => d.parameters.length) = some n
theorem aw_np.of {Y : am_M} {n : Nat} (h : aw_np Y n) {sig : MethodDescriptor} (hs : parseMethodDescriptor Y.2.1.desc = some sig) : n = sig.parameters.length := by
  unfold aw_np at h
  rw [hs] at h
  exact (Option.some.inj h).symm
theorem aw_callS (Y : am_M) {idx fr' lo' kc1 ks1 kc' ks' : Nat} (as rest : List Value) {Qc : aq_T} (hd : decode M.2.2.1 pc = .ok (.invokestatic idx, 3)) (hC : aw_cs M.1 idx Y) (hY : aw_my Y) (hp : aw_np Y as.length) (hst : st = as.reverse ++ rest) (hf9 : fr' + 1 ≤ fr) (hk1 : kc = kc1 + kc') (hk2 : ks = ks1 + ks') (hrest : (rest.map fun v => v.category).sum + (Y.2.2.2.1 + 11) + lo' ≤ lo) (hlen : (lg_sl as).length ≤ Y.2.2.2.1)
    (hent : aw_w G Y fr' lo' kc1 ks1 0 (lv_args 0 as) [] h Qc)
    (kret : ∀ v h', Qc (.inl v) h' → aw_w G M fr lo kc' ks' (pc + 3) lv (v.toList ++ rest) h' Q)
    (kthr : ∀ k9 ci h', Qc (.inr ci) h' → aw_x G M fr lo kc' ks' pc lv rest h' k9 ci Q) : aw_w G M fr lo kc ks pc lv st h Q := by
  refine aw_core Y hd hY hf9 hk1 hk2 hrest hlen ?_ hent kret kthr
  intro p l e R s m args below meth c H locs cells slots ls C hR T hT X
  obtain ⟨hx, hb, hml, hown, hts, -⟩ := id C
  obtain ⟨mk, methk, ck, hn, hmk, -, -, -, -, -, -, hsig⟩ := hY.facts hts
  obtain ⟨kP, hkP, -⟩ := className_of_methodNamed hn
  obtain ⟨vm₁, X₁, hs1⟩ := X.invokestatic hx hown (hts _ hC.1) hn hmk (Cond.static_spec hn hmk (hts _ hC.2.1)) hkP (Cond.initialized_spec (findClass_of_methodNamed hn) hkP (hts _ hC.2.2.1)) hC.2.2.2 (g := F0 m pc ls st) rfl (argsL := as) (rest := rest) (hp.of hsig) hst (by rw [hb]; exact hd)
  exact ⟨vm₁, mk, X₁, hn, fun target h9 => hs1 _ fun acts => by rw [doInvoke_state]; exact h9⟩
theorem aw_callSN (Y : am_M) {idx fr' lo' kc1 ks1 kc' ks' : Nat} (host : String) (as rest : List Value) {Qc : aq_T} (hd : decode M.2.2.1 pc = .ok (.invokestatic idx, 3)) (hC : aw_cn M.1 idx host Y) (hY : aw_my Y) (hp : aw_np Y as.length) (hst : st = as.reverse ++ rest) (hf9 : fr' + 1 ≤ fr) (hk1 : kc = kc1 + kc') (hk2 : ks = ks1 + ks') (hrest : (rest.map fun v => v.category).sum + (Y.2.2.2.1 + 11) + lo' ≤ lo) (hlen : (lg_sl as).length ≤ Y.2.2.2.1)
    (hent : aw_w G Y fr' lo' kc1 ks1 0 (lv_args 0 as) [] h Qc)
    (kret : ∀ v h', Qc (.inl v) h' → aw_w G M fr lo kc' ks' (pc + 3) lv (v.toList ++ rest) h' Q)
    (kthr : ∀ k9 ci h', Qc (.inr ci) h' → aw_x G M fr lo kc' ks' pc lv rest h' k9 ci Q) : aw_w G M fr lo kc ks pc lv st h Q := by
  refine aw_core Y hd hY hf9 hk1 hk2 hrest hlen ?_ hent kret kthr
  intro p l e R s m args below meth c H locs cells slots ls C hR T hT X
  obtain ⟨hx, hb, hml, hown, hts, hret, htab, hlk, hnm, hst9, hK, hfr, hlo⟩ := id C
  obtain ⟨mk, methk, ck, hn, hmk, -, -, -, -, -, -, hsig⟩ := hY.facts hts
  obtain ⟨kP, hkP, -⟩ := className_of_methodNamed hn
  obtain ⟨vm₁, X₁, hs1⟩ := X.invokestaticNest hx hown (va_Nw.use rfl (hK.2.1 _ hC.1)) hn hmk (Cond.static_spec hn hmk (hts _ hC.2.1)) hkP (Cond.initialized_spec (findClass_of_methodNamed hn) hkP (hts _ hC.2.2.1)) hC.2.2.2 (g := F0 m pc ls st) rfl (argsL := as) (rest := rest) (hp.of hsig) hst (by rw [hb]; exact hd)
  exact ⟨vm₁, mk, X₁, hn, fun target h9 => hs1 _ fun acts => by rw [doInvoke_state]; exact h9⟩
theorem aw_callV (Y : am_M) {idx fr' lo' kc1 ks1 kc' ks' : Nat} (i ci : Nat) (as rest : List Value) {fs : List Value} {Qc : aq_T} (hd : decode M.2.2.1 pc = .ok (.invokevirtual idx, 3)) (hC : aw_cv M.1 idx Y) (hY : aw_my Y) (hp : aw_np Y as.length) (hh : h[i]? = some (.inr (ci, fs))) (hci : (am_cl[ci]?).map (·.1) = some Y.2.1.cls) (hst : st = as.reverse ++ .ref (G.1 + i) :: rest) (hf9 : fr' + 1 ≤ fr) (hk1 : kc = kc1 + kc') (hk2 : ks = ks1 + ks') (hrest : (rest.map fun v => v.category).sum + (Y.2.2.2.1 + 11) + lo' ≤ lo) (hlen : (lg_sl (.ref (G.1 + i) :: as)).length ≤ Y.2.2.2.1)
    (hent : aw_w G Y fr' lo' kc1 ks1 0 (lv_args 0 (.ref (G.1 + i) :: as)) [] h Qc)
    (kret : ∀ v h', Qc (.inl v) h' → aw_w G M fr lo kc' ks' (pc + 3) lv (v.toList ++ rest) h' Q)
    (kthr : ∀ k9 ci h', Qc (.inr ci) h' → aw_x G M fr lo kc' ks' pc lv rest h' k9 ci Q) : aw_w G M fr lo kc ks pc lv st h Q := by
  refine aw_core Y (as := .ref (G.1 + i) :: as) hd hY hf9 hk1 hk2 hrest hlen ?_ hent kret kthr
  intro p l e R s m args below meth c H locs cells slots ls C hR T hT X
  obtain ⟨hx, hb, hml, hown, hts, hret, htab, hlk, hnm, hst9, hK, hfr, hlo⟩ := id C
  obtain ⟨mk, methk, ck, hn, hmk, -, -, -, -, -, -, hsig⟩ := hY.facts hts
  obtain ⟨r, hr, cellB, g1, g2, g3, -⟩ := hR.cell hh
  have hcls : s.vm.findClass Y.2.1.cls = some cellB.cls := by
    rw [hr] at hci
    rw [← Option.some.inj hci, g2]
    exact (hK.1.1 ci r hr).2.1
  obtain ⟨mk2, methM, hnamed, hmethM, hstM, habM⟩ := Cond.instanceMethod_spec (hts _ hC.2.1)
  cases Option.some.inj (hn.symm.trans hnamed)
  cases Option.some.inj (hmk.symm.trans hmethM)
  obtain ⟨c2, r2, m2, q1, q2, q3, q4, kP, hkP, hkPi⟩ := Cond.selects_spec (hts _ hC.2.2.1)
  cases Option.some.inj (hcls.symm.trans q1)
  cases Option.some.inj ((State.methodFound?_of_named hn hC.2.2.2).symm.trans q2)
  cases Option.some.inj (hn.symm.trans q3)
  have hselP : selectMethod e.platform s.vm cellB.cls mk = .method mk := by rw [Launch.admits_selectMethod X.admits]; exact q4
  obtain ⟨vm₁, X₁, hs1⟩ := X.invokevirtual hx hown (hts _ hC.1) hn hmk hstM hkP hkPi hC.2.2.2 (a := G.1 + i) (cell := cellB) (by rw [hT]; exact g1) (fun z h9 => by rw [g3] at h9; cases h9) hselP hmk habM hkP hkPi (g := F0 m pc ls st) rfl (argsL := as) (rest := rest) (hp.of hsig) hst (by rw [hb]; exact hd)
  exact ⟨vm₁, mk, X₁, hn, fun target h9 => hs1 _ fun acts => by rw [doInvoke_state]; exact h9⟩
theorem aw_callI (Y : am_M) {idx fr' lo' kc1 ks1 kc' ks' : Nat} (i : Nat) (as rest : List Value) {Qc : aq_T} (hd : decode M.2.2.1 pc = .ok (.invokespecial idx, 3)) (hC : aw_ci M.1 idx Y) (hY : aw_my Y) (hp : aw_np Y as.length) (hst : st = as.reverse ++ .ref (G.1 + i) :: rest) (hf9 : fr' + 1 ≤ fr) (hk1 : kc = kc1 + kc') (hk2 : ks = ks1 + ks') (hrest : (rest.map fun v => v.category).sum + (Y.2.2.2.1 + 11) + lo' ≤ lo) (hlen : (lg_sl (.ref (G.1 + i) :: as)).length ≤ Y.2.2.2.1)
    (hent : aw_w G Y fr' lo' kc1 ks1 0 (lv_args 0 (.ref (G.1 + i) :: as)) [] h Qc)
    (kret : ∀ v h', Qc (.inl v) h' → aw_w G M fr lo kc' ks' (pc + 3) lv (v.toList ++ rest) h' Q)
    (kthr : ∀ k9 ci h', Qc (.inr ci) h' → aw_x G M fr lo kc' ks' pc lv rest h' k9 ci Q) : aw_w G M fr lo kc ks pc lv st h Q := by
  refine aw_core Y (as := .ref (G.1 + i) :: as) hd hY hf9 hk1 hk2 hrest hlen ?_ hent kret kthr
  intro p l e R s m args below meth c H locs cells slots ls C hR T hT X
  obtain ⟨hx, hb, hml, hown, hts, -⟩ := id C
  obtain ⟨w1, w2, w3, w4, w5, w6, w7⟩ := hC
  have hpl : e.platform.magicAccessors = ({} : Platform).magicAccessors := by rw [X.admits.platform]
  obtain ⟨mk, methM, cM, kP, vm₁, hnamed, hmethM, -, -, -, -, -, -, hW₁, hs1⟩ := Steps.initColdArgs (e := e) X.here hx X.warmed hpl hown w3 w7 (hts _ w1) (hts _ w2) (hts _ w6) (f := F0 m pc ls st) rfl (argsL := as) (rest := rest) (fun sig h9 => hp.of h9) hst (by rw [hb]; exact hd)
  exact ⟨vm₁, mk, X.noted hW₁, hnamed, fun target h9 => hs1 _ fun acts => by rw [doInvoke_state]; exact h9⟩
theorem aw_obj {idx i : Nat} (hd : decode M.2.2.1 pc = .ok (.invokespecial idx, 3)) (hw : Cond.methodLink M.1 idx objectInit ∈ aw_T ∧ Cond.instanceMethod objectInit ∈ aw_T ∧ Cond.code objectInit ⟨#[0xb1]⟩ 1 none ∈ aw_T) (hf9 : 1 ≤ fr) (hrest : (st.map fun v => v.category).sum + 12 ≤ lo)
    (k : aw_w G M fr lo kc ks (pc + 3) lv st h Q) : aw_w G M fr lo kc ks pc lv (.ref i :: st) h Q := by
  intro p l e R s m args below meth c H locs cells slots mc ms ls C hl hR hO hS hG h1 h2 h3 h4
  obtain ⟨hx, hb, hml, hown, hts, hret, htab, hlk, hnm, hst9, hK, hfr, hlo⟩ := id C
  refine W.objInit hx hb hown (hts _ hw.1) (hts _ hw.2.1) (hts _ hw.2.2) rfl (hl.1.trans hml.symm) rfl hd (by omega) (by show 2 * 0 + (st.map fun v => v.category).sum + 12 ≤ R.locals; omega) ?_
  exact k p l e R s m args below meth c H locs cells slots mc ms ls C hl hR hO hS hG h1 h2 h3 h4
/-- an exception that goes on to the caller -/
theorem aw_out {k9 ci : Nat} (hout : ∀ x ∈ tableOf M.2.2.2.2.2, covers x pc = false) (hq : Q (.inr ci) h) : aw_x G M fr lo kc ks pc lv st h k9 ci Q := by
  intro p l e R s m args below meth c H locs cells slots mc ms ls C hl hR hk hO hS hG h1 h2 h3 h4 T hT X
  obtain ⟨hx, hb, hml, hown, hts, hret, htab, hlk, hnm, hst9, hK, hfr, hlo⟩ := id C
  obtain ⟨st1, hrun, hend, hW, hsm⟩ := X.leaveThrown (G.1 + k9) (g := F0 m pc ls st) rfl rfl rfl (by rw [htab]; exact hout) hlk
  have hth : (T.setFrames (.throwing (G.1 + k9) :: below)).heap = H := hT
  exact ⟨_, st1, .threw (G.1 + k9), hrun, hend, h, locs, by rw [hth]; exact hR, hW, hsm.mono (by omega) (by omega), by rw [hth]; exact hS, Or.inr ⟨k9, ci, rfl, hk, hq⟩⟩
end AWC
