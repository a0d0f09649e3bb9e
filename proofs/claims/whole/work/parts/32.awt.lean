/-! ===== the abstract walk: throw new E("text") ===== -/
section AXR
variable {p : Program} {l : Launch} {e : Env} {R : Room} {s : State} {m : MethodId} {args : Array Value} {below : List Frame} {meth : Method} {c : Code} {locs : List Loc} {cells slots : Nat}
/-- the method's frame as it stands now, seen as a call that has just begun -/
theorem ax_re {T : State} (X : Stand p l e R s m args below meth c T locs cells slots) {R' : Room} (hf : R'.frames ≤ R.frames) (hl : R'.locals ≤ R.locals) (hc : cells + R'.cells ≤ R.cells) (hs : slots + R'.slots ≤ R.slots) {s' : State} (hs' : s' = (T.setVm s.vm).setFrames (.invoking m args :: below)) :
    Stand p l e R' s' m args below meth c T [] 0 0 := by
  subst hs'
  have htop : (T.setVm s.vm).topJava?.isSome := X.here.top
  have hF : ((T.setVm s.vm).setFrames (.invoking m args :: below)).frames = .invoking m args :: below := State.frames_setFrames _ (State.cur_lt_of_top htop)
  obtain ⟨g₀, hg0⟩ := Option.isSome_iff_exists.mp htop
  obtain ⟨r, hr⟩ := State.topJava?_eq_some.mp hg0
  obtain ⟨th, hth, -⟩ := State.frames_cons hr
  have hlim : e.platform.stackLimits (T.setVm s.vm).me = e.platform.stackLimits s.me := X.limits
  have hbyt : (T.setVm s.vm).me.stackBytes = s.me.stackBytes := X.bytes
  have hno : T.heap.toList.drop T.heap.size = [] := List.drop_eq_nil_of_le (Nat.le_of_eq Array.length_toList)
  have hroom : ((T.setVm s.vm).setFrames (.invoking m args :: below)).hasRoom e.platform R' = true := by
    have h0 := X.room
    have hU : ((T.setVm s.vm).setFrames (.invoking m args :: below)).localsInUse = s.localsInUse := by
      rw [State.localsInUse_invoking hF (meth := meth) (c := c) X.method X.code, State.localsInUse_invoking X.frames X.method X.code]
    simp only [State.hasRoom, Bool.and_eq_true, decide_eq_true_eq] at h0 ⊢
    obtain ⟨⟨⟨⟨a1, a2, a3, a4, a5, a6⟩, a7⟩, a8⟩, a9⟩ := h0
    rw [X.frames, List.length_cons] at a2 a3
    have q1 := X.heapSize
    have q2 := X.used
    simp only [hF, hU, List.length_cons, State.stackLimits_setFrames, State.stackBytes_setFrames, hlim, hbyt]
    have q3 : ((T.setVm s.vm).setFrames (.invoking m args :: below)).heap.size = T.heap.size := rfl
    have q4 : ((T.setVm s.vm).setFrames (.invoking m args :: below)).slotsUsed = T.slotsUsed := rfl
    rw [q3, q4]
    exact ⟨⟨⟨⟨by omega, by omega, by omega, by omega, by omega, a6⟩, by omega⟩, by omega⟩, X.book⟩
  refine ⟨X.admits, X.cas, X.clock, hF, hroom, X.hears, X.method, X.code, X.here, X.tail, X.warmed, ?_, ?_, ?_⟩
  · rw [State.stackLimits_setFrames]; rfl
  · rw [State.stackBytes_setFrames]; rfl
  · refine ⟨?_, Nat.le_refl _, Nat.le_refl _, ?_, ?_, fun a c9 h9 => ⟨c9, h9, rfl, rfl, fun _ _ => rfl⟩⟩
    · show T.setVm s.vm = { ((T.setVm s.vm).setFrames (.invoking m args :: below)).setFrames (T.setVm s.vm).frames with heap := T.heap, slotsUsed := T.slotsUsed }
      rw [State.setFrames_setFrames, State.setFrames_self hth]
      rfl
    · show T.slotsUsed = T.slotsUsed + ((T.heap.toList.drop T.heap.size).map (·.slots.size)).sum
      rw [hno]; rfl
    · show ((T.heap.toList.drop T.heap.size).map (·.slots.size)).sum ≤ 0
      rw [hno]; exact Nat.le_refl _
end AXR
/-- what has not been written is as it was -/
theorem ax_same {s U : State} {k n : Nat} (h : s.sameButNew ({ U with vm := s.vm } : State) [] k n) : s.heap.size ≤ U.heap.size ∧ U.heap.size ≤ s.heap.size + k ∧ ∀ q : Nat, q < s.heap.size → U.heap[q]? = s.heap[q]? := by
  obtain ⟨-, h2, h3, -, -, h6⟩ := h
  refine ⟨h2, h3, fun q hq => ?_⟩
  obtain ⟨c9, e1, e2, e3, e4⟩ := h6 q _ (Array.getElem?_eq_getElem hq)
  have hsl : c9.slots = (s.heap[q]).slots := Array.ext_getElem? fun i => e4 i (fun hm => nomatch hm)
  have hc9 : c9 = s.heap[q] := by
    rw [hsl] at e2
    exact e2
  have e5 : U.heap[q]? = some c9 := e1
  rw [e5, hc9, Array.getElem?_eq_getElem hq]
def ax_isN (w : Cond) : Bool := decide (w = .isRef (.static Bundle.tN "UNASSIGNED_STACK" Bundle.steD)) || decide (w = .isRef (.static Bundle.tN "SUPPRESSED_SENTINEL" Bundle.listD)) || decide (w = .laysStatic Bundle.tN "UNASSIGNED_STACK" Bundle.steD) || decide (w = .laysStatic Bundle.tN "SUPPRESSED_SENTINEL" Bundle.listD)
/-- the words of a throw stand in the lists, but the four that speak of the heap -/
def ax_thr (own : String) (ik is ic ci : Nat) (cls text : String) (names : List String) : Prop :=
  Bundle.fit cls = true ∧ (∀ n ∈ names, Bundle.fit n = true) ∧ names.length ≤ 2 ∧ Cond.classLink own ik cls ∈ aw_T ∧ Cond.initialized cls ∈ aw_T ∧ (own, is, text) ∈ aw_SR ∧ (am_cl[ci]? = some (cls, fun _ => ("", "", "", false), 0)) ∧
    ∀ w ∈ Bundle.ownAtoms own ic cls names, ax_isN w = true ∨ w ∈ aw_T ∨ (w ∈ aw_N ∧ w.onTables = true)
section AXT
variable {G : ag_T} {M : am_M} {fr lo kc ks pc : Nat} {lv : List (Nat × Value)} {st : List Value} {h : List va_E} {Q : aq_T}
theorem aw_throw (ci : Nat) {ik is ic : Nat} {cls text : String} {names : List String} (hw : ax_thr M.1 ik is ic ci cls text names)
    (d0 : decode M.2.2.1 pc = .ok (.new ik, 3)) (d3 : decode M.2.2.1 (pc + 3) = .ok (.dup, 1)) (d4 : decode M.2.2.1 (pc + 4) = .ok (.ldc is, 2)) (d6 : decode M.2.2.1 (pc + 6) = .ok (.invokespecial ic, 3)) (d9 : decode M.2.2.1 (pc + 9) = .ok (.athrow, 1))
    (hout : ∀ x ∈ tableOf M.2.2.2.2.2, covers x (pc + 9) = false) (hf9 : 6 ≤ fr) (hrest : (st.map fun v => v.category).sum + 83 ≤ lo) (hk1 : 1 ≤ kc) (hk2 : 6 ≤ ks) (hq : Q (.inr ci) (h ++ [.inr (ci, [])])) : aw_w G M fr lo kc ks pc lv st h Q := by
  intro p l e R s m args below meth c H locs cells slots mc ms ls C hl hR hO hS hG h1 h2 h3 h4 T hT X
  obtain ⟨hx, hb, hml, hown, hts, hret, htab, hlk, hnm, hst9, hK, hfr, hlo⟩ := id C
  obtain ⟨w1, w2, w2b, w3, w4, w5, w6, w7⟩ := hw
  have htr : e.platform.stackTraces = false := (show e.platform.stackTraces = l.stackTraces by rw [X.admits.platform]).trans hst9
  obtain ⟨s', hs'⟩ : ∃ z, z = (T.setVm s.vm).setFrames (.invoking m args :: below) := ⟨_, rfl⟩
  have Y := ax_re X (R' := { frames := R.frames, locals := R.locals, cells := 1, slots := 6 }) (Nat.le_refl _) (Nat.le_refl _) (by show cells + 1 ≤ R.cells; omega) (by show slots + 6 ≤ R.slots; omega) hs'
  have hvm : s'.vm = s.vm := by rw [hs']; rfl
  have hhp : s'.heap = H := by rw [hs']; exact hT
  have hW0 : s.WarmedH s'.vm := by rw [hvm]; exact State.WarmedH.refl s
  have hO' : aw_O G s' s'.heap := by
    rw [hhp]
    exact (hO.moved hW0).kept hS.2.1
  have hts' : ∀ w ∈ aw_T, w.before args s' = true := fun w hw => word_at hW0 (aw_good w hw) (hts w hw)
  have hat : ∀ w ∈ Bundle.ownAtoms M.1 ic cls names, w.before args s' = true := by
    intro w hw
    rcases w7 w hw with h9 | h9 | ⟨h9, h10⟩
    · simp only [ax_isN, Bool.or_eq_true, decide_eq_true_eq] at h9
      rcases h9 with ((rfl | rfl) | rfl) | rfl
      · exact hO'.2.2.1.ref
      · exact hO'.2.2.2.1.ref
      · exact hO'.2.2.1.lays
      · exact hO'.2.2.2.1.lays
    · exact hts' w h9
    · exact va_tabs h10 hvm.symm (hK.2.1 w h9)
  have hown' : s'.vm.findClass M.1 = some m.cls := by rw [hvm]; exact hown
  have hins : (Cond.instantiable cls 6).before args s' = true := hat _ (by simp [Bundle.ownAtoms])
  obtain ⟨vm₁, cX, kX, hfX, hkX, -, -, X₁, st1⟩ := Y.newCold hx (own := M.1) (C := cls) (index := ik) (n := 6) hown' (hts' _ w3) hins (hts' _ w4) (g := F0 m pc ls st) rfl (by rw [hb]; exact d0) (Nat.le_refl _) (Nat.le_refl _)
  generalize hT1 : (T.setVm vm₁).pushCell { cls := cX, slots := kX.instanceTypes.map defaultValue, vm := .none } = T1 at X₁ st1
  have hcellA : T1.heap[T.heap.size]? = some (freshCell cX kX) := by rw [← hT1]; exact State.heap_pushCell_size _ _
  obtain ⟨sa, hsr0⟩ := hK.2.2.2.1 _ w5
  have hsr : vk_R M.1 is text sa s' := vk_R.warm hW0 hsr0
  have hcat : (Value.ref T.heap.size).category = 1 := rfl
  have hsz : ls.size = c.maxLocals := hl.1.trans hml.symm
  have d3' : decode c.code (pc + 3) = .ok (.dup, 1) := by rw [hb]; exact d3
  have d4' : decode c.code (pc + 4) = .ok (.ldc is, 2) := by rw [hb]; exact d4
  obtain ⟨U, hsteps, hrun, hend, hW, hsame, ce, hce, hOc⟩ := X₁.ctorThrowS hx htr (own := M.1) (cls := cls) (names := names) (ic := ic) hown' w1 w2 hat (fun x hx9 => nomatch hx9) hfX hkX hcellA (by rw [hhp, hT]; exact Nat.le_refl _) (msg := .ref sa) rfl
    (g := { method := m, pc := pc + 6, locals := ls, stack := .ref sa :: .ref T.heap.size :: .ref T.heap.size :: st, locked := none }) rfl hsz rfl rfl (rest := st) rfl
    (by rw [hb]; exact d6) (by rw [hb]; exact d9) (by rw [htab]; exact hout) (by show names.length + 3 < R.frames; omega) (by show 2 * 0 + ((Value.ref T.heap.size :: st).map fun v => v.category).sum + (13 * (names.length + 1) + 42) ≤ R.locals; simp only [List.map_cons, List.sum_cons, hcat]; omega) hlk
  obtain ⟨f1, f2, f3⟩ := ax_same hsame
  rw [hhp] at f1 f2 f3
  have hlt : H.size < U.heap.size := by
    have := (Array.getElem?_eq_some_iff.mp hce).1
    rw [hT] at this
    exact this
  have hz : U.heap.size = H.size + 1 := by omega
  have hcls : s.vm.findClass cls = some ce.cls := by
    have h9 := hOc.cls
    rw [hvm] at h9
    exact h9
  have hall : s.sameButNew ({ U with vm := s.vm } : State) locs mc ms := by
    subst hs'
    obtain ⟨e1, e2⟩ := hsame
    rw [State.setFrames_setFrames] at e1
    have h5 : (T.setVm s.vm).sameButNew ({ U with vm := s.vm } : State) [] (0 + 1) (0 + 6) := ⟨e1, e2⟩
    have h6 := X.same.trans h5
    rw [List.append_nil] at h6
    exact h6.mono (by omega) (by omega)
  have eT : T.heap.size = G.1 + h.length := by rw [hT]; exact hR.2
  have hR' : ah_R G (h ++ [.inr (ci, [])]) U.heap := by
    refine hR.push hz f3 ⟨_, w6, ce, by rw [← eT]; exact hce, ?_, hOc.vm, fun k hk => absurd hk (Nat.not_lt_zero k)⟩
    exact Option.some.inj (hcls.symm.trans (hK.1.1 ci _ w6).2.1)
  refine ⟨U, ?_, .threw (G.1 + h.length), hrun, by rw [← eT]; exact hend, h ++ [.inr (ci, [])], locs, hR', State.WarmedH.trans hW0 hW, hall, aw_Sp hS (by omega) f3, Or.inr ⟨h.length, ci, rfl, by simp, hq⟩⟩
  refine st1 _ ?_
  show Steps p.tables e below (T1.setTop { method := m, pc := pc + 3, locals := ls, stack := .ref T.heap.size :: st, locked := none }) _
  jvm_step X₁.here [X₁.here.top, hx, d3', Value.category]
  exact X₁.ldcString hx (own := M.1) (text := text) (index := is) (a := sa) hown' hsr.1 hsr.2
    (g := { method := m, pc := pc + 4, locals := ls, stack := .ref T.heap.size :: .ref T.heap.size :: st, locked := none }) rfl d4' _ hsteps
end AXT
