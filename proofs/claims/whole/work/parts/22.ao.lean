/-! ===== what stood before the run and stays: the script, the statics of Throwable and of ArrayList ===== -/
/-- a static field that holds null or a reference, its statics' cell in H -/
def ax_S (C n d : String) (A : Nat → Prop) (U : State) (H : Heap) : Prop :=
  ∃ (c : ClassId) (k : Class) (i : Nat) (f : Field) (a : Nat) (cell : Cell) (v : Value), U.vm.findClass C = some c ∧ U.fieldFound? C n d = some (c, k, i, f) ∧ f.isStatic = true ∧ k.statics = some a ∧ k.staticTypes[f.slot]? = some f.type ∧ H[a]? = some cell ∧ cell.vm.isStatics = true ∧ cell.cls = c ∧ f.slot < cell.slots.size ∧ cell.slots[f.slot]? = some v ∧ v.isRef = true ∧ ¬ A a
theorem ax_S.moved {C n d : String} {A : Nat → Prop} {u U : State} {H : Heap} (hvm : u.vm.Alike U.vm) (h : ax_S C n d A u H) : ax_S C n d A U H := by
  obtain ⟨c, k, i, f, a, cell, v, h1, h2, h3, h4, h5, h6⟩ := h
  obtain ⟨k', hi', he⟩ := State.fieldFound?_setVm hvm h2
  exact ⟨c, k', i, f, a, cell, v, by rw [hvm.findClass]; exact h1, hi', h3, by rw [he]; exact h4, by rw [he]; exact h5, h6⟩
theorem ax_S.kept {C n d : String} {A : Nat → Prop} {U : State} {H H1 : Heap} (h : ax_S C n d A U H) (hq : ∀ a : Nat, a < H.size → ¬ A a → H1[a]? = H[a]?) : ax_S C n d A U H1 := by
  obtain ⟨c, k, i, f, a, cell, v, h1, h2, h3, h4, h5, h6, h7, h8, h9, h10, h11, h12⟩ := h
  exact ⟨c, k, i, f, a, cell, v, h1, h2, h3, h4, h5, by rw [hq a (Array.getElem?_eq_some_iff.mp h6).1 h12]; exact h6, h7, h8, h9, h10, h11, h12⟩
theorem ax_S.lays {C n d : String} {A : Nat → Prop} {s : State} {args : Array Value} (h : ax_S C n d A s s.heap) : (Cond.laysStatic C n d).before args s = true := by
  obtain ⟨c, k, i, f, a, cell, v, h1, h2, h3, h4, h5, h6, h7, h8, h9, h10, h11, h12⟩ := h
  exact Cond.laysStatic_of h1 h2 h3 h4 h6 h7 h8 h9 h5
theorem ax_S.ref {C n d : String} {A : Nat → Prop} {s : State} {args : Array Value} (h : ax_S C n d A s s.heap) : (Cond.isRef (.static C n d)).before args s = true := by
  obtain ⟨c, k, i, f, a, cell, v, h1, h2, h3, h4, h5, h6, h7, h8, h9, h10, h11, h12⟩ := h
  have he : (Term.static C n d).eval args s none [] s = some v := by
    simp [Term.eval, State.fieldNamed?, h2, h3, h4, h6, h7, h10]
  simp only [Cond.before, Cond.holds, Cond.value, he]
  cases v <;> simp_all [Value.isRef]
theorem ax_S.of {C n d : String} {A : Nat → Prop} {s : State} {args : Array Value} (hl : (Cond.laysStatic C n d).before args s = true) (hr : (Cond.isRef (.static C n d)).before args s = true) (hA : ∀ a : Nat, a < s.heap.size → ¬ A a) : ax_S C n d A s s.heap := by
  obtain ⟨c, k, i, f, a, cell, h1, h2, h3, h4, h6, h7, h8, h9, h5⟩ := Cond.laysStatic_spec hl
  obtain ⟨v, hv⟩ : ∃ v, cell.slots[f.slot]? = some v := ⟨_, Array.getElem?_eq_getElem h9⟩
  have he : (Term.static C n d).eval args s none [] s = some v := by
    simp [Term.eval, State.fieldNamed?, h2, h3, h4, h6, h7, hv]
  refine ⟨c, k, i, f, a, cell, v, h1, h2, h3, h4, h5, h6, h7, h8, h9, hv, ?_, hA a (Array.getElem?_eq_some_iff.mp h6).1⟩
  simp only [Cond.before, Cond.holds, Cond.value, he] at hr
  cases v <;> simp_all [Value.isRef]
/-- an empty array of references that stood before -/
def ax_E (e0 : Nat) (A : Nat → Prop) (U : State) (H : Heap) : Prop := ∃ (cell : Cell) (ty : FieldType), H[e0]? = some cell ∧ U.isArrayOf cell ty ∧ cell.slots.size = 0 ∧ ¬ A e0
def aw_O (G : ag_T) (U : State) (H : Heap) : Prop :=
  va_X G.2.2.2.1.1 G.2.2.2.1.2.1 G.2.2.2.1.2.2 U H ∧ G.2.2.2.1.1 < G.1 ∧ ax_S Bundle.tN "UNASSIGNED_STACK" Bundle.steD (aw_A G) U H ∧ ax_S Bundle.tN "SUPPRESSED_SENTINEL" Bundle.listD (aw_A G) U H ∧
    va_Z "java/util/ArrayList" "DEFAULTCAPACITY_EMPTY_ELEMENTDATA" "[Ljava/lang/Object;" (.ref G.2.2.2.2) (aw_A G) U H ∧ ax_E G.2.2.2.2 (aw_A G) U H
theorem aw_O.moved {G : ag_T} {u U : State} {H : Heap} (hW : u.WarmedH U.vm) (h : aw_O G u H) : aw_O G U H := by
  obtain ⟨h1, h2, h3, h4, h5, cell, ty, e1, e2, e3⟩ := h
  exact ⟨h1.moved hW.alike, h2, h3.moved hW.alike, h4.moved hW.alike, h5.moved hW.alike, cell, ty, e1, State.isArrayOf_alike hW.alike e2, e3⟩
theorem aw_O.kept {G : ag_T} {U : State} {H H1 : Heap} (h : aw_O G U H) (hq : ∀ a : Nat, a < H.size → ¬ aw_A G a → H1[a]? = H[a]?) : aw_O G U H1 := by
  obtain ⟨h1, h2, h3, h4, h5, cell, ty, e1, e2, e3, e4⟩ := h
  obtain ⟨scr, g1, g2⟩ := id h1
  exact ⟨h1.kept (hq _ (Array.getElem?_eq_some_iff.mp g1).1 (Nat.not_le.mpr h2)), h2, h3.kept hq, h4.kept hq, h5.kept hq, cell, ty, by rw [hq _ (Array.getElem?_eq_some_iff.mp e1).1 e4]; exact e1, e2, e3, e4⟩
