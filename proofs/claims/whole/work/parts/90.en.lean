/-! ===== from the law's entry to the claim ===== -/
theorem lt_m1 {w : Cond} (i : Nat) (h : tables_1_1[i]? = some w) : w ∈ lw_tbl := List.mem_append_right _ (List.mem_append_left _ (List.mem_of_getElem? h))
theorem lt_m2 {w : Cond} (i : Nat) (h : tables_1_2[i]? = some w) : w ∈ lw_tbl := List.mem_append_right _ (List.mem_append_right _ (List.mem_append_left _ (List.mem_of_getElem? h)))
theorem lt_m3 {w : Cond} (i : Nat) (h : tables_1_3[i]? = some w) : w ∈ lw_tbl := List.mem_append_right _ (List.mem_append_right _ (List.mem_append_right _ (List.mem_append_left _ (List.mem_of_getElem? h))))
theorem lt_m4 {w : Cond} (i : Nat) (h : tables_1_4[i]? = some w) : w ∈ lw_tbl := List.mem_append_right _ (List.mem_append_right _ (List.mem_append_right _ (List.mem_append_right _ (List.mem_of_getElem? h))))
theorem lt_N : ∀ w ∈ aw_N, w.onTables = true ∧ w ∈ lw_tbl := List.forall_mem_cons.mpr ⟨⟨rfl, (lt_m1 145 rfl)⟩, List.forall_mem_cons.mpr ⟨⟨rfl, (lt_m1 146 rfl)⟩, List.forall_mem_cons.mpr ⟨⟨rfl, (lt_m1 147 rfl)⟩, List.forall_mem_cons.mpr ⟨⟨rfl, (lt_m1 148 rfl)⟩, List.forall_mem_cons.mpr ⟨⟨rfl, (lt_m1 149 rfl)⟩, List.forall_mem_cons.mpr ⟨⟨rfl, (lt_m1 150 rfl)⟩, List.forall_mem_cons.mpr ⟨⟨rfl, (lt_m1 151 rfl)⟩, List.forall_mem_cons.mpr ⟨⟨rfl, (lt_m1 235 rfl)⟩, List.forall_mem_cons.mpr ⟨⟨rfl, (lt_m2 13 rfl)⟩, List.forall_mem_cons.mpr ⟨⟨rfl, (lt_m2 18 rfl)⟩, List.forall_mem_cons.mpr ⟨⟨rfl, (lt_m3 46 rfl)⟩, List.forall_mem_cons.mpr ⟨⟨rfl, (lt_m3 49 rfl)⟩, List.forall_mem_cons.mpr ⟨⟨rfl, (lt_m3 164 rfl)⟩, List.forall_mem_cons.mpr ⟨⟨rfl, (lt_m3 178 rfl)⟩, List.forall_mem_cons.mpr ⟨⟨rfl, (lt_m4 204 rfl)⟩, List.forall_mem_cons.mpr ⟨⟨rfl, (lt_m4 205 rfl)⟩, List.forall_mem_cons.mpr ⟨⟨rfl, (lt_m4 208 rfl)⟩, List.forall_mem_cons.mpr ⟨⟨rfl, (lt_m4 209 rfl)⟩, List.forall_mem_cons.mpr ⟨⟨rfl, (lt_m4 210 rfl)⟩, List.forall_mem_cons.mpr ⟨⟨rfl, (lt_m4 211 rfl)⟩, List.forall_mem_cons.mpr ⟨⟨rfl, (lt_m4 212 rfl)⟩, List.forall_mem_cons.mpr ⟨⟨rfl, (lt_m4 213 rfl)⟩, List.forall_mem_cons.mpr ⟨⟨rfl, (lt_m4 214 rfl)⟩, List.forall_mem_cons.mpr ⟨⟨rfl, (lt_m4 215 rfl)⟩, fun _ h9 => absurd h9 List.not_mem_nil⟩⟩⟩⟩⟩⟩⟩⟩⟩⟩⟩⟩⟩⟩⟩⟩⟩⟩⟩⟩⟩⟩⟩⟩
theorem lt_S : ∀ q ∈ aw_SR, q.1 = "RoleAnalyser" ∧ Cond.stringRef q.1 q.2.1 q.2.2 ∈ lw_tbl := List.forall_mem_cons.mpr ⟨⟨rfl, (lt_m1 185 rfl)⟩, List.forall_mem_cons.mpr ⟨⟨rfl, (lt_m1 219 rfl)⟩, List.forall_mem_cons.mpr ⟨⟨rfl, (lt_m2 2 rfl)⟩, List.forall_mem_cons.mpr ⟨⟨rfl, (lt_m2 25 rfl)⟩, List.forall_mem_cons.mpr ⟨⟨rfl, (lt_m2 76 rfl)⟩, List.forall_mem_cons.mpr ⟨⟨rfl, (lt_m2 92 rfl)⟩, List.forall_mem_cons.mpr ⟨⟨rfl, (lt_m2 101 rfl)⟩, List.forall_mem_cons.mpr ⟨⟨rfl, (lt_m2 105 rfl)⟩, List.forall_mem_cons.mpr ⟨⟨rfl, (lt_m2 106 rfl)⟩, List.forall_mem_cons.mpr ⟨⟨rfl, (lt_m2 127 rfl)⟩, List.forall_mem_cons.mpr ⟨⟨rfl, (lt_m2 197 rfl)⟩, List.forall_mem_cons.mpr ⟨⟨rfl, (lt_m3 4 rfl)⟩, List.forall_mem_cons.mpr ⟨⟨rfl, (lt_m3 56 rfl)⟩, List.forall_mem_cons.mpr ⟨⟨rfl, (lt_m3 84 rfl)⟩, List.forall_mem_cons.mpr ⟨⟨rfl, (lt_m3 96 rfl)⟩, List.forall_mem_cons.mpr ⟨⟨rfl, (lt_m3 104 rfl)⟩, List.forall_mem_cons.mpr ⟨⟨rfl, (lt_m3 105 rfl)⟩, List.forall_mem_cons.mpr ⟨⟨rfl, (lt_m3 138 rfl)⟩, List.forall_mem_cons.mpr ⟨⟨rfl, (lt_m3 194 rfl)⟩, fun _ h9 => absurd h9 List.not_mem_nil⟩⟩⟩⟩⟩⟩⟩⟩⟩⟩⟩⟩⟩⟩⟩⟩⟩⟩⟩
theorem st_I {args : Array Value} {s : State} (hts : ∀ w ∈ lw_tbl, w.before args s = true) : ∀ (ci : Nat), ∃ q : ClassId × (Nat → Nat), ∀ r : vw_C, am_cl[ci]? = some r → u_Kn s r.1 r.2.1 r.2.2 q.1 q.2 := by
  intro ci
  cases hr : am_cl[ci]? with
  | none => exact ⟨(0, fun _ => 0), fun r h => by cases h⟩
  | some r =>
    have hin := (am_ok ci r hr).1
    have hI : ∃ n, (Cond.instantiable r.1 n).before args s = true := by
      match ci, hr with
      | 0, hr => cases hr; exact ⟨_, hts _ (lt_m1 25 rfl)⟩
      | 1, hr => cases hr; exact ⟨_, hts _ (lt_m1 33 rfl)⟩
      | 2, hr => cases hr; exact ⟨_, hts _ (lt_m1 89 rfl)⟩
      | 3, hr => cases hr; exact ⟨_, hts _ (lt_m2 107 rfl)⟩
      | 4, hr => cases hr; exact ⟨_, hts _ (lt_m2 199 rfl)⟩
      | 5, hr => cases hr; exact ⟨_, hts _ (lt_m3 201 rfl)⟩
      | 6, hr => cases hr; exact ⟨_, hts _ (lt_m1 39 rfl)⟩
      | 7, hr => cases hr; exact ⟨_, hts _ (lt_m1 144 rfl)⟩
      | 8, hr => cases hr; exact ⟨_, hts _ (lt_m1 234 rfl)⟩
      | 9, hr => cases hr; exact ⟨_, hts _ (lt_m2 17 rfl)⟩
      | 10, hr => cases hr; exact ⟨_, hts _ (lt_m3 48 rfl)⟩
      | n + 11, hr => cases hr
    obtain ⟨n, hI⟩ := hI
    obtain ⟨cC, iS, h⟩ := u_known (ws := aw_T) (fun w hw => hts w (List.mem_filter.mp hw).1) hin hI
    exact ⟨(cC, iS), fun r' h' => by cases h'; exact h⟩
theorem st_A {args : Array Value} {s : State} (hts : ∀ w ∈ lw_tbl, w.before args s = true) : ∃ cA : Nat → ClassId, ∀ (k : Nat) (q : ClassId × FieldType), [(cA 0, FieldType.int), (cA 1, .boolean), (cA 2, .long), (cA 3, .object "java/lang/Object")][k]? = some q → ArrOfT s q.1 q.2 ∧ va_RA s q.1 q.2 := by
  obtain ⟨c0, k0, p0, f0, g0, h0⟩ := Cond.arrayClass_spec (hts _ (lt_m1 64 rfl))
  obtain ⟨c1, k1, p1, f1, g1, h1⟩ := Cond.arrayClass_spec (hts _ (lt_m4 39 rfl))
  obtain ⟨c2, k2, p2, f2, g2, h2⟩ := Cond.arrayClass_spec (hts _ (lt_m4 202 rfl))
  obtain ⟨p3, c3, k3, e3, -, g3, h3, f3⟩ := Cond.arrayOver_spec (hts _ (lt_m2 176 rfl))
  refine ⟨fun k => match k with | 0 => c0 | 1 => c1 | 2 => c2 | _ => c3, fun k q hq => ?_⟩
  match k, hq with
  | 0, hq => cases hq; exact ⟨fun N z => ⟨(fun k h => by cases h), k0, g0, p0, h0⟩, f0⟩
  | 1, hq => cases hq; exact ⟨fun N z => ⟨(fun k h => by cases h), k1, g1, p1, h1⟩, f1⟩
  | 2, hq => cases hq; exact ⟨fun N z => ⟨(fun k h => by cases h), k2, g2, p2, h2⟩, f2⟩
  | 3, hq => cases hq; exact ⟨fun N z => ⟨(fun k h => by cases h), k3, g3, p3, h3⟩, k3, p3, g3, h3, e3, f3⟩
  | n + 4, hq => cases hq
def R_law : String := "RoleAnalyserLaw"
def lw_P (b : Addr) (xs : List Int32) (args : Array Value) (s : State) : Prop := args = #[.ref b] ∧ s.IntsAt b xs ∧ xs.length ≤ 2560 ∧ (Jvm.Cond.and given_1 narrow_1).before args s = true
def lw_Q (_ : Array Value) (s : State) (o : Outcome) (t : State) : Prop := o = .returned (some (.int 1)) ∧ Framed s o t [] 601024 7293034
def lw_Z (below : List Frame) (a : Array Value) (s : State) : State → Prop := fun t => ∃ o, t.status = .running ∧ Ended t below o ∧ lw_Q a s o t
/-- what holds at the law's entry: the machine, the code, the tables' words (any of lw_tbl by 'hts w (by decide +kernel)'), the script of L ints xs at the cell b, what the Statement gives of the start (any of its parts by flat_of_before) -/
def lw_At (p : Program) (s : State) (m : MethodId) (meth : Method) (c : Code) (b L : Nat) (xs : Nat → Int32) : Prop :=
  p.tables.exec = Jvm.exec ∧ c.code = code ∧ meth.sig.returnType = ret ∧ c.maxLocals = 7 ∧ s.vm.findClass R_law = some m.cls ∧ (∀ w ∈ lw_tbl, w.before #[Value.ref b] s = true) ∧ va_X b L xs s s.heap ∧ b < s.heap.size ∧ meth.locks = false ∧ (Jvm.Cond.and given_1 narrow_1).before #[Value.ref b] s = true
theorem st_NC {args : Array Value} {s : State} (h : (Jvm.Cond.and given_1 narrow_1).before args s = true) : ∀ q ∈ aw_NC, va_Nc q.1 q.2 s := by
  have hs := flat_of_before _ h
  exact List.forall_mem_cons.mpr ⟨va_Nc.of (hs (Cond.not (.castable "java/lang/IndexOutOfBoundsException" "java/lang/IllegalStateException")) (by decide +kernel)), List.forall_mem_cons.mpr ⟨va_Nc.of (hs (Cond.not (.castable "java/lang/IllegalArgumentException" "java/lang/IllegalStateException")) (by decide +kernel)), List.forall_mem_cons.mpr ⟨va_Nc.of (hs (Cond.not (.castable "java/lang/UnsupportedOperationException" "java/lang/IllegalStateException")) (by decide +kernel)), List.forall_mem_cons.mpr ⟨va_Nc.of (hs (Cond.not (.castable "java/lang/IllegalStateException" "java/lang/IndexOutOfBoundsException")) (by decide +kernel)), List.forall_mem_cons.mpr ⟨va_Nc.of (hs (Cond.not (.castable "java/lang/IllegalArgumentException" "java/lang/IndexOutOfBoundsException")) (by decide +kernel)), List.forall_mem_cons.mpr ⟨va_Nc.of (hs (Cond.not (.castable "java/lang/UnsupportedOperationException" "java/lang/IndexOutOfBoundsException")) (by decide +kernel)), List.forall_mem_cons.mpr ⟨va_Nc.of (hs (Cond.not (.castable "java/lang/IllegalStateException" "java/lang/IllegalArgumentException")) (by decide +kernel)), List.forall_mem_cons.mpr ⟨va_Nc.of (hs (Cond.not (.castable "java/lang/IndexOutOfBoundsException" "java/lang/IllegalArgumentException")) (by decide +kernel)), List.forall_mem_cons.mpr ⟨va_Nc.of (hs (Cond.not (.castable "java/lang/UnsupportedOperationException" "java/lang/IllegalArgumentException")) (by decide +kernel)), List.forall_mem_cons.mpr ⟨va_Nc.of (hs (Cond.not (.castable "java/lang/IllegalStateException" "java/lang/UnsupportedOperationException")) (by decide +kernel)), List.forall_mem_cons.mpr ⟨va_Nc.of (hs (Cond.not (.castable "java/lang/IndexOutOfBoundsException" "java/lang/UnsupportedOperationException")) (by decide +kernel)), List.forall_mem_cons.mpr ⟨va_Nc.of (hs (Cond.not (.castable "java/lang/IllegalArgumentException" "java/lang/UnsupportedOperationException")) (by decide +kernel)), fun _ h9 => absurd h9 List.not_mem_nil⟩⟩⟩⟩⟩⟩⟩⟩⟩⟩⟩⟩
theorem tl_b {args : Array Value} {s : State} {t : Term} {v : Value} {a : Nat} {cell : Cell} (h : (Term.length t).eval args s none [] s = some v) (ht : t.eval args s none [] s = some (.ref a)) (hc : s.arrayAt? a = some cell) : cell.slots.size < 2147483648 := by
  simp only [Term.eval, Option.bind_eq_bind] at h
  simp [ht, hc] at h
  exact h.1
theorem st_E {args : Array Value} {s : State} (h : (Jvm.Cond.and given_1 narrow_1).before args s = true) : ∃ (e0 : Nat) (cell : Cell) (ty : FieldType), (Term.static "java/util/ArrayList" "DEFAULTCAPACITY_EMPTY_ELEMENTDATA" "[Ljava/lang/Object;").eval args s none [] s = some (.ref e0) ∧ s.heap[e0]? = some cell ∧ s.isArrayOf cell ty ∧ cell.slots.size = 0 := by
  have hs := flat_of_before _ h
  have hl : (Cond.eq (.length (.static "java/util/ArrayList" "DEFAULTCAPACITY_EMPTY_ELEMENTDATA" "[Ljava/lang/Object;")) (.int 0)).before args s = true := hs _ (by decide +kernel)
  have ha : (Cond.arrayOf (.static "java/util/ArrayList" "DEFAULTCAPACITY_EMPTY_ELEMENTDATA" "[Ljava/lang/Object;") (.object "java/lang/Object")).before args s = true := hs _ (by decide +kernel)
  have hv := Cond.eq_int hl (show (Term.int 0).eval args s none [] s = some (.int 0) from rfl)
  obtain ⟨e0, cell, h1, h2, h3⟩ := Term.length_spec hv
  have hb := tl_b hv h1 h2
  obtain ⟨hcell, -⟩ := State.arrayAt?_spec h2
  refine ⟨e0, cell, _, h1, hcell, (Cond.arrayOf_spec ha h1 hcell).1, ?_⟩
  have h4 : (0 : Int32) = nI cell.slots.size := Value.int.inj h3
  rw [← nI_0, nI_eq (by decide) (by omega)] at h4
  exact h4.symm
/-- all that the walk stands on, at the law's entry -/
theorem st_all {p : Program} {s : State} {m : MethodId} {meth : Method} {c : Code} {b L : Nat} {xs : Nat → Int32} (C0 : lw_At p s m meth c b L xs) : ∃ G : ag_T, G.1 = s.heap.size ∧ G.2.2.2.1 = (b, L, xs) ∧ G.2.2.2.2 < G.1 ∧ aw_K G s ∧ aw_O G s s.heap := by
  obtain ⟨hx, hb, hr, hml, hown, hts, hX, hbl, hlk, hgv⟩ := C0
  obtain ⟨D, hD⟩ := Classical.axiomOfChoice (st_I hts)
  obtain ⟨cA, hA⟩ := st_A hts
  obtain ⟨e0, cell, ty, h1, h2, h3, h4⟩ := st_E hgv
  have he : e0 < s.heap.size := (Array.getElem?_eq_some_iff.mp h2).1
  have hs := flat_of_before _ hgv
  have hlt : ∀ a : Nat, a < s.heap.size → ¬ s.heap.size ≤ a := fun a h => Nat.not_le.mpr h
  refine ⟨(s.heap.size, (fun ci => (D ci).1, fun ci => (D ci).2), cA, (b, L, xs), e0), rfl, rfl, he, ⟨⟨fun ci r hr => hD ci r hr, hA⟩, fun w hw => va_Nw.of (lt_N w hw).1 (hts w (lt_N w hw).2), st_NC hgv, fun q hq => ?_, va_AO.of (hts _ (lt_m2 176 rfl))⟩, hX, hbl, ax_S.of (hts _ (lt_m1 170 rfl)) (hs _ (by decide +kernel)) hlt, ax_S.of (hts _ (lt_m1 172 rfl)) (hs _ (by decide +kernel)) hlt, va_Zof (hts _ (lt_m1 51 rfl)) (hts _ (lt_m1 5 rfl)) h1 hlt, cell, ty, h2, h3, h4, hlt e0 he⟩
  obtain ⟨e1, hw⟩ := lt_S q hq
  have hfc : ∃ cur, s.vm.findClass q.1 = some cur := by
    rw [e1]
    exact ⟨_, ((hD 0 _ rfl).2).1⟩
  obtain ⟨cur, hcur⟩ := hfc
  obtain ⟨k, cf, i, a, -, -, -, -, -, hev⟩ := Cond.stringRef_spec hcur (hts _ hw)
  exact ⟨a, vk_R.of (hts _ hw) hev⟩
theorem whole_start {p : Program} {e : Env} {s : State} {m : MethodId} {below : List Frame} {meth : Method} {c : Code} (l : Launch) {b L : Nat} {xs : Nat → Int32} (hL : L ≤ 2560) (C0 : lw_At p s m meth c b L xs) (hst : l.stackTraces = false) (htab : c.exceptionTable.toList = []) (hnm : meth.name = "law") : W p l e room_1 s m #[Value.ref b] below meth c s.heap [] 0 0 (lw_Z below #[Value.ref b] s) (entryFrame m ([Value.ref b] : List Value).toArray 7) := by
  obtain ⟨G, g1, g2, g3, hK, hO⟩ := st_all C0
  obtain ⟨hx, hb, hr, hml, hown, hts, hX, hbl, hlk, hgv⟩ := C0
  have e1 : G.2.2.2.1.1 = b := by rw [g2]
  have e2 : G.2.2.2.1.2.1 = L := by rw [g2]
  have k := wc_lw_law G g3 512 (by omega) (by omega)
  intro T hT X
  have C : aw_C G mm_lw_law 10 215 p l room_1 s m #[Value.ref b] meth c := ⟨hx, hb, hml, hown, fun w hw => hts w (List.mem_filter.mp hw).1, hr, htab, hlk, hnm, hst, hK, by decide, by decide⟩
  rw [lg_entry_eq]
  obtain ⟨t, a1, o, b1, b2, h', J, c1, c2, c3, c4, c5⟩ := k p l e room_1 s m #[Value.ref b] below meth c s.heap [] 0 0 601024 7293034 _ C (by rw [e1]; exact lv_entry [Value.ref b] (n := 7) (Nat.le_of_ble_eq_true rfl)) ⟨fun k q hq => (by cases hq), g1.symm⟩ hO va_S.rf (by rw [g1]; exact Nat.le_refl _) (by decide) (by decide) (Nat.le_refl _) (Nat.le_refl _) T hT X
  rcases c5 with ⟨v, ho, hq⟩ | ⟨k9, ci, ho, hc, hq⟩
  · have hv : v = some (.int 1) := by
      have hq' : (Sum.inl v : Option Value ⊕ Nat) = .inl (some (.int 1)) := hq
      exact Sum.inl.inj hq'
    subst hv
    refine ⟨t, a1, o, b1, b2, ho, ⟨_, ho⟩, c2, ?_⟩
    have c3' : s.sameButNew ({ t with vm := s.vm } : State) ([] ++ J) 601024 7293034 := c3
    exact c3'.drop_fresh (fun q hq => by rw [← g1]; exact c4.2.2 q hq)
  · have hq' : (Sum.inr ci : Option Value ⊕ Nat) = .inl (some (.int 1)) := hq
    cases hq'
set_option maxHeartbeats 4000000 in
theorem lw_walk (l : Launch) (hst : l.stackTraces = false) (b : Addr) (xs : List Int32) : MetFree l x (headSpec (Jvm.Cond.code x code maxLocals ret :: tables_1) room_1) (lw_P b xs) (fun _ _ _ _ _ => True) lw_Q := by
  refine MetFree.of_bodyS (code := code) (maxLocals := maxLocals) (ret := ret) (by decide) ?_ ?_
  · intro args s m h hn
    obtain ⟨meth, c, h1, h2, h3, h4, h5, h6, -, -⟩ := Cond.code_spec hn (atoms_spec (ws := Jvm.Cond.code x code maxLocals ret :: tables_1) h _ List.mem_cons_self)
    exact ⟨meth, c, h1, h2, h3, h4, h5, h6⟩
  · intro p e s m args below meth c s₁ B hml0 hP _
    obtain ⟨rfl, hx, hbd, hgv⟩ := hP
    obtain ⟨scr, harrAt, hlist, hof, hsmall⟩ := hx
    obtain ⟨hcb, hkn, -, -⟩ := State.arrayAt?_spec harrAt
    have hown : s.vm.findClass R_law = some m.cls := findClass_of_methodNamed B.named
    have hts0 : ∀ c ∈ (Jvm.Cond.code x code maxLocals ret :: tables_1), c.before #[Value.ref b] s = true := atoms_spec (ws := Jvm.Cond.code x code maxLocals ret :: tables_1) B.pre
    have hts : ∀ w ∈ lw_tbl, w.before #[Value.ref b] s = true := k2_hts_sels lw_privs (fun w hw => hts0 w (List.mem_cons_of_mem _ hw)) lw_privs_ok
    have hml : c.maxLocals = 7 := B.maxLocals_eq (hts0 _ List.mem_cons_self)
    have X₀ : Stand p l e room_1 s m #[Value.ref b] below meth c s₁ [] 0 0 := Stand.of_body B
    have hh0 : s₁.heap = s.heap := by rw [B.state]; rfl
    have hsz : scr.slots.size = xs.length := by rw [← Array.length_toList, hlist, List.length_map]
    have hval : ∀ j : Nat, j < xs.length → scr.slots[j]? = some (.int (xs.getD j 0)) := fun j hj => by
      rw [← Array.getElem?_toList, hlist]
      simp [hj]
    have hbl : b < s.heap.size := (Array.getElem?_eq_some_iff.mp hcb).1
    have hX : va_X b xs.length (fun j => xs.getD j 0) s s.heap := ⟨scr, hcb, hof, hkn, hsz, hval⟩
    have K : W p l e room_1 s m #[Value.ref b] below meth c s₁.heap [] 0 0 (lw_Z below #[Value.ref b] s) (entryFrame m ([Value.ref b] : List Value).toArray 7) := by
      rw [hh0]
      obtain ⟨meth', c', q1, q2, -, -, -, -, q7, -⟩ := Cond.code_spec B.named (hts0 _ List.mem_cons_self)
      have em : meth' = meth := Option.some.inj (q1.symm.trans B.method)
      subst em
      have ec : c' = c := Option.some.inj (q2.symm.trans X₀.code)
      subst ec
      exact whole_start l hbd ⟨B.exec, B.bytes, B.returns, hml, hown, hts, hX, hbl, B.notSynchronized, hgv⟩ hst (by rw [Array.isEmpty_iff.mp q7]) (name_of_methodNamed B.named q1).1
    obtain ⟨t, a1, o, b1, b2, b3⟩ := K s₁ rfl X₀
    exact ⟨t, o, a1, b1, b2, b3⟩
theorem lw_pre_spec {args : Array Value} {s : State} (h : (Jvm.Cond.and given_1 narrow_1).before args s = true) (hr : rest_1_c.before args s = true) : ∃ (b : Addr) (xs : List Int32), lw_P b xs args s := by
  have hs := flat_of_before _ h
  have hq := flat_of_before _ hr
  have hc : (Cond.count 1).before args s = true := hs _ (by decide +kernel)
  have harr : (Cond.arrayOf (.arg 0) .int).before args s = true := hs _ (by decide +kernel)
  have hle : (Cond.le (.length (.arg 0)) (.int 2560)).before args s = true := hs _ (by decide +kernel)
  have hlen : (Cond.isInt (.length (.arg 0))).before args s = true := hq _ (by decide +kernel)
  have hall : (Cond.all (.arg 0) (.isInt (.elem (.arg 0) (.index 0)))).before args s = true := hq _ (by decide +kernel)
  obtain ⟨b, xs, hb, hx⟩ := State.ints_of_pre rfl harr hlen hall
  have hsm : xs.length < 2 ^ 31 := hx.choose_spec.2.2.2
  have hev : (Term.length (.arg 0)).eval args s none [] s = some (.int xs.length.toInt32) := hx.length_eval hb
  have hv := Cond.le_ints hev (show (Term.int 2560).eval args s none [] s = some (.int 2560) from rfl)
  have hd : xs.length.toInt32 ≤ 2560 := by
    simpa [Cond.before, Cond.holds, hv] using hle
  have hN : xs.length ≤ 2560 := (Int32.ofNat_le_ofNat hsm (by decide)).mp (show Int32.ofNat xs.length ≤ Int32.ofNat 2560 from hd)
  exact ⟨b, xs, Cond.one_arg hc (show args[0]? = some (.ref b) from hb), hx, hN, h⟩
theorem lw_comes (l : Launch) (hst : l.stackTraces = false) : Comes l x (Jvm.Cond.code x code maxLocals ret :: tables_1) room_1 (fun tb e args s => Calls_1 tb e args s ∧ rest_1 tb e args s ∧ Pre_1 tb e args s)
    (fun _ _ args s o t => lw_Q args s o t) := by
  intro p e ha hc hk s m args below hf hfit hheap happ hpre
  obtain ⟨b, xs, hP⟩ := lw_pre_spec hpre.2.2 hpre.2.1
  obtain ⟨k, o, h1, h2, h3, hQ⟩ := lw_walk l hst b xs p e ha hc hk s m args below hf ((Spec.applies_iff_loose hf).mp happ).1 hP trivial
  exact ⟨k, o, h1, h2, h3, hQ⟩
theorem lw_frame {s t : State} {o : Outcome} {args : Array Value} (h : Framed s o t [] 601024 7293034) :
    Framed s o t (fieldLocs frame_1_writes args s ++ arrayLocs frame_1_arrays args s ++ staticLocs frame_1_statics s) 601024 7293034 := h
theorem lw_limb (L : Cond) (hL : ∀ (args : Array Value) (s t : State), L.after args s (.returned (some (.int 1))) t = true) :
    ArmFor flags0 classFile x code maxLocals ret World_1 tables_1 room_1 Calls_1 rest_1 Pre_1
      (fun tb e a s o t => postC L tb e a s o t ∧ Framed s o t (fieldLocs frame_1_writes a s ++ arrayLocs frame_1_arrays a s ++ staticLocs frame_1_statics s) 601024 7293034) := by
  intro l hfl _ _ p e ha hc hk s m args below hf hfit hheap happ hpre
  have hst : l.stackTraces = false := by unfold Launch.stackTraces; rw [hfl]; decide +kernel
  obtain ⟨k, o, h1, h2, h3, rfl, hF⟩ := lw_comes l hst p e ha hc hk s m args below hf hfit hheap happ hpre
  exact ⟨k, _, h1, h2, h3, hL args s _, lw_frame hF⟩
theorem i_vc : Claimed_1_1 ∧ Claimed_1_2 := ⟨lw_limb limb_1_1 (fun args s t => by simp [limb_1_1, Cond.after, Cond.holds, Cond.value]), lw_limb limb_1_2 (fun args s t => Cond.after_iff.mpr (by
  first | (rw [show limb_1_2 = Cond.eq .result (.int 1) from rfl, Cond.eq_ints (x := 1) (y := 1) rfl rfl]; simp; done) | (simp [limb_1_2, Cond.value, Term.eval]; done)))⟩
