/-! ===== the abstract heap: a list of cells, the k-th of them at the address G.1 + k; all that the run has made since its start ===== -/
abbrev ag_T : Type := Nat × va_G × (Nat → ClassId) × (Nat × Nat × (Nat → Int32)) × Nat
def ah_ws (G : ag_T) : Nat → List va_E → va_W
  | _, [] => []
  | k, e :: t => (G.1 + k, e) :: ah_ws G (k + 1) t
theorem ah_get (G : ag_T) : ∀ (h : List va_E) (k i : Nat), (ah_ws G k h)[i]? = (h[i]?).map (fun e => (G.1 + (k + i), e))
  | [], k, i => by simp [ah_ws]
  | e :: t, k, 0 => by simp [ah_ws]
  | e :: t, k, i + 1 => by
    have h1 := ah_get G t (k + 1) i
    rw [show k + 1 + i = k + (i + 1) by omega] at h1
    simpa [ah_ws] using h1
theorem ah_at {G : ag_T} {h : List va_E} {i : Nat} {e : va_E} (hi : h[i]? = some e) : (ah_ws G 0 h)[i]? = some (G.1 + i, e) := by
  rw [ah_get, hi]
  simp
theorem ah_len (G : ag_T) : ∀ (h : List va_E) (k : Nat), (ah_ws G k h).length = h.length
  | [], _ => rfl
  | _ :: t, k => by simp [ah_ws, ah_len G t (k + 1)]
theorem ah_set (G : ag_T) : ∀ (h : List va_E) (k i : Nat) (e : va_E), (ah_ws G k h).set i (G.1 + (k + i), e) = ah_ws G k (h.set i e)
  | [], _, _, _ => by simp [ah_ws]
  | a :: t, k, 0, e => by simp [ah_ws]
  | a :: t, k, i + 1, e => by
    have h1 := ah_set G t (k + 1) i e
    rw [show k + 1 + i = k + (i + 1) by omega] at h1
    simp [ah_ws, h1]
theorem ah_set0 (G : ag_T) (h : List va_E) (i : Nat) (e : va_E) : (ah_ws G 0 h).set i (G.1 + i, e) = ah_ws G 0 (h.set i e) := by
  have h1 := ah_set G h 0 i e
  rw [Nat.zero_add] at h1
  exact h1
theorem ah_app (G : ag_T) : ∀ (h : List va_E) (k : Nat) (e : va_E), ah_ws G k (h ++ [e]) = ah_ws G k h ++ [(G.1 + (k + h.length), e)]
  | [], k, e => by simp [ah_ws]
  | a :: t, k, e => by
    have h1 := ah_app G t (k + 1) e
    rw [show k + 1 + t.length = k + (t.length + 1) by omega] at h1
    simp [ah_ws, h1]
theorem ah_app0 (G : ag_T) (h : List va_E) (e : va_E) : ah_ws G 0 (h ++ [e]) = ah_ws G 0 h ++ [(G.1 + h.length, e)] := by
  have h1 := ah_app G h 0 e
  rw [Nat.zero_add] at h1
  exact h1
/-- what a method may change: what was made since the start -/
def aw_A (G : ag_T) : Nat → Prop := fun q => G.1 ≤ q
theorem ah_D (G : ag_T) (h : List va_E) : va_D (aw_A G) (ah_ws G 0 h) := by
  have key : ∀ (k : Nat) (q : Nat × va_E), (ah_ws G 0 h)[k]? = some q → q.1 = G.1 + k := by
    intro k q hk
    rw [ah_get] at hk
    cases he : h[k]? with
    | none => rw [he] at hk; cases hk
    | some e =>
      rw [he] at hk
      rw [← Option.some.inj hk]
      simp
  refine ⟨fun i j x y hi hj hxy => ?_, fun k q hk => ?_⟩
  · have h1 := key i x hi
    have h2 := key j y hj
    omega
  · rw [key k q hk]
    exact Nat.le_add_right _ _
/-- the heap H holds the list h -/
def ah_R (G : ag_T) (h : List va_E) (H : Heap) : Prop := va_P G.2.1 am_cl (ah_ws G 0 h) H ∧ H.size = G.1 + h.length
theorem ah_R.cell {G : ag_T} {h : List va_E} {H : Heap} (r : ah_R G h H) {i : Nat} {e : va_E} (hi : h[i]? = some e) : va_at G.2.1 am_cl (G.1 + i, e) H := r.1 i _ (ah_at hi)
theorem ah_R.set {G : ag_T} {h : List va_E} {H H1 : Heap} (r : ah_R G h H) {i : Nat} {e0 e : va_E} (hi : h[i]? = some e0) (hz : H1.size = H.size) (ho : ∀ q : Nat, q ≠ G.1 + i → H1[q]? = H[q]?) (he : va_at G.2.1 am_cl (G.1 + i, e) H1) : ah_R G (h.set i e) H1 := by
  refine ⟨?_, by rw [hz, r.2, List.length_set]⟩
  rw [← ah_set0]
  exact va_P.set r.1 (ah_D G h) (ah_at hi) he ho
theorem ah_R.push {G : ag_T} {h : List va_E} {H H1 : Heap} (r : ah_R G h H) {e : va_E} (hz : H1.size = H.size + 1) (ho : ∀ q : Nat, q < H.size → H1[q]? = H[q]?) (he : va_at G.2.1 am_cl (G.1 + h.length, e) H1) : ah_R G (h ++ [e]) H1 := by
  refine ⟨?_, by rw [hz, r.2, List.length_append]; rfl⟩
  rw [ah_app0]
  refine va_P.app (r.1.kept fun k q hk => ho _ (r.1 k q hk).lt) (fun k q hk => ?_)
  have hk1 : k < 1 := (List.getElem?_eq_some_iff.mp hk).1
  rw [show k = 0 by omega] at hk
  rw [← Option.some.inj hk]
  exact he
