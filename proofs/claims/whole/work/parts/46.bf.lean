/-! ===== the search in itself: breadth first, (state, parent, move, depth) ===== -/
abbrev bf_E : Type := Nat × Nat × Nat × Nat
def bf_1 (st : Nat → Nat → Option Nat) (p s d : Nat) (F : List bf_E) (m : Nat) : List bf_E :=
  match st s m with
  | none => F
  | some t => if F.any (fun x => decide (x.1 = t)) = true then F else F ++ [(t, p, m, d + 1)]
def bf_m (st : Nat → Nat → Option Nat) (p s d : Nat) (F : List bf_E) : Nat → List bf_E
  | 0 => F
  | m + 1 => bf_1 st p s d (bf_m st p s d F m) m
def bf_k (st : Nat → Nat → Option Nat) (M s0 : Nat) : Nat → List bf_E
  | 0 => [(s0, 0, 0, 0)]
  | k + 1 => match (bf_k st M s0 k)[k]? with
    | none => bf_k st M s0 k
    | some x => bf_m st k x.1 x.2.2.2 (bf_k st M s0 k) M
def bf_f (st : Nat → Nat → Option Nat) (M s0 : Nat) (gl : Nat → Bool) : Nat → Nat → Option Nat
  | 0, _ => none
  | q + 1, k => match (bf_k st M s0 k)[k]? with
    | none => none
    | some x => if gl x.1 = true then some k else bf_f st M s0 gl q (k + 1)
def bf_I (st : Nat → Nat → Option Nat) (M N s0 k m : Nat) (F : List bf_E) : Prop :=
  F[0]? = some (s0, 0, 0, 0)
  ∧ (∀ (i : Nat) (x : bf_E), F[i]? = some x → x.1 < N)
  ∧ (∀ (i j : Nat) (x y : bf_E), F[i]? = some x → F[j]? = some y → x.1 = y.1 → i = j)
  ∧ (∀ (i : Nat) (x : bf_E), 0 < i → F[i]? = some x → x.2.1 < i ∧ x.2.2.1 < M ∧ ∃ y : bf_E, F[x.2.1]? = some y ∧ st y.1 x.2.2.1 = some x.1 ∧ x.2.2.2 = y.2.2.2 + 1)
  ∧ (∀ (i j : Nat) (x y : bf_E), 0 < i → i < j → F[i]? = some x → F[j]? = some y → x.2.1 < y.2.1 ∨ (x.2.1 = y.2.1 ∧ x.2.2.1 < y.2.2.1))
  ∧ (∀ (i : Nat) (x : bf_E), 0 < i → F[i]? = some x → x.2.1 < k ∨ (x.2.1 = k ∧ x.2.2.1 < m))
  ∧ (∀ (p : Nat) (y : bf_E) (m' t : Nat), ((p < k ∧ m' < M) ∨ (p = k ∧ m' < m)) → F[p]? = some y → st y.1 m' = some t → ∃ (j : Nat) (x : bf_E), F[j]? = some x ∧ x.1 = t ∧ (j = 0 ∨ x.2.1 < p ∨ (x.2.1 = p ∧ x.2.2.1 ≤ m')))
theorem ga_l1 {α : Type} {F : List α} {i : Nat} {x y : α} (h : F[i]? = some x) : (F ++ [y])[i]? = some x := by
  rw [List.getElem?_append_left (List.getElem?_eq_some_iff.mp h).1]; exact h
theorem ga_c1 {α : Type} {F : List α} {i : Nat} {x y : α} (h : (F ++ [y])[i]? = some x) : (i < F.length ∧ F[i]? = some x) ∨ (i = F.length ∧ x = y) := by
  by_cases hi : i < F.length
  · rw [List.getElem?_append_left hi] at h; exact Or.inl ⟨hi, h⟩
  · have h2 := (List.getElem?_eq_some_iff.mp h).1
    rw [List.length_append] at h2
    have h3 : i = F.length := by simp at h2; omega
    subst h3
    rw [List.getElem?_concat_length] at h
    cases h
    exact Or.inr ⟨rfl, rfl⟩
theorem bf_new {F : List bf_E} {t : Nat} (h : ¬ F.any (fun x => decide (x.1 = t)) = true) {i : Nat} {x : bf_E} (hx : F[i]? = some x) : ¬ x.1 = t := by
  intro e
  apply h
  rw [List.any_eq_true]
  exact ⟨x, List.mem_of_getElem? hx, by simp [e]⟩
theorem bf_old {F : List bf_E} {t : Nat} (h : F.any (fun x => decide (x.1 = t)) = true) : ∃ (j : Nat) (x : bf_E), F[j]? = some x ∧ x.1 = t := by
  rw [List.any_eq_true] at h
  obtain ⟨x, hx, he⟩ := h
  obtain ⟨j, hj⟩ := List.mem_iff_getElem?.mp hx
  exact ⟨j, x, hj, by simpa using he⟩
theorem bf_1p {st : Nat → Nat → Option Nat} {p s d m i : Nat} {F : List bf_E} {x : bf_E} (h : F[i]? = some x) : (bf_1 st p s d F m)[i]? = some x := by
  unfold bf_1
  split
  · exact h
  · split
    · exact h
    · exact ga_l1 h
theorem bf_mp {st : Nat → Nat → Option Nat} {p s d i : Nat} {F : List bf_E} {x : bf_E} (h : F[i]? = some x) : ∀ m, (bf_m st p s d F m)[i]? = some x
  | 0 => h
  | m + 1 => bf_1p (bf_mp h m)
theorem bf_s {st : Nat → Nat → Option Nat} {M N s0 k m : Nat} {F : List bf_E} {x : bf_E} (hI : bf_I st M N s0 k m F) (hx : F[k]? = some x) (hm : m < M) (hst : ∀ s m t, s < N → m < M → st s m = some t → t < N) : bf_I st M N s0 k (m + 1) (bf_1 st k x.1 x.2.2.2 F m) := by
  obtain ⟨i0, i1, i2, i3, i4, i5, i6⟩ := hI
  unfold bf_1
  split
  · rename_i e
    refine ⟨i0, i1, i2, i3, i4, fun i y hi hy => ?_, fun p y m' t hp hy ht => ?_⟩
    · rcases i5 i y hi hy with h | h
      · exact Or.inl h
      · exact Or.inr ⟨h.1, by omega⟩
    · by_cases h9 : p = k ∧ m' = m
      · obtain ⟨rfl, rfl⟩ := h9
        rw [hx] at hy; cases hy
        rw [e] at ht; cases ht
      · exact i6 p y m' t (by omega) hy ht
  · rename_i t0 e
    split
    · rename_i hany
      refine ⟨i0, i1, i2, i3, i4, fun i y hi hy => ?_, fun p y m' t hp hy ht => ?_⟩
      · rcases i5 i y hi hy with h | h
        · exact Or.inl h
        · exact Or.inr ⟨h.1, by omega⟩
      · by_cases h9 : p = k ∧ m' = m
        · obtain ⟨rfl, rfl⟩ := h9
          rw [hx] at hy; cases hy
          rw [e] at ht; cases ht
          obtain ⟨j, z, hj, hz⟩ := bf_old hany
          refine ⟨j, z, hj, hz, ?_⟩
          by_cases h0 : j = 0
          · exact Or.inl h0
          · rcases i5 j z (by omega) hj with h | h
            · exact Or.inr (Or.inl h)
            · exact Or.inr (Or.inr ⟨h.1, by omega⟩)
        · exact i6 p y m' t (by omega) hy ht
    · rename_i hany
      have hk : k < F.length := (List.getElem?_eq_some_iff.mp hx).1
      refine ⟨ga_l1 i0, ?_, ?_, ?_, ?_, ?_, ?_⟩
      · intro i y hy
        rcases ga_c1 hy with ⟨-, h⟩ | ⟨-, rfl⟩
        · exact i1 i y h
        · exact hst x.1 m t0 (i1 k x hx) hm e
      · intro i j y z hy hz he
        rcases ga_c1 hy with ⟨h1, h⟩ | ⟨h1, rfl⟩
        · rcases ga_c1 hz with ⟨h3, h4⟩ | ⟨h3, rfl⟩
          · exact i2 i j y z h h4 he
          · exact absurd he (bf_new hany h)
        · rcases ga_c1 hz with ⟨h3, h4⟩ | ⟨h3, rfl⟩
          · exact absurd he.symm (bf_new hany h4)
          · omega
      · intro i y hi hy
        rcases ga_c1 hy with ⟨h1, h⟩ | ⟨h1, rfl⟩
        · obtain ⟨g1, g2, z, g3, g4⟩ := i3 i y hi h
          exact ⟨g1, g2, z, ga_l1 g3, g4⟩
        · exact ⟨by show k < i; omega, hm, x, ga_l1 hx, e, rfl⟩
      · intro i j y z hi hij hy hz
        rcases ga_c1 hz with ⟨h3, h4⟩ | ⟨h3, rfl⟩
        · rcases ga_c1 hy with ⟨h1, h⟩ | ⟨h1, rfl⟩
          · exact i4 i j y z hi hij h h4
          · omega
        · rcases ga_c1 hy with ⟨h1, h⟩ | ⟨h1, rfl⟩
          · exact i5 i y hi h
          · omega
      · intro i y hi hy
        rcases ga_c1 hy with ⟨h1, h⟩ | ⟨h1, rfl⟩
        · rcases i5 i y hi h with h | h
          · exact Or.inl h
          · exact Or.inr ⟨h.1, by omega⟩
        · exact Or.inr ⟨rfl, Nat.lt_succ_self m⟩
      · intro p y m' t hp hy ht
        by_cases h9 : p = k ∧ m' = m
        · obtain ⟨rfl, rfl⟩ := h9
          rw [ga_l1 hx] at hy; cases hy
          rw [e] at ht; cases ht
          exact ⟨F.length, _, List.getElem?_concat_length, rfl, Or.inr (Or.inr ⟨rfl, Nat.le_refl _⟩)⟩
        · rcases ga_c1 hy with ⟨h1, h⟩ | ⟨h1, rfl⟩
          · obtain ⟨j, z, hj, hz⟩ := i6 p y m' t (by omega) h ht
            exact ⟨j, z, ga_l1 hj, hz⟩
          · omega
theorem bf_r {st : Nat → Nat → Option Nat} {M N s0 k : Nat} {F : List bf_E} (hI : bf_I st M N s0 k M F) : bf_I st M N s0 (k + 1) 0 F := by
  obtain ⟨i0, i1, i2, i3, i4, i5, i6⟩ := hI
  refine ⟨i0, i1, i2, i3, i4, fun i y hi hy => ?_, fun p y m' t hp hy ht => ?_⟩
  · rcases i5 i y hi hy with h | h <;> exact Or.inl (by omega)
  · exact i6 p y m' t (by omega) hy ht
theorem bf_ms {st : Nat → Nat → Option Nat} {M N s0 k : Nat} {F : List bf_E} {x : bf_E} (hI : bf_I st M N s0 k 0 F) (hx : F[k]? = some x) (hst : ∀ s m t, s < N → m < M → st s m = some t → t < N) : ∀ m, m ≤ M → bf_I st M N s0 k m (bf_m st k x.1 x.2.2.2 F m)
  | 0, _ => hI
  | m + 1, h => bf_s (bf_ms hI hx hst m (by omega)) (bf_mp hx m) (by omega) hst
theorem bf_ok {st : Nat → Nat → Option Nat} {M N s0 : Nat} (h0 : s0 < N) (hst : ∀ s m t, s < N → m < M → st s m = some t → t < N) : ∀ k, bf_I st M N s0 k 0 (bf_k st M s0 k)
  | 0 => by
    have hx : ∀ i (x : bf_E), ([(s0, 0, 0, 0)] : List bf_E)[i]? = some x → i = 0 ∧ x = (s0, 0, 0, 0) := by
      intro i x h
      have := (List.getElem?_eq_some_iff.mp h).1
      have e : i = 0 := by simp at this; omega
      subst e
      cases h
      exact ⟨rfl, rfl⟩
    refine ⟨rfl, ?_, ?_, ?_, ?_, ?_, ?_⟩
    · intro i x h
      rw [(hx i x h).2]; exact h0
    · intro i j x y h1 h2 _
      rw [(hx i x h1).1, (hx j y h2).1]
    · intro i x hi h
      have := (hx i x h).1; omega
    · intro i j x y hi _ h
      have := (hx i x h).1; omega
    · intro i x hi h
      have := (hx i x h).1; omega
    · intro p y m' t hp; omega
  | k + 1 => by
    have ih := bf_ok h0 hst k
    unfold bf_k
    split
    · rename_i e
      obtain ⟨i0, i1, i2, i3, i4, i5, i6⟩ := ih
      refine ⟨i0, i1, i2, i3, i4, fun i y hi hy => ?_, fun p y m' t hp hy ht => ?_⟩
      · rcases i5 i y hi hy with h | h <;> exact Or.inl (by omega)
      · by_cases h9 : p = k
        · subst h9; rw [e] at hy; cases hy
        · exact i6 p y m' t (by omega) hy ht
    · rename_i x hx
      exact bf_r (bf_ms ih hx hst M (Nat.le_refl _))
theorem pg_f : ∀ (N : Nat) (f : Nat → Nat) (L : Nat), (∀ i, i < L → f i < N) → (∀ i j, i < L → j < L → f i = f j → i = j) → L ≤ N
  | 0, f, L, h1, _ => by
    by_cases h : L = 0
    · omega
    · exact absurd (h1 0 (by omega)) (Nat.not_lt_zero _)
  | N + 1, f, L, h1, h2 => by
    by_cases hx : ∃ i, i < L ∧ f i = N
    · obtain ⟨i0, hi0, he⟩ := hx
      have h3 := pg_f N (fun i => f (if i = i0 then L - 1 else i)) (L - 1) (fun i hi => by
        show f _ < N
        split
        · have h4 := h1 (L - 1) (by omega)
          have h5 : ¬ f (L - 1) = N := fun h6 => by have := h2 (L - 1) i0 (by omega) hi0 (by omega); omega
          omega
        · rename_i hne
          have h4 := h1 i (by omega)
          have h5 : ¬ f i = N := fun h6 => hne (h2 i i0 (by omega) hi0 (by omega))
          omega) (fun i j hi hj hij => by
        have h4 := h2 _ _ (by split <;> omega) (by split <;> omega) hij
        split at h4 <;> split at h4 <;> omega)
      omega
    · have h3 := pg_f N f L (fun i hi => by
        have h4 := h1 i hi
        have h5 : ¬ f i = N := fun h6 => hx ⟨i, hi, h6⟩
        omega) h2
      omega
theorem bf_len {st : Nat → Nat → Option Nat} {M N s0 k m : Nat} {F : List bf_E} (hI : bf_I st M N s0 k m F) : F.length ≤ N := by
  obtain ⟨i0, i1, i2, -⟩ := hI
  refine pg_f N (fun i => (F[i]?.getD (0, 0, 0, 0)).1) F.length (fun i hi => ?_) (fun i j hi hj he => ?_)
  · show (F[i]?.getD _).1 < N
    rw [List.getElem?_eq_getElem hi]
    exact i1 i _ (List.getElem?_eq_getElem hi)
  · have he' : (F[i]?.getD (0, 0, 0, 0)).1 = (F[j]?.getD (0, 0, 0, 0)).1 := he
    rw [List.getElem?_eq_getElem hi, List.getElem?_eq_getElem hj] at he'
    exact i2 i j _ _ (List.getElem?_eq_getElem hi) (List.getElem?_eq_getElem hj) he'
/-- room for one more -/
theorem bf_lt {st : Nat → Nat → Option Nat} {M N s0 k m : Nat} {F : List bf_E} {x : bf_E} {t : Nat} (hI : bf_I st M N s0 k m F) (hx : F[k]? = some x) (hm : m < M) (hst : ∀ s m t, s < N → m < M → st s m = some t → t < N) (ht : st x.1 m = some t) (hn : ¬ F.any (fun x => decide (x.1 = t)) = true) : F.length < N := by
  have h := bf_len (bf_s hI hx hm hst)
  unfold bf_1 at h
  rw [ht] at h
  simp only [hn] at h
  rw [if_neg Bool.false_ne_true, List.length_append] at h
  exact h
/-- ancestors -/
def bf_p (F : List bf_E) (i : Nat) : Nat := (F[i]?.getD (0, 0, 0, 0)).2.1
def bf_u (F : List bf_E) (i : Nat) : Nat → Nat
  | 0 => i
  | q + 1 => bf_p F (bf_u F i q)
theorem bf_pe {F : List bf_E} {i : Nat} {x : bf_E} (h : F[i]? = some x) : bf_p F i = x.2.1 := by unfold bf_p; rw [h]; rfl
theorem bf_d {st : Nat → Nat → Option Nat} {M N s0 k m i : Nat} {F : List bf_E} {g : bf_E} (hI : bf_I st M N s0 k m F) (hg : F[i]? = some g) : ∀ q, q ≤ g.2.2.2 → ∃ x : bf_E, F[bf_u F i q]? = some x ∧ x.2.2.2 + q = g.2.2.2 ∧ bf_u F i q ≤ i
  | 0, _ => ⟨g, hg, rfl, Nat.le_refl _⟩
  | q + 1, h => by
    obtain ⟨x, hx, hd, hi⟩ := bf_d hI hg q (by omega)
    have h0 : 0 < bf_u F i q := by
      rcases Nat.eq_zero_or_pos (bf_u F i q) with e | e
      · rw [e, hI.1] at hx; cases hx; simp at hd; omega
      · exact e
    obtain ⟨g1, g2, y, g3, g4, g5⟩ := hI.2.2.2.1 _ x h0 hx
    refine ⟨y, ?_, by omega, ?_⟩
    · show F[bf_p F (bf_u F i q)]? = _
      rw [bf_pe hx]; exact g3
    · show bf_p F (bf_u F i q) ≤ i
      rw [bf_pe hx]; omega
/-- the edge above an ancestor -/
theorem bf_e {st : Nat → Nat → Option Nat} {M N s0 k m i : Nat} {F : List bf_E} {g : bf_E} (hI : bf_I st M N s0 k m F) (hg : F[i]? = some g) {q : Nat} (hq : q < g.2.2.2) : ∃ x y : bf_E, F[bf_u F i q]? = some x ∧ F[bf_u F i (q + 1)]? = some y ∧ x.2.1 = bf_u F i (q + 1) ∧ st y.1 x.2.2.1 = some x.1 ∧ x.2.2.1 < M ∧ bf_u F i (q + 1) < bf_u F i q ∧ bf_u F i q ≤ i ∧ x.2.2.2 = y.2.2.2 + 1 ∧ x.2.2.2 + q = g.2.2.2 := by
  obtain ⟨x, hx, hd, hi⟩ := bf_d hI hg q (by omega)
  have h0 : 0 < bf_u F i q := by
    rcases Nat.eq_zero_or_pos (bf_u F i q) with e | e
    · rw [e, hI.1] at hx; cases hx; simp at hd; omega
    · exact e
  obtain ⟨g1, g2, y, g3, g4, g5⟩ := hI.2.2.2.1 _ x h0 hx
  have e1 : bf_u F i (q + 1) = x.2.1 := bf_pe hx
  exact ⟨x, y, hx, by rw [e1]; exact g3, e1.symm, g4, g2, by rw [e1]; exact g1, hi, g5, hd⟩
/-- q steps lead to a goal -/
def bf_C (st : Nat → Nat → Option Nat) (M : Nat) (gl : Nat → Bool) : Nat → Nat → Prop
  | 0, t => gl t = true
  | q + 1, t => ∃ m t2, m < M ∧ st t m = some t2 ∧ bf_C st M gl q t2
/-- what stands before the path in the queue leads to no goal in as many steps -/
theorem bf_n {st : Nat → Nat → Option Nat} {M N s0 i : Nat} {F : List bf_E} {g : bf_E} {gl : Nat → Bool} (hI : bf_I st M N s0 i 0 F) (hg : F[i]? = some g) (hno : ∀ (j : Nat) (x : bf_E), j < i → F[j]? = some x → gl x.1 = false) : ∀ q, q ≤ g.2.2.2 → ∀ (p : Nat) (x : bf_E), F[p]? = some x → p < bf_u F i q → ¬ bf_C st M gl q x.1
  | 0, _ => fun p x hp hlt hC => by
    have h1 := hno p x hlt hp
    have h2 : gl x.1 = true := hC
    rw [h1] at h2; cases h2
  | q + 1, h => fun p x hp hlt hC => by
    obtain ⟨a, b, ha, hb, e1, e2, e3, e4, e5, -, -⟩ := bf_e hI hg (q := q) (by omega)
    obtain ⟨m, t2, hm, ht, hC2⟩ := hC
    obtain ⟨j, z, hj, hz, hor⟩ := hI.2.2.2.2.2.2 p x m t2 (Or.inl ⟨by omega, hm⟩) hp ht
    subst hz
    refine bf_n hI hg hno q (by omega) j z hj ?_ hC2
    rcases Nat.lt_trichotomy j (bf_u F i q) with h9 | h9 | h9
    · exact h9
    · rw [h9, ha] at hj; cases hj
      omega
    · have h8 := hI.2.2.2.2.1 _ j a z (by omega) h9 ha hj
      omega
/-- the move of the path is the first that leads on -/
theorem bf_x {st : Nat → Nat → Option Nat} {M N s0 i : Nat} {F : List bf_E} {g : bf_E} {gl : Nat → Bool} (hI : bf_I st M N s0 i 0 F) (hg : F[i]? = some g) (hno : ∀ (j : Nat) (x : bf_E), j < i → F[j]? = some x → gl x.1 = false) {q : Nat} (hq : q < g.2.2.2) {x y : bf_E} (hx : F[bf_u F i q]? = some x) (hy : F[bf_u F i (q + 1)]? = some y) {m t : Nat} (hm : m < x.2.2.1) (ht : st y.1 m = some t) : ¬ bf_C st M gl q t := by
  obtain ⟨a, b, ha, hb, e1, e2, e3, e4, e5, -, -⟩ := bf_e hI hg hq
  rw [hx] at ha; cases ha
  rw [hy] at hb; cases hb
  obtain ⟨j, z, hj, hz, hor⟩ := hI.2.2.2.2.2.2 _ y m t (Or.inl ⟨by omega, by omega⟩) hy ht
  subst hz
  refine bf_n hI hg hno q (by omega) j z hj ?_
  rcases Nat.lt_trichotomy j (bf_u F i q) with h9 | h9 | h9
  · exact h9
  · rw [h9, hx] at hj; cases hj
    omega
  · have h8 := hI.2.2.2.2.1 _ j x z (by omega) h9 hx hj
    omega
