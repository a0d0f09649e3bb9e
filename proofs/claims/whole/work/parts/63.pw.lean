/-! ===== sets that grow when a role is put above another ===== -/
theorem one_tb (b i : Nat) : (1 <<< b).testBit i = decide (b = i) := by
  rw [Nat.one_shiftLeft, Nat.testBit_two_pow]
theorem pc_1 {bel : Nat → Nat} {n b : Nat} (hb : b < n) (i : Nat) : (pc_f bel (1 <<< b) n).testBit i = true ↔ (b = i ∨ (bel b).testBit i = true) := by
  rw [pc_tb, one_tb, decide_eq_true_iff]
  constructor
  · rintro (h | ⟨r, hr, h1, h2⟩)
    · exact Or.inl h
    · rw [one_tb, decide_eq_true_iff] at h1
      subst h1
      exact Or.inr h2
  · rintro (h | h)
    · exact Or.inl h
    · exact Or.inr ⟨b, hb, by rw [one_tb]; exact decide_eq_true rfl, h⟩
def wd_f (cl : Nat → Nat) (a b s : Nat) : Nat := if s.testBit a = true then s ||| cl (1 <<< b) else s
theorem pb_tb (n : Nat) (bel : Nat → Nat) (a b r i : Nat) (hr : r < n) : (pb_u n bel a b r).testBit i = true ↔ ((bel r).testBit i = true ∨ ((r = a ∨ (bel r).testBit a = true) ∧ (b = i ∨ (bel b).testBit i = true))) := by
  unfold pb_u
  by_cases h : r = a ∨ (bel r).testBit a = true
  · rw [if_pos ⟨hr, h⟩, Nat.testBit_or, Nat.testBit_or, one_tb, Bool.or_eq_true, Bool.or_eq_true, decide_eq_true_iff]
    constructor
    · rintro ((h1 | h1) | h1)
      · exact Or.inl h1
      · exact Or.inr ⟨h, Or.inl h1⟩
      · exact Or.inr ⟨h, Or.inr h1⟩
    · rintro (h1 | ⟨-, h1 | h1⟩)
      · exact Or.inl (Or.inl h1)
      · exact Or.inl (Or.inr h1)
      · exact Or.inr h1
  · rw [if_neg (fun h9 => h h9.2)]
    constructor
    · exact Or.inl
    · rintro (h1 | ⟨h1, -⟩)
      · exact h1
      · exact absurd h1 h
theorem wd_e {bel : Nat → Nat} {n a b : Nat} (ha : a < n) (hb : b < n) (s : Nat) : wd_f (fun t => pc_f bel t n) a b (pc_f bel s n) = pc_f (pb_u n bel a b) s n := by
  apply bt_ext
  intro i
  rw [Bool.eq_iff_iff]
  unfold wd_f
  rw [pc_tb (pb_u n bel a b)]
  split
  · rename_i hA
    rw [Nat.testBit_or, Bool.or_eq_true, pc_1 hb, pc_tb]
    rw [pc_tb] at hA
    constructor
    · rintro ((h | ⟨r, hr, h1, h2⟩) | h)
      · exact Or.inl h
      · exact Or.inr ⟨r, hr, h1, (pb_tb n bel a b r i hr).mpr (Or.inl h2)⟩
      · rcases hA with h1 | ⟨r, hr, h1, h2⟩
        · exact Or.inr ⟨a, ha, h1, (pb_tb n bel a b a i ha).mpr (Or.inr ⟨Or.inl rfl, h⟩)⟩
        · exact Or.inr ⟨r, hr, h1, (pb_tb n bel a b r i hr).mpr (Or.inr ⟨Or.inr h2, h⟩)⟩
    · rintro (h | ⟨r, hr, h1, h2⟩)
      · exact Or.inl (Or.inl h)
      · rcases (pb_tb n bel a b r i hr).mp h2 with h3 | ⟨-, h3⟩
        · exact Or.inl (Or.inr ⟨r, hr, h1, h3⟩)
        · exact Or.inr h3
  · rename_i hA
    rw [pc_tb]
    rw [pc_tb] at hA
    constructor
    · rintro (h | ⟨r, hr, h1, h2⟩)
      · exact Or.inl h
      · exact Or.inr ⟨r, hr, h1, (pb_tb n bel a b r i hr).mpr (Or.inl h2)⟩
    · rintro (h | ⟨r, hr, h1, h2⟩)
      · exact Or.inl h
      · rcases (pb_tb n bel a b r i hr).mp h2 with h3 | ⟨h3, -⟩
        · exact Or.inr ⟨r, hr, h1, h3⟩
        · rcases h3 with h3 | h3
          · subst h3; exact absurd (Or.inl h1) hA
          · exact absurd (Or.inr ⟨r, hr, h1, h3⟩) hA
/-- put above again: nothing changes -/
theorem pb_id {bel : Nat → Nat} {n a b : Nat} (ht : ∀ r i, (bel r).testBit i = true → bt_s (bel i) (bel r)) (h : (bel a).testBit b = true) : pb_u n bel a b = bel := by
  funext r
  unfold pb_u
  split
  · rename_i h9
    apply bt_ext
    intro i
    rw [Bool.eq_iff_iff, Nat.testBit_or, Nat.testBit_or, one_tb, Bool.or_eq_true, Bool.or_eq_true, decide_eq_true_iff]
    have har : bt_s (bel a) (bel r) := by
      rcases h9.2 with e | e
      · subst e; exact bt_s.refl _
      · exact ht r a e
    constructor
    · rintro ((h1 | h1) | h1)
      · exact h1
      · subst h1; exact har _ h
      · exact har _ (ht a b h i h1)
    · exact fun h1 => Or.inl (Or.inl h1)
  · rfl
theorem wd_lt {bel : Nat → Nat} {n a b s : Nat} (hb : ∀ r, bel r < 64) (h6 : b < 6) (hs : s < 64) : wd_f (fun t => pc_f bel t n) a b s < 64 := by
  unfold wd_f
  split
  · exact bt_or (n := 6) hs (pc_64 hb (bt_1 h6) n)
  · exact hs
theorem pc_sn {bel : Nat → Nat} {s n : Nat} (h : bel n = 0) : pc_f bel s (n + 1) = pc_f bel s n := by
  show (if s.testBit n = true then pc_f bel s n ||| bel n else pc_f bel s n) = _
  rw [h, Nat.or_zero, ite_self]
