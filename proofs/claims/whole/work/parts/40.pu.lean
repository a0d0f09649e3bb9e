/-! ===== bits of numbers: Int32 and Nat ===== -/
theorem iB_e {x y : Int32} (h : x.toBitVec = y.toBitVec) : x = y := Int32.toBitVec_inj.mp h
theorem nI_bv (n : Nat) : (nI n).toBitVec = BitVec.ofNat 32 n := rfl
theorem nI_or (a b : Nat) : nI a ||| nI b = nI (a ||| b) := by
  apply iB_e
  show BitVec.ofNat 32 a ||| BitVec.ofNat 32 b = BitVec.ofNat 32 (a ||| b)
  apply BitVec.eq_of_getLsbD_eq
  intro i hi
  simp [BitVec.getLsbD_ofNat, Nat.testBit_or, hi]
theorem nI_and (a b : Nat) : nI a &&& nI b = nI (a &&& b) := by
  apply iB_e
  show BitVec.ofNat 32 a &&& BitVec.ofNat 32 b = BitVec.ofNat 32 (a &&& b)
  apply BitVec.eq_of_getLsbD_eq
  intro i hi
  simp [BitVec.getLsbD_ofNat, Nat.testBit_and, hi]
theorem nI_xor (a b : Nat) : nI a ^^^ nI b = nI (a ^^^ b) := by
  apply iB_e
  show BitVec.ofNat 32 a ^^^ BitVec.ofNat 32 b = BitVec.ofNat 32 (a ^^^ b)
  apply BitVec.eq_of_getLsbD_eq
  intro i hi
  simp [BitVec.getLsbD_ofNat, Nat.testBit_xor, hi]
theorem nI_mul (a b : Nat) : nI a * nI b = nI (a * b) := (Int32.ofNat_mul a b).symm
theorem nI_sub {a b : Nat} (h : b ≤ a) : nI a - nI b = nI (a - b) := by
  obtain ⟨c, rfl⟩ := Nat.exists_eq_add_of_le h
  rw [← nI_add, Nat.add_sub_cancel_left, Int32.add_comm, Int32.add_sub_cancel]
theorem nI_31 : ∀ k, k < 32 → nI k &&& 31 = nI k := by decide +kernel
theorem nI_sm : ∀ k, k < 32 → ((nI k).toBitVec.smod 32).toNat = k := by decide +kernel
theorem nI_shl (a : Nat) {k : Nat} (hk : k < 32) : nI a <<< (nI k &&& 31) = nI (a <<< k) := by
  rw [nI_31 k hk]
  apply iB_e
  show BitVec.ofNat 32 a <<< ((nI k).toBitVec.smod 32) = BitVec.ofNat 32 (a <<< k)
  rw [BitVec.shiftLeft_eq', nI_sm k hk]
  apply BitVec.eq_of_getLsbD_eq
  intro i hi
  simp only [BitVec.getLsbD_shiftLeft, BitVec.getLsbD_ofNat, Nat.testBit_shiftLeft, hi, decide_true, Bool.true_and]
  by_cases hik : i < k
  · simp [hik, Nat.not_le.mpr hik]
  · have h1 : k ≤ i := Nat.le_of_not_lt hik
    have h2 : i - k < 32 := by omega
    simp [hik, h1, h2]
theorem nI_shr {a k : Nat} (ha : a < 2 ^ 31) (hk : k < 32) : nI a >>> (nI k &&& 31) = nI (a >>> k) := by
  rw [nI_31 k hk]
  apply iB_e
  show (BitVec.ofNat 32 a).sshiftRight' ((nI k).toBitVec.smod 32) = BitVec.ofNat 32 (a >>> k)
  rw [BitVec.sshiftRight', nI_sm k hk]
  have hm : (BitVec.ofNat 32 a).msb = false := by
    rw [BitVec.msb_eq_decide]
    simp only [BitVec.toNat_ofNat, decide_eq_false_iff_not, Nat.not_le]
    rw [Nat.mod_eq_of_lt (by omega)]
    exact ha
  rw [BitVec.sshiftRight_eq_of_msb_false hm]
  apply BitVec.eq_of_toNat_eq
  rw [BitVec.toNat_ushiftRight, BitVec.toNat_ofNat, BitVec.toNat_ofNat, Nat.mod_eq_of_lt (show a < 2 ^ 32 by omega), Nat.mod_eq_of_lt]
  exact Nat.lt_of_le_of_lt (Nat.shiftRight_le a k) (by omega)
theorem nI_div {a b : Nat} (ha : a < 2 ^ 31) (hb : b < 2 ^ 31) : nI a / nI b = nI (a / b) := by
  have hq := Nat.lt_of_le_of_lt (Nat.div_le_self a b) ha
  apply Int32.toInt_inj.mp
  rw [Int32.toInt_div, nI_toInt ha, nI_toInt hb, nI_toInt hq, ← Int.ofNat_tdiv]
  generalize a / b = q at *
  rw [Int.bmod_eq_of_le]
  · omega
  · omega
theorem nI_rem {a b : Nat} (ha : a < 2 ^ 31) (hb : b < 2 ^ 31) : nI a - nI a / nI b * nI b = nI (a % b) := by
  rw [nI_div ha hb, nI_mul, nI_sub (Nat.div_mul_le_self a b)]
  congr 1
  have := Nat.div_add_mod a b
  rw [Nat.mul_comm] at this
  omega
theorem bt_01 (a k : Nat) : (a >>> k) &&& 1 = if a.testBit k then 1 else 0 := by
  rw [Nat.testBit, Nat.and_comm 1, Nat.and_one_is_mod]
  rcases Nat.mod_two_eq_zero_or_one (a >>> k) with h | h <;> simp [h]
theorem nI_bit {a k : Nat} (ha : a < 2 ^ 31) (hk : k < 32) : (nI a >>> (nI k &&& 31)) &&& 1 = zb_i (a.testBit k) := by
  rw [nI_shr ha hk]
  show nI _ &&& nI 1 = _
  rw [nI_and, bt_01]
  cases a.testBit k <;> rfl
/-- a set without one member -/
def bt_c (a k : Nat) : Nat := a ^^^ (a &&& (1 <<< k))
theorem bt_cb (a k j : Nat) : (bt_c a k).testBit j = (a.testBit j && !decide (j = k)) := by
  unfold bt_c
  rw [Nat.testBit_xor, Nat.testBit_and, Nat.one_shiftLeft, Nat.testBit_two_pow]
  by_cases h : k = j
  · subst h; simp
  · have : ¬ j = k := fun e => h e.symm
    simp [h, this]
theorem nI_clr (a : Nat) {k : Nat} (hk : k < 32) : nI a &&& (((1 : Int32) <<< (nI k &&& 31)) ^^^ -1) = nI (bt_c a k) := by
  show nI a &&& ((nI 1 <<< (nI k &&& 31)) ^^^ -1) = _
  rw [nI_shl 1 hk]
  apply iB_e
  show BitVec.ofNat 32 a &&& (BitVec.ofNat 32 (1 <<< k) ^^^ BitVec.allOnes 32) = BitVec.ofNat 32 (bt_c a k)
  apply BitVec.eq_of_getLsbD_eq
  intro i hi
  rw [BitVec.getLsbD_and, BitVec.getLsbD_xor, BitVec.getLsbD_allOnes, BitVec.getLsbD_ofNat, BitVec.getLsbD_ofNat, BitVec.getLsbD_ofNat, bt_cb, Nat.one_shiftLeft, Nat.testBit_two_pow]
  by_cases h : k = i
  · subst h; simp [hi]
  · have : ¬ i = k := fun e => h e.symm
    simp [hi, h, this]
/-- sets and their sizes -/
theorem bt_ext {a b : Nat} (h : ∀ i, a.testBit i = b.testBit i) : a = b := Nat.eq_of_testBit_eq h
theorem bt_or {a b n : Nat} (ha : a < 2 ^ n) (hb : b < 2 ^ n) : a ||| b < 2 ^ n := Nat.or_lt_two_pow ha hb
theorem bt_and {a b n : Nat} (ha : a < 2 ^ n) : a &&& b < 2 ^ n := Nat.lt_of_le_of_lt Nat.and_le_left ha
theorem bt_cl {a k n : Nat} (ha : a < 2 ^ n) : bt_c a k < 2 ^ n := Nat.xor_lt_two_pow ha (bt_and ha)
theorem bt_1 {r n : Nat} (h : r < n) : 1 <<< r < 2 ^ n := by rw [Nat.one_shiftLeft]; exact Nat.pow_lt_pow_right (by decide) h
theorem bt_n {a n i : Nat} (ha : a < 2 ^ n) (hi : n ≤ i) : a.testBit i = false := Nat.testBit_lt_two_pow (Nat.lt_of_lt_of_le ha (Nat.pow_le_pow_right (by decide) hi))
theorem bt_lt {a n : Nat} (h : ∀ i, n ≤ i → a.testBit i = false) : a < 2 ^ n := Nat.lt_pow_two_of_testBit a h
/-- a ⊆ b -/
def bt_s (a b : Nat) : Prop := ∀ i, a.testBit i = true → b.testBit i = true
theorem bt_s.and {a b : Nat} (h : bt_s a b) : a &&& b = a := bt_ext fun i => by
  rw [Nat.testBit_and]
  cases ha : a.testBit i
  · rfl
  · rw [h i ha]; rfl
theorem bt_s.or {a b : Nat} (h : bt_s a b) : b ||| a = b := bt_ext fun i => by
  rw [Nat.testBit_or]
  cases ha : a.testBit i
  · simp
  · rw [h i ha]; rfl
theorem bt_s.trans {a b c : Nat} (h : bt_s a b) (h2 : bt_s b c) : bt_s a c := fun i hi => h2 i (h i hi)
theorem bt_s.refl (a : Nat) : bt_s a a := fun _ h => h
theorem bt_s.of_and (a b : Nat) : bt_s (a &&& b) a := fun i h => by rw [Nat.testBit_and] at h; simp only [Bool.and_eq_true] at h; exact h.1
theorem bt_s.l (a b : Nat) : bt_s a (a ||| b) := fun i h => by rw [Nat.testBit_or, h]; rfl
theorem bt_s.r (a b : Nat) : bt_s b (a ||| b) := fun i h => by rw [Nat.testBit_or, h, Bool.or_true]
theorem bt_s.un {a b c : Nat} (h : bt_s a c) (h2 : bt_s b c) : bt_s (a ||| b) c := fun i hi => by
  rw [Nat.testBit_or, Bool.or_eq_true] at hi
  exact hi.elim (h i) (h2 i)
theorem bt_s.clr (a k : Nat) : bt_s (bt_c a k) a := fun i h => by rw [bt_cb] at h; simp only [Bool.and_eq_true] at h; exact h.1
/-! ===== what both sides compute: closures, counts, limits, rules ===== -/
def pc_f (bel : Nat → Nat) (s : Nat) : Nat → Nat
  | 0 => s
  | r + 1 => if s.testBit r then pc_f bel s r ||| bel r else pc_f bel s r
def pk_f (s : Nat) : Nat → Nat
  | 0 => 0
  | k + 1 => pk_f s k + (if s.testBit k then 1 else 0)
abbrev pl_T : Type := List (Nat × Int32)
abbrev pr_T : Type := List (Bool × Nat × Nat × Nat × Nat)
def pk_1 (l : Nat × Int32) (held : Nat) : Bool := decide (nI (pk_f (held &&& l.1) 31) < l.2)
def pk_l (ls : pl_T) (held : Nat) : Bool := ls.all fun l => pk_1 l held
def pr_1 (x : Bool × Nat × Nat × Nat × Nat) (g : Bool) (mine theirs r : Nat) : Bool := decide (x.1 = g) && (decide (x.2.2.2.2 = r) && (mine.testBit x.2.1 && (decide (theirs &&& x.2.2.1 = x.2.2.1) && decide (theirs &&& x.2.2.2.1 = 0))))
def pr_l (rs : pr_T) (g : Bool) (mine theirs r : Nat) : Bool := rs.any fun x => pr_1 x g mine theirs r
theorem pc_lt {bel : Nat → Nat} {s N : Nat} (hs : s < 2 ^ N) (hb : ∀ r, bel r < 2 ^ N) : ∀ k, pc_f bel s k < 2 ^ N
  | 0 => hs
  | k + 1 => by
    unfold pc_f
    split
    · exact bt_or (pc_lt hs hb k) (hb k)
    · exact pc_lt hs hb k
/-- the members of a closure -/
theorem pc_tb (bel : Nat → Nat) (s i : Nat) : ∀ k, (pc_f bel s k).testBit i = true ↔ (s.testBit i = true ∨ ∃ r, r < k ∧ s.testBit r = true ∧ (bel r).testBit i = true)
  | 0 => by
    unfold pc_f
    constructor
    · exact Or.inl
    · rintro (h | ⟨r, hr, -⟩)
      · exact h
      · omega
  | k + 1 => by
    have ih := pc_tb bel s i k
    unfold pc_f
    split
    · rename_i hk
      rw [Nat.testBit_or, Bool.or_eq_true, ih]
      constructor
      · rintro ((h | ⟨r, hr, h⟩) | h)
        · exact Or.inl h
        · exact Or.inr ⟨r, by omega, h⟩
        · exact Or.inr ⟨k, by omega, hk, h⟩
      · rintro (h | ⟨r, hr, h1, h2⟩)
        · exact Or.inl (Or.inl h)
        · by_cases e : r = k
          · subst e; exact Or.inr h2
          · exact Or.inl (Or.inr ⟨r, by omega, h1, h2⟩)
    · rename_i hk
      rw [ih]
      constructor
      · rintro (h | ⟨r, hr, h⟩)
        · exact Or.inl h
        · exact Or.inr ⟨r, by omega, h⟩
      · rintro (h | ⟨r, hr, h1, h2⟩)
        · exact Or.inl h
        · by_cases e : r = k
          · subst e; exact absurd h1 hk
          · exact Or.inr ⟨r, by omega, h1, h2⟩
theorem pc_self (bel : Nat → Nat) (s k : Nat) : bt_s s (pc_f bel s k) := fun i h => (pc_tb bel s i k).mpr (Or.inl h)
theorem pc_mono {bel : Nat → Nat} {s t : Nat} (h : bt_s s t) (k : Nat) : bt_s (pc_f bel s k) (pc_f bel t k) := fun i hi => by
  rw [pc_tb] at hi ⊢
  rcases hi with hi | ⟨r, hr, h1, h2⟩
  · exact Or.inl (h i hi)
  · exact Or.inr ⟨r, hr, h r h1, h2⟩
theorem pk_mono {s t : Nat} (h : bt_s s t) : ∀ k, pk_f s k ≤ pk_f t k
  | 0 => Nat.le_refl _
  | k + 1 => by
    have ih := pk_mono h k
    unfold pk_f
    cases hs : s.testBit k
    · simp; omega
    · rw [h k hs]; simp; omega
theorem pk_b (s : Nat) : ∀ k, pk_f s k ≤ k
  | 0 => Nat.le_refl _
  | k + 1 => by
    have ih := pk_b s k
    unfold pk_f
    split <;> omega
theorem pk_1m {l : Nat × Int32} {a b : Nat} (h : bt_s a b) (hb : pk_1 l b = true) : pk_1 l a = true := by
  unfold pk_1 at *
  rw [decide_eq_true_iff] at *
  have h1 : bt_s (a &&& l.1) (b &&& l.1) := fun i hi => by
    rw [Nat.testBit_and, Bool.and_eq_true] at *
    exact ⟨h i hi.1, hi.2⟩
  have h2 := pk_mono h1 31
  have h3 := pk_b (b &&& l.1) 31
  have h4 : nI (pk_f (a &&& l.1) 31) ≤ nI (pk_f (b &&& l.1) 31) := nI_le h2 (by omega)
  rw [Int32.lt_iff_toInt_lt] at *
  rw [Int32.le_iff_toInt_le] at h4
  omega
theorem pk_lm {ls : pl_T} {a b : Nat} (h : bt_s a b) (hb : pk_l ls b = true) : pk_l ls a = true := by
  unfold pk_l at *
  rw [List.all_eq_true] at *
  exact fun l hl => pk_1m h (hb l hl)
