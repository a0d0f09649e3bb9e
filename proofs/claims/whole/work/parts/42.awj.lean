/-! ===== joins; how the reference's cells stand for sets, limits, rules, sessions ===== -/
section AWJ
variable {G : ag_T} {M : am_M} {fr lo kc ks pc : Nat} {lv : List (Nat × Value)} {st : List Value} {h : List va_E} {Q : aq_T}
theorem aw_join {tgt : Nat} {v : Int32} (k2 : aw_w G M fr lo kc ks tgt lv (.int v :: st) h Q) (k1 : aw_w G M fr lo kc ks tgt lv (.int v :: st) h Q → aw_w G M fr lo kc ks pc lv st h Q) : aw_w G M fr lo kc ks pc lv st h Q := k1 k2
theorem aw_le {fr' lo' kc' ks' : Nat} (k : aw_w G M fr' lo' kc' ks' pc lv st h Q) (hf9 : fr' ≤ fr) (hl9 : lo' ≤ lo) (hc : kc' ≤ kc) (hs : ks' ≤ ks) : aw_w G M fr lo kc ks pc lv st h Q := aw_room hf9 hl9 hc hs k
end AWJ
theorem zb_q0 (b : Bool) : (zb_i b = 0) = (b = false) := by cases b <;> simp [zb_i]
theorem zb_q1 (b : Bool) : (zb_i b = 1) = (b = true) := by cases b <;> simp [zb_i]
theorem zb_inj {a b : Bool} : zb_i a = zb_i b ↔ a = b := by cases a <;> cases b <;> simp [zb_i]
/-- the order and the closure; n roles -/
def rm_c (μ : cm_T) (n : Nat) (bel : Nat → Nat) : Prop := μ.1 1 = nI n ∧ n ≤ 6 ∧ (∀ r, r < 6 → μ.2 0 r = nI (bel r)) ∧ ∀ r, bel r < 64
/-- limits: kind k, from place off -/
def rm_l (μ : cm_T) (k off : Nat) (ls : pl_T) : Prop := μ.2 4 k = nI ls.length ∧ ls.length ≤ 4 ∧ ∀ i l, ls[i]? = some l → μ.2 5 (off + i) = nI l.1 ∧ μ.2 6 (off + i) = l.2 ∧ l.1 < 64
/-- users -/
def rm_u (μ : cm_T) (u : Nat) (asg : Nat → Nat) : Prop := μ.1 2 = nI u ∧ u ≤ 5 ∧ (∀ v, v < 5 → μ.2 3 v = nI (asg v)) ∧ ∀ v, asg v < 64
/-- rules -/
def rm_r (μ : cm_T) (rs : pr_T) : Prop := μ.1 3 = nI rs.length ∧ rs.length ≤ 8 ∧ ∀ i x, rs[i]? = some x → μ.2 10 i = zb_i x.1 ∧ μ.2 11 i = nI x.2.1 ∧ μ.2 12 i = nI x.2.2.1 ∧ μ.2 13 i = nI x.2.2.2.1 ∧ μ.2 14 i = nI x.2.2.2.2 ∧ x.2.1 < 6 ∧ x.2.2.1 < 64 ∧ x.2.2.2.1 < 64 ∧ x.2.2.2.2 < 6
theorem tk_1 {α : Type} {ls : List α} {k : Nat} {l : α} (h : ls[k]? = some l) : ls.take (k + 1) = ls.take k ++ [l] := by
  rw [List.take_add_one, h]; rfl
theorem tk_k {ls : pl_T} {k : Nat} {l : Nat × Int32} (h : ls[k]? = some l) (a : Nat) : pk_l (ls.take (k + 1)) a = (pk_l (ls.take k) a && pk_1 l a) := by
  unfold pk_l
  rw [tk_1 h, List.all_append]; simp
theorem tk_r {rs : pr_T} {k : Nat} {x : Bool × Nat × Nat × Nat × Nat} (h : rs[k]? = some x) (g : Bool) (a b r : Nat) : pr_l (rs.take (k + 1)) g a b r = (pr_l (rs.take k) g a b r || pr_1 x g a b r) := by
  unfold pr_l
  rw [tk_1 h, List.any_append]; simp
theorem tk_g {α : Type} {ls : List α} {k : Nat} (h : k < ls.length) : ∃ l, ls[k]? = some l := ⟨_, List.getElem?_eq_getElem h⟩
def pa_k (f : Nat → Bool) : Nat → Bool
  | 0 => true
  | v + 1 => pa_k f v && f v
theorem pa_ki (f : Nat → Bool) : ∀ n, pa_k f n = true ↔ ∀ v, v < n → f v = true
  | 0 => by simp [pa_k]
  | n + 1 => by
    unfold pa_k
    rw [Bool.and_eq_true, pa_ki f n]
    constructor
    · rintro ⟨h1, h2⟩ v hv
      by_cases e : v = n
      · subst e; exact h2
      · exact h1 v (by omega)
    · exact fun h => ⟨fun v hv => h v (by omega), h n (by omega)⟩
def pn_k (f : Nat → Bool) : Nat → Bool
  | 0 => false
  | v + 1 => pn_k f v || f v
/-- states of the search: the roles of one, of all; one step -/
def pi_r (n s v : Nat) : Nat := (s >>> (v * n)) &&& (2 ^ n - 1)
def pi_a (n : Nat) (cl : Nat → Nat) (s : Nat) : Nat → Nat
  | 0 => 0
  | x + 1 => pi_a n cl s x ||| cl (pi_r n s x)
def po_i : Option Nat → Int32
  | none => -1
  | some t => nI t
theorem pi_lt (n s v : Nat) (hn : n ≤ 6) : pi_r n s v < 64 := by
  unfold pi_r
  have h1 : 2 ^ n - 1 < 2 ^ n := Nat.sub_lt (Nat.two_pow_pos n) (by decide)
  have h2 : (2 : Nat) ^ n ≤ 2 ^ 6 := Nat.pow_le_pow_right (by decide) hn
  have h3 := Nat.and_lt_two_pow (s >>> (v * n)) h1
  omega
theorem pi_al {n : Nat} {cl : Nat → Nat} (hcl : ∀ s, s < 64 → cl s < 64) (hn : n ≤ 6) (s : Nat) : ∀ x, pi_a n cl s x < 64
  | 0 => by unfold pi_a; omega
  | x + 1 => by unfold pi_a; exact bt_or (n := 6) (pi_al hcl hn s x) (hcl _ (pi_lt n s x hn))
theorem pc_64 {bel : Nat → Nat} (hb : ∀ r, bel r < 64) {s : Nat} (hs : s < 64) (k : Nat) : pc_f bel s k < 64 := pc_lt (N := 6) hs hb k
/-- one step of the search: cl the closure, sl the static limits, rs the rules -/
def ps_s (n u : Nat) (cl : Nat → Nat) (sl : pl_T) (rs : pr_T) (s v r : Nat) (g : Bool) : Option Nat :=
  if (pi_r n s v).testBit r = g then none
  else if pr_l rs g (pi_a n cl s u) (cl (pi_r n s v)) r = false then none
  else if g = true ∧ pk_l sl (cl (pi_r n s v ||| 1 <<< r)) = false then none
  else some (s ^^^ 1 <<< (v * n + r))
