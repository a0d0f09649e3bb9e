/-! ===== the search over a state of the calls ===== -/
def p0_s (n : Nat) (asg : Nat → Nat) : Nat → Nat
  | 0 => 0
  | v + 1 => p0_s n asg v ||| asg v <<< (v * n)
def sc_t (A : aa_T) (s m : Nat) : Option Nat := ps_s (ga_n A) (ga_u A) (fun t => pc_f (ga_b A) t (ga_n A)) (ga_s A) (ga_r A) s (m / 2 / ga_n A) (m / 2 % ga_n A) (decide (m % 2 = 0))
def sc_M (A : aa_T) : Nat := 2 * ga_u A * ga_n A
def sc_0 (A : aa_T) : Nat := p0_s (ga_n A) (ga_a A) (ga_u A)
def sc_g (A : aa_T) (v r s : Nat) : Bool := (pc_f (ga_b A) (pi_r (ga_n A) s v) (ga_n A)).testBit r
def sc_F (A : aa_T) (k : Nat) : List bf_E := bf_k (sc_t A) (sc_M A) (sc_0 A) k
def sc_f (A : aa_T) (v r : Nat) (q k : Nat) : Option Nat := bf_f (sc_t A) (sc_M A) (sc_0 A) (sc_g A v r) q k
theorem mv_v {m u n : Nat} (hn : 0 < n) (h : m < 2 * u * n) : m / 2 / n < u ∧ m / 2 % n < n := by
  refine ⟨?_, Nat.mod_lt _ hn⟩
  rw [Nat.div_div_eq_div_mul]
  apply Nat.div_lt_of_lt_mul
  rw [Nat.mul_assoc, Nat.mul_comm u n, ← Nat.mul_assoc] at h
  exact h
theorem sh_lt {a b n : Nat} (ha : a < 2 ^ n) : a <<< b < 2 ^ (b + n) := by
  rw [Nat.shiftLeft_eq, Nat.pow_add, Nat.mul_comm]
  exact Nat.mul_lt_mul_of_pos_left ha (Nat.two_pow_pos b)
theorem p0_lt {n : Nat} {asg : Nat → Nat} (ha : ∀ v, asg v < 2 ^ n) : ∀ v, p0_s n asg v < 2 ^ (v * n)
  | 0 => by unfold p0_s; exact Nat.two_pow_pos _
  | v + 1 => by
    unfold p0_s
    have h1 := p0_lt ha v
    have h2 := sh_lt (b := v * n) (ha v)
    rw [Nat.add_mul, Nat.one_mul]
    exact bt_or (Nat.lt_of_lt_of_le h1 (Nat.pow_le_pow_right (by decide) (Nat.le_add_right _ _))) h2
theorem wa_lt {A : aa_T} (hW : wa_W A) (v : Nat) : ga_a A v < 2 ^ ga_n A := by
  apply bt_lt
  intro i hi
  cases h : (ga_a A v).testBit i with
  | false => rfl
  | true =>
    have h2 := hW.2.2.2.1 v i h
    rw [Nat.testBit_two_pow_sub_one] at h2
    simp at h2
    omega
theorem p12 {x : Nat} (h : x ≤ 12) : 2 ^ x ≤ 4096 := Nat.pow_le_pow_right (n := 2) (j := 12) (by decide) h
theorem sc_0l {A : aa_T} (hW : wa_W A) (h12 : ga_u A * ga_n A ≤ 12) : sc_0 A < 4096 := Nat.lt_of_lt_of_le (p0_lt (wa_lt hW) (ga_u A)) (p12 h12)
theorem ps_x {n u : Nat} {cl : Nat → Nat} {sl : pl_T} {rs : pr_T} {s v r t : Nat} {g : Bool} (h : ps_s n u cl sl rs s v r g = some t) : t = s ^^^ 1 <<< (v * n + r) ∧ ¬ (pi_r n s v).testBit r = g ∧ pr_l rs g (pi_a n cl s u) (cl (pi_r n s v)) r = true ∧ (g = true → pk_l sl (cl (pi_r n s v ||| 1 <<< r)) = true) := by
  unfold ps_s at h
  split at h
  · cases h
  · split at h
    · cases h
    · split at h
      · cases h
      · rename_i h1 h2 h3
        cases h
        refine ⟨rfl, h1, by simpa using h2, fun hg => ?_⟩
        cases h4 : pk_l sl (cl (pi_r n s v ||| 1 <<< r)) with
        | true => rfl
        | false => exact absurd ⟨hg, h4⟩ h3
theorem vn_le {u n v : Nat} (hv : v < u) (h12 : u * n ≤ 12) : v * n + n ≤ 12 := by
  have h1 : (v + 1) * n ≤ u * n := Nat.mul_le_mul_right n hv
  rw [Nat.add_mul, Nat.one_mul] at h1
  omega
theorem sc_s {A : aa_T} (h12 : ga_u A * ga_n A ≤ 12) (hn : 0 < ga_n A) : ∀ s m t, s < 4096 → m < sc_M A → sc_t A s m = some t → t < 4096 := by
  intro s m t hs hm ht
  obtain ⟨h1, h2⟩ := mv_v hn hm
  have h3 := vn_le h1 h12
  rw [(ps_x ht).1]
  exact Nat.xor_lt_two_pow (n := 12) hs (bt_1 (by omega))
theorem sc_I {A : aa_T} (hW : wa_W A) (h12 : ga_u A * ga_n A ≤ 12) (hn : 0 < ga_n A) (k : Nat) : bf_I (sc_t A) (sc_M A) 4096 (sc_0 A) k 0 (sc_F A k) := bf_ok (sc_0l hW h12) (sc_s h12 hn) k
theorem sc_S {A : aa_T} {k : Nat} {x : bf_E} (h : (sc_F A k)[k]? = some x) : sc_F A (k + 1) = bf_m (sc_t A) k x.1 x.2.2.2 (sc_F A k) (sc_M A) := by
  unfold sc_F at *
  rw [bf_k, h]
theorem sc_p {A : aa_T} {k i : Nat} {x : bf_E} (h : (sc_F A k)[i]? = some x) : (sc_F A (k + 1))[i]? = some x := by
  cases e : (sc_F A k)[k]? with
  | none =>
    unfold sc_F at *
    rw [bf_k, e]
    exact h
  | some y =>
    rw [sc_S e]
    exact bf_mp h _
theorem sc_r {A : aa_T} {k i : Nat} {x y : bf_E} (hk : (sc_F A k)[k]? = some y) (hi : i ≤ k) (h : (sc_F A (k + 1))[i]? = some x) : (sc_F A k)[i]? = some x := by
  have h1 : i < (sc_F A k).length := Nat.lt_of_le_of_lt hi (List.getElem?_eq_some_iff.mp hk).1
  have h2 := sc_p (List.getElem?_eq_getElem h1)
  rw [h] at h2
  rw [List.getElem?_eq_getElem h1, ← h2]
/-- what the search finds -/
theorem sc_e {A : aa_T} {v r : Nat} : ∀ q k i, sc_f A v r q k = some i → (∀ (j : Nat) (x : bf_E), j < k → (sc_F A k)[j]? = some x → sc_g A v r x.1 = false) → (∃ x : bf_E, (sc_F A i)[i]? = some x ∧ sc_g A v r x.1 = true) ∧ ∀ (j : Nat) (x : bf_E), j < i → (sc_F A i)[j]? = some x → sc_g A v r x.1 = false
  | 0, k, i, h, _ => by cases h
  | q + 1, k, i, h, hno => by
    unfold sc_f at h
    rw [bf_f] at h
    cases e : (sc_F A k)[k]? with
    | none =>
      unfold sc_F at e
      rw [e] at h
      cases h
    | some x =>
      have e' := e
      unfold sc_F at e'
      rw [e'] at h
      by_cases hg : sc_g A v r x.1 = true
      · simp only [hg, if_true] at h
        cases h
        exact ⟨⟨x, e, hg⟩, hno⟩
      · simp only [hg] at h
        refine sc_e q (k + 1) i h (fun j y hj hy => ?_)
        by_cases h9 : j = k
        · subst h9
          have := sc_r e (Nat.le_refl _) hy
          rw [e] at this
          cases this
          simpa using hg
        · exact hno j y (by omega) (sc_r e (by omega) hy)
/-- the answers -/
def sc_d (A : aa_T) (i : Nat) : Nat := ((sc_F A i)[i]?.getD (0, 0, 0, 0)).2.2.2
def mv_c (A : aa_T) (m : Nat) : Nat := 100 * (m / 2 / ga_n A) + 10 * (m / 2 % ga_n A) + m % 2
def sc_c (A : aa_T) (i q : Nat) : Nat := mv_c A ((sc_F A i)[bf_u (sc_F A i) i (sc_d A i - 1 - q)]?.getD (0, 0, 0, 0)).2.2.1
def ds_z (A : aa_T) : Option Nat → ar_T
  | none => (0, -1, A)
  | some i => (0, nI (sc_d A i), A)
def pl_z (A : aa_T) (k : Int32) : Option Nat → ar_T
  | none => (3, 0, A)
  | some i => if k < 0 ∨ nI (sc_d A i) ≤ k then (0, -1, A) else (0, nI (sc_c A i (iN k)), A)
def ab_distance (A : aa_T) (v r : Int32) : ar_T :=
  if (rb_i (ga_u A) v && rb_i (ga_n A) r) = false then (1, 0, A)
  else if decide (ga_u A * ga_n A ≤ 12) = false then (2, 0, A)
  else ds_z A (sc_f A (iN v) (iN r) 4097 0)
def ab_plan (A : aa_T) (v r k : Int32) : ar_T :=
  if (rb_i (ga_u A) v && rb_i (ga_n A) r) = false then (1, 0, A)
  else if decide (ga_u A * ga_n A ≤ 12) = false then (2, 0, A)
  else pl_z A k (sc_f A (iN v) (iN r) 4097 0)
