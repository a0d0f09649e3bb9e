/-! ===== the calls in themselves: state and answer (fault, value, state after) ===== -/
/-- (roles, users), below, granted, assigned, static limits, dynamic limits, rules, users of sessions, their active roles -/
abbrev aa_T : Type := (Nat × Nat) × (Nat → Nat) × (Nat → Nat) × (Nat → Nat) × pl_T × pl_T × pr_T × (Nat → Option Nat) × (Nat → Nat)
abbrev ar_T : Type := Int32 × Int32 × aa_T
abbrev ga_n (A : aa_T) : Nat := A.1.1
abbrev ga_u (A : aa_T) : Nat := A.1.2
abbrev ga_b (A : aa_T) : Nat → Nat := A.2.1
abbrev ga_g (A : aa_T) : Nat → Nat := A.2.2.1
abbrev ga_a (A : aa_T) : Nat → Nat := A.2.2.2.1
abbrev ga_s (A : aa_T) : pl_T := A.2.2.2.2.1
abbrev ga_d (A : aa_T) : pl_T := A.2.2.2.2.2.1
abbrev ga_r (A : aa_T) : pr_T := A.2.2.2.2.2.2.1
abbrev ga_o (A : aa_T) : Nat → Option Nat := A.2.2.2.2.2.2.2.1
abbrev ga_c (A : aa_T) : Nat → Nat := A.2.2.2.2.2.2.2.2
abbrev sa_n (A : aa_T) (x : Nat) : aa_T := ((x, A.1.2), A.2)
abbrev sa_u (A : aa_T) (x : Nat) : aa_T := ((A.1.1, x), A.2)
abbrev sa_b (A : aa_T) (x : Nat → Nat) : aa_T := (A.1, x, A.2.2)
abbrev sa_g (A : aa_T) (x : Nat → Nat) : aa_T := (A.1, A.2.1, x, A.2.2.2)
abbrev sa_a (A : aa_T) (x : Nat → Nat) : aa_T := (A.1, A.2.1, A.2.2.1, x, A.2.2.2.2)
abbrev sa_s (A : aa_T) (x : pl_T) : aa_T := (A.1, A.2.1, A.2.2.1, A.2.2.2.1, x, A.2.2.2.2.2)
abbrev sa_d (A : aa_T) (x : pl_T) : aa_T := (A.1, A.2.1, A.2.2.1, A.2.2.2.1, A.2.2.2.2.1, x, A.2.2.2.2.2.2)
abbrev sa_r (A : aa_T) (x : pr_T) : aa_T := (A.1, A.2.1, A.2.2.1, A.2.2.2.1, A.2.2.2.2.1, A.2.2.2.2.2.1, x, A.2.2.2.2.2.2.2)
abbrev sa_o (A : aa_T) (x : Nat → Option Nat) (y : Nat → Nat) : aa_T := (A.1, A.2.1, A.2.2.1, A.2.2.2.1, A.2.2.2.2.1, A.2.2.2.2.2.1, A.2.2.2.2.2.2.1, x, y)
/-- the closure of a set -/
abbrev ga_l (A : aa_T) (s : Nat) : Nat := pc_f (ga_b A) s (ga_n A)
def iN (x : Int32) : Nat := x.toNatClampNeg
theorem iN_n {j : Nat} (h : j < 2 ^ 31) : iN (nI j) = j := nI_clamp h
def rb_i (n : Nat) (r : Int32) : Bool := decide (¬ r < 0 ∧ ¬ nI n ≤ r)
theorem rb_n {n : Nat} {r : Int32} (hn : n < 2 ^ 31) (h : rb_i n r = true) : ∃ j, j < n ∧ r = nI j := by
  unfold rb_i at h
  rw [decide_eq_true_iff] at h
  obtain ⟨j, h1, rfl⟩ := nI_of h.1
  exact ⟨j, Nat.lt_of_not_le fun h9 => h.2 (nI_le h9 h1), rfl⟩
theorem rb_t {n j : Nat} (hn : n < 2 ^ 31) (h : j < n) : rb_i n (nI j) = true := by
  unfold rb_i
  rw [decide_eq_true_iff]
  exact ⟨nI_pos (by omega), nI_ge h hn⟩
def se_i (A : aa_T) (s : Int32) : Bool := decide (¬ s < 0 ∧ ¬ 4 ≤ s) && (ga_o A (iN s)).isSome
def up_f {α : Type} (f : Nat → α) (k : Nat) (v : α) : Nat → α := fun i => if i = k then v else f i
def ab_role (A : aa_T) : ar_T := if ga_n A < 6 then (0, nI (ga_n A), sa_n A (ga_n A + 1)) else (1, 0, A)
def ab_user (A : aa_T) : ar_T := if ga_u A < 5 then (0, nI (ga_u A), sa_u A (ga_u A + 1)) else (1, 0, A)
def pb_u (n : Nat) (bel : Nat → Nat) (a b : Nat) : Nat → Nat := fun r => if r < n ∧ (r = a ∨ (bel r).testBit a = true) then (bel r ||| 1 <<< b) ||| bel b else bel r
def ab_above (A : aa_T) (x y : Int32) : ar_T :=
  if (rb_i (ga_n A) x && rb_i (ga_n A) y) = false then (1, 0, A)
  else if (decide (¬ x = y) && !(ga_b A (iN y)).testBit (iN x)) = false then (2, 0, A)
  else if pa_k (fun v => pk_l (ga_s A) (pc_f (pb_u (ga_n A) (ga_b A) (iN x) (iN y)) (ga_a A v) (ga_n A))) (ga_u A) = false then (3, 0, A)
  else (0, zb_i (!(ga_b A (iN x)).testBit (iN y)), sa_b A (pb_u (ga_n A) (ga_b A) (iN x) (iN y)))
def pm_i (p : Int32) : Bool := decide (¬ p < 0 ∧ ¬ 30 < p)
theorem pm_n {p : Int32} (h : pm_i p = true) : ∃ q, q < 31 ∧ p = nI q := by
  unfold pm_i at h
  rw [decide_eq_true_iff] at h
  obtain ⟨j, h1, rfl⟩ := nI_of h.1
  exact ⟨j, Nat.lt_of_not_le fun h9 => h.2 (nI_lt (a := 30) (by omega) h1), rfl⟩
def ab_grant (A : aa_T) (r p : Int32) : ar_T :=
  if (rb_i (ga_n A) r && pm_i p) = false then (1, 0, A)
  else (0, zb_i (!(ga_g A (iN r)).testBit (iN p)), sa_g A (up_f (ga_g A) (iN r) (ga_g A (iN r) ||| 1 <<< iN p)))
def st_i (s : Int32) : Bool := decide (¬ s < 0 ∧ ¬ 63 < s)
theorem st_n {p : Int32} (h : st_i p = true) : ∃ q, q < 64 ∧ p = nI q := by
  unfold st_i at h
  rw [decide_eq_true_iff] at h
  obtain ⟨j, h1, rfl⟩ := nI_of h.1
  exact ⟨j, Nat.lt_of_not_le fun h9 => h.2 (nI_lt (a := 63) (by omega) h1), rfl⟩
def ab_limit (A : aa_T) (d : Bool) (s m : Int32) : ar_T :=
  if (decide (¬ m < 2) && st_i s) = false then (1, 0, A)
  else if ¬ (if d then ga_d A else ga_s A).length < 4 then (2, 0, A)
  else if d = true then
    if pa_k (fun i => !(ga_o A i).isSome || pk_l (ga_d A ++ [(iN s, m)]) (ga_c A i)) 4 = true then (0, 0, sa_d A (ga_d A ++ [(iN s, m)])) else (2, 0, A)
  else if pa_k (fun v => pk_l (ga_s A ++ [(iN s, m)]) (ga_l A (ga_a A v))) (ga_u A) = true then (0, 0, sa_s A (ga_s A ++ [(iN s, m)])) else (2, 0, A)
def ab_addRule (A : aa_T) (x : Bool × Nat × Nat × Nat × Nat) : ar_T := (0, nI (ga_r A).length, sa_r A (ga_r A ++ [x]))
def ab_giveRule (A : aa_T) (a w x r : Int32) : ar_T :=
  if (rb_i (ga_n A) a && rb_i (ga_n A) r) = false then (1, 0, A)
  else if (st_i w && st_i x) = false then (2, 0, A)
  else if ¬ (ga_r A).length < 8 then (3, 0, A)
  else ab_addRule A (true, iN a, iN w, iN x, iN r)
def ab_takeRule (A : aa_T) (a r : Int32) : ar_T :=
  if (rb_i (ga_n A) a && rb_i (ga_n A) r) = false then (1, 0, A)
  else if ¬ (ga_r A).length < 8 then (2, 0, A)
  else ab_addRule A (false, iN a, 0, 0, iN r)
def ab_put (A : aa_T) (j k : Nat) (f : Int32) : ar_T :=
  if pk_l (ga_s A) (ga_l A (ga_a A j ||| 1 <<< k)) = false then (f, 0, A)
  else (0, zb_i (decide (¬ ga_a A j ||| 1 <<< k = ga_a A j)), sa_a A (up_f (ga_a A) j (ga_a A j ||| 1 <<< k)))
def ab_cut (A : aa_T) (j k : Nat) : aa_T :=
  sa_o (sa_a A (up_f (ga_a A) j (bt_c (ga_a A j) k))) (ga_o A) (fun s => if ga_o A s = some j then ga_c A s &&& ga_l A (bt_c (ga_a A j) k) else ga_c A s)
def ab_drop (A : aa_T) (j k : Nat) : ar_T := (0, zb_i ((ga_a A j).testBit k), ab_cut A j k)
def ab_assign (A : aa_T) (v r : Int32) : ar_T := if (rb_i (ga_u A) v && rb_i (ga_n A) r) = false then (1, 0, A) else ab_put A (iN v) (iN r) 2
def ab_remove (A : aa_T) (v r : Int32) : ar_T := if (rb_i (ga_u A) v && rb_i (ga_n A) r) = false then (1, 0, A) else ab_drop A (iN v) (iN r)
def ab_give (A : aa_T) (x v r : Int32) : ar_T :=
  if (rb_i (ga_u A) x && rb_i (ga_u A) v && rb_i (ga_n A) r) = false then (1, 0, A)
  else if pr_l (ga_r A) true (ga_l A (ga_a A (iN x))) (ga_l A (ga_a A (iN v))) (iN r) = false then (2, 0, A)
  else ab_put A (iN v) (iN r) 3
def ab_take (A : aa_T) (x v r : Int32) : ar_T :=
  if (rb_i (ga_u A) x && rb_i (ga_u A) v && rb_i (ga_n A) r) = false then (1, 0, A)
  else if pr_l (ga_r A) false (ga_l A (ga_a A (iN x))) (ga_l A (ga_a A (iN v))) (iN r) = false then (2, 0, A)
  else ab_drop A (iN v) (iN r)
def ab_roles (A : aa_T) (v : Int32) (d : Bool) : ar_T := if rb_i (ga_u A) v = false then (1, 0, A) else (0, nI (if d = true then ga_l A (ga_a A (iN v)) else ga_a A (iN v)), A)
def ab_free (so : Nat → Option Nat) : Nat := if so 0 = none then 0 else if so 1 = none then 1 else if so 2 = none then 2 else if so 3 = none then 3 else 4
def ab_open (A : aa_T) (v : Int32) : ar_T :=
  if rb_i (ga_u A) v = false then (1, 0, A)
  else if ¬ ab_free (ga_o A) < 4 then (2, 0, A)
  else (0, nI (ab_free (ga_o A)), sa_o A (up_f (ga_o A) (ab_free (ga_o A)) (some (iN v))) (up_f (ga_c A) (ab_free (ga_o A)) 0))
def ab_close (A : aa_T) (s : Int32) : ar_T := if se_i A s = false then (1, 0, A) else (0, 0, sa_o A (up_f (ga_o A) (iN s) none) (up_f (ga_c A) (iN s) 0))
def ga_w (A : aa_T) (s : Nat) : Nat := (ga_o A s).getD 0
def ab_activate (A : aa_T) (s r : Int32) : ar_T :=
  if (se_i A s && rb_i (ga_n A) r) = false then (1, 0, A)
  else if (ga_l A (ga_a A (ga_w A (iN s)))).testBit (iN r) = false then (2, 0, A)
  else if pk_l (ga_d A) (ga_c A (iN s) ||| 1 <<< iN r) = false then (3, 0, A)
  else (0, zb_i (decide (¬ ga_c A (iN s) ||| 1 <<< iN r = ga_c A (iN s))), sa_o A (ga_o A) (up_f (ga_c A) (iN s) (ga_c A (iN s) ||| 1 <<< iN r)))
def ab_rest (A : aa_T) (s r : Int32) : ar_T :=
  if (se_i A s && rb_i (ga_n A) r) = false then (1, 0, A)
  else (0, zb_i ((ga_c A (iN s)).testBit (iN r)), sa_o A (ga_o A) (up_f (ga_c A) (iN s) (bt_c (ga_c A (iN s)) (iN r))))
def ab_active (A : aa_T) (s : Int32) : ar_T := if se_i A s = false then (1, 0, A) else (0, nI (ga_c A (iN s)), A)
def ab_may (A : aa_T) (s p : Int32) : ar_T :=
  if (se_i A s && pm_i p) = false then (1, 0, A)
  else (0, zb_i (pn_k (fun r => (ga_l A (ga_c A (iN s))).testBit r && (ga_g A r).testBit (iN p)) (ga_n A)), A)
/-- what holds of the state always -/
def wa_W (A : aa_T) : Prop :=
  (∀ r, ga_n A ≤ r → ga_b A r = 0 ∧ ga_g A r = 0) ∧ (∀ v, ga_u A ≤ v → ga_a A v = 0) ∧ (∀ r, bt_s (ga_b A r) (2 ^ ga_n A - 1)) ∧ (∀ v, bt_s (ga_a A v) (2 ^ ga_n A - 1))
  ∧ (∀ r i, (ga_b A r).testBit i = true → bt_s (ga_b A i) (ga_b A r))
  ∧ (∀ v, v < ga_u A → pk_l (ga_s A) (ga_l A (ga_a A v)) = true)
  ∧ (∀ s, s < 4 → pk_l (ga_d A) (ga_c A s) = true)
  ∧ (∀ s, (ga_o A s = none → ga_c A s = 0) ∧ ∀ v, ga_o A s = some v → v < ga_u A ∧ bt_s (ga_c A s) (ga_l A (ga_a A v)))
  ∧ (∀ l, l ∈ ga_s A ∨ l ∈ ga_d A → ¬ l.2 < 2)
/-- how the reference's cells stand for it -/
def rm_g (μ : cm_T) (gr : Nat → Nat) : Prop := (∀ r, r < 6 → μ.2 1 r = nI (gr r)) ∧ ∀ r, gr r < 2 ^ 31
def rm_s (μ : cm_T) (so : Nat → Option Nat) (sa : Nat → Nat) : Prop := (∀ s, s < 4 → μ.2 7 s = zb_i (so s).isSome ∧ ∀ v, so s = some v → μ.2 8 s = nI v ∧ v < 5 ∧ μ.2 9 s = nI (sa s)) ∧ ∀ s, sa s < 64
def rm_R (μ : cm_T) (A : aa_T) : Prop := rm_c μ (ga_n A) (ga_b A) ∧ rm_g μ (ga_g A) ∧ rm_u μ (ga_u A) (ga_a A) ∧ rm_l μ 0 0 (ga_s A) ∧ rm_l μ 1 4 (ga_d A) ∧ rm_r μ (ga_r A) ∧ rm_s μ (ga_o A) (ga_c A)
def qm_P (G : ag_T) (κ : ck_T) (o : Nat → Int64) (rest : List va_E) (z : ar_T) (h' : List va_E) : Prop := ∃ μ', h' = hp_f G κ μ' o rest ∧ rm_R μ' z.2.2 ∧ μ'.1 0 = z.1
def qm_R (G : ag_T) (κ : ck_T) (o : Nat → Int64) (rest : List va_E) (z : ar_T) : aq_T := qe_i fun w h' => (z.1 = 0 → w = z.2.1) ∧ qm_P G κ o rest z h'
def qm_V (G : ag_T) (κ : ck_T) (o : Nat → Int64) (rest : List va_E) (z : ar_T) : aq_T := qe_v fun h' => qm_P G κ o rest z h'
def qm_B (G : ag_T) (κ : ck_T) (o : Nat → Int64) (rest : List va_E) (z : ar_T) : aq_T := qe_i fun w h' => (z.1 = 0 → w = z.2.1) ∧ (w = 0 ∨ w = 1) ∧ qm_P G κ o rest z h'
