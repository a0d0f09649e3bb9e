/-! ===== how the class's cells stand for the state ===== -/
theorem kc_ra_114 : Cond.classLink "RoleAnalyser" 114 "RoleAnalyser$Limit" ∈ aw_T := aw_m2 65 rfl rfl
theorem kc_po_48 : Cond.classLink "RoleAnalyser$Policy" 48 "RoleAnalyser$Rule" ∈ aw_T := aw_m3 37 rfl rfl
theorem kc_al_7 : Cond.classLink "java/util/ArrayList" 7 "java/lang/Object" ∈ aw_T := aw_m2 185 rfl rfl
theorem kf_al_39 : Cond.fieldLink "java/util/ArrayList" 39 "java/util/ArrayList" "DEFAULTCAPACITY_EMPTY_ELEMENTDATA" "[Ljava/lang/Object;" ∈ aw_T := aw_m1 50 rfl rfl
theorem kn_ig_265 : Cond.constant "java/lang/Integer" 265 1431655765 ∈ aw_T := aw_m2 73 rfl rfl
theorem kn_ig_266 : Cond.constant "java/lang/Integer" 266 858993459 ∈ aw_T := aw_m2 74 rfl rfl
theorem kn_ig_267 : Cond.constant "java/lang/Integer" 267 252645135 ∈ aw_T := aw_m2 75 rfl rfl
theorem kx_li : ∃ r, am_cl[3]? = some r ∧ Cond.castable r.1 "RoleAnalyser$Limit" ∈ aw_N := ⟨_, rfl, List.mem_of_getElem? (i := 14) rfl⟩
theorem kx_ru : ∃ r, am_cl[4]? = some r ∧ Cond.castable r.1 "RoleAnalyser$Rule" ∈ aw_N := ⟨_, rfl, List.mem_of_getElem? (i := 15) rfl⟩
theorem ky_li : ∃ r, am_cl[3]? = some r ∧ Cond.castable r.1 "java/lang/Object" ∈ aw_N := ⟨_, rfl, List.mem_of_getElem? (i := 21) rfl⟩
theorem ky_ru : ∃ r, am_cl[4]? = some r ∧ Cond.castable r.1 "java/lang/Object" ∈ aw_N := ⟨_, rfl, List.mem_of_getElem? (i := 22) rfl⟩
/-- an array of references -/
def oa_c (G : ag_T) (a : Nat → Option Nat) : va_E := .inl (G.2.2.1 3, 10, .inr (.inr (.inr (.inr a))))
/-- a list's array: none yet, or one of ten places that holds the objects at ps -/
def el_R (G : ag_T) (rest : List va_E) (v : Value) (ps : List Nat) : Prop :=
  (ps = [] ∧ v = .ref G.2.2.2.2) ∨ (0 < ps.length ∧ ∃ (j : Nat) (a : Nat → Option Nat), v = .ref (G.1 + (j + 33)) ∧ rest[j]? = some (oa_c G a) ∧ ∀ (i p : Nat), ps[i]? = some p → a i = some (G.1 + (p + 33)))
def ob_l (l : Nat × Int32) : va_E := .inr (3, [.int (nI l.1), .int l.2])
def ob_u (x : Bool × Nat × Nat × Nat × Nat) : va_E := .inr (4, [.int (zb_i x.1), .int (nI x.2.1), .int (nI x.2.2.1), .int (nI x.2.2.2.1), .int (nI x.2.2.2.2)])
def rk_o {α : Type} (ob : α → va_E) (G : ag_T) (κ : ck_T) (rest : List va_E) (k : Nat) (ls : List α) : Prop :=
  ∃ ps : List Nat, ps.length = ls.length ∧ κ.1 (5 + 2 * k) = nI ls.length ∧ ls.length ≤ 8 ∧ el_R G rest (κ.2.2 k) ps ∧ ∀ (i : Nat) (l : α) (p : Nat), ls[i]? = some l → ps[i]? = some p → rest[p]? = some (ob l)
def rk_c (κ : ck_T) (n : Nat) (bel : Nat → Nat) : Prop := κ.1 0 = nI n ∧ n ≤ 6 ∧ (∀ s, s < 64 → κ.2.1 0 s = nI (pc_f bel s n)) ∧ ∀ r, bel r < 64
def rk_g (κ : ck_T) (gr : Nat → Nat) : Prop := (∀ r, r < 6 → κ.2.1 4 r = nI (gr r)) ∧ ∀ r, gr r < 2 ^ 31
def rk_u (κ : ck_T) (u : Nat) (asg : Nat → Nat) : Prop := κ.1 3 = nI u ∧ u ≤ 5 ∧ (∀ v, v < 5 → κ.2.1 3 v = nI (asg v)) ∧ ∀ v, asg v < 64
def su_i : Option Nat → Int32
  | none => -1
  | some v => nI v
def rk_s (κ : ck_T) (so : Nat → Option Nat) (sa : Nat → Nat) : Prop := (∀ s, s < 4 → κ.2.1 5 s = su_i (so s) ∧ κ.2.1 6 s = nI (sa s)) ∧ (∀ s v, so s = some v → v < 5) ∧ ∀ s, sa s < 64
def rk_L (G : ag_T) (κ : ck_T) (rest : List va_E) (k : Nat) (ls : pl_T) : Prop := rk_o ob_l G κ rest k ls ∧ ls.length ≤ 4 ∧ ∀ l ∈ ls, l.1 < 64
def rk_U (G : ag_T) (κ : ck_T) (rest : List va_E) (rs : pr_T) : Prop := rk_o ob_u G κ rest 2 rs ∧ ∀ x ∈ rs, x.2.1 < 6 ∧ x.2.2.1 < 64 ∧ x.2.2.2.1 < 64 ∧ x.2.2.2.2 < 6
/-- no two lists share an array -/
def rk_D (G : ag_T) (κ : ck_T) : Prop := G.2.2.2.2 < G.1 ∧ ∀ k k' j, k < 3 → k' < 3 → ¬ k = k' → κ.2.2 k = .ref (G.1 + (j + 33)) → ¬ κ.2.2 k' = .ref (G.1 + (j + 33))
def rk_R (G : ag_T) (κ : ck_T) (rest : List va_E) (A : aa_T) : Prop := rk_c κ (ga_n A) (ga_b A) ∧ rk_g κ (ga_g A) ∧ rk_u κ (ga_u A) (ga_a A) ∧ rk_L G κ rest 0 (ga_s A) ∧ rk_L G κ rest 1 (ga_d A) ∧ rk_U G κ rest (ga_r A) ∧ rk_s κ (ga_o A) (ga_c A) ∧ rk_D G κ
/-- one cell more -/
theorem el_R.app {G : ag_T} {rest : List va_E} {v : Value} {ps : List Nat} (h : el_R G rest v ps) (c : va_E) : el_R G (rest ++ [c]) v ps := by
  rcases h with h | ⟨h0, j, a, h1, h2, h3⟩
  · exact Or.inl h
  · exact Or.inr ⟨h0, j, a, h1, ga_l1 h2, h3⟩
theorem rk_o.app {α : Type} {ob : α → va_E} {G : ag_T} {κ : ck_T} {rest : List va_E} {k : Nat} {ls : List α} (h : rk_o ob G κ rest k ls) (c : va_E) : rk_o ob G κ (rest ++ [c]) k ls := by
  obtain ⟨ps, h1, h2, h3, h4, h5⟩ := h
  exact ⟨ps, h1, h2, h3, h4.app c, fun i l p hl hp => ga_l1 (h5 i l p hl hp)⟩
theorem rk_R.app {G : ag_T} {κ : ck_T} {rest : List va_E} {A : aa_T} (h : rk_R G κ rest A) (c : va_E) : rk_R G κ (rest ++ [c]) A := by
  obtain ⟨h1, h2, h3, h4, h5, h6, h7, h8⟩ := h
  exact ⟨h1, h2, h3, ⟨h4.1.app c, h4.2⟩, ⟨h5.1.app c, h5.2⟩, ⟨h6.1.app c, h6.2⟩, h7, h8⟩
/-- what a place of a list holds -/
theorem rk_g1 {α : Type} {ob : α → va_E} {G : ag_T} {κ : ck_T} {rest : List va_E} {k i : Nat} {ls : List α} {l : α} (h : rk_o ob G κ rest k ls) (hl : ls[i]? = some l) : ∃ (j p : Nat) (a : Nat → Option Nat), κ.2.2 k = .ref (G.1 + (j + 33)) ∧ rest[j]? = some (oa_c G a) ∧ a i = some (G.1 + (p + 33)) ∧ rest[p]? = some (ob l) ∧ i < 8 := by
  obtain ⟨ps, h1, h2, h3, h4, h5⟩ := h
  have hi : i < ls.length := (List.getElem?_eq_some_iff.mp hl).1
  obtain ⟨p, hp⟩ := tk_g (ls := ps) (k := i) (by omega)
  rcases h4 with ⟨e, -⟩ | ⟨h0, j, a, g1, g2, g3⟩
  · subst e; simp at h1; omega
  · exact ⟨j, p, a, g1, g2, g3 i p hp, h5 i l p hl hp, by omega⟩
/-- ends of the class's calls: xs the exceptions' classes by number -/
def qc_E (z : ar_T) (xs : List Nat) (norm : Option Value) (out : Option Value ⊕ Nat) : Prop := (z.1 = 0 ∧ out = .inl norm) ∨ ∃ i c, z.1 = nI (i + 1) ∧ xs[i]? = some c ∧ out = .inr c
def qc_R (G : ag_T) (μ : cm_T) (o : Nat → Int64) (xs : List Nat) (z : ar_T) : aq_T := fun out h' => ∃ κ' rest', h' = hp_f G κ' μ o rest' ∧ rk_R G κ' rest' z.2.2 ∧ qc_E z xs (some (.int z.2.1)) out
def qc_V (G : ag_T) (μ : cm_T) (o : Nat → Int64) (xs : List Nat) (z : ar_T) : aq_T := fun out h' => ∃ κ' rest', h' = hp_f G κ' μ o rest' ∧ rk_R G κ' rest' z.2.2 ∧ qc_E z xs none out
