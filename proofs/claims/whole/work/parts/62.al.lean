/-! ===== the state after an addition to a list ===== -/
theorem oa_ne {G : ag_T} {a : Nat → Option Nat} {c : Nat} {fs : List Value} : ¬ oa_c G a = .inr (c, fs) := fun h => by unfold oa_c at h; cases h
theorem st_g {α : Type} {l : List α} {j i : Nat} {c x : α} (h : l[i]? = some x) (hne : ¬ j = i) : (l.set j c)[i]? = some x := by
  rw [List.getElem?_set_ne hne]; exact h
theorem st_e {α : Type} {l : List α} {j : Nat} {c x : α} (h : l[j]? = some x) : (l.set j c)[j]? = some c := by
  rw [List.getElem?_set_self (List.getElem?_eq_some_iff.mp h).1]
theorem rf_j {G : ag_T} {j j' : Nat} (h : Value.ref (G.1 + (j + 33)) = .ref (G.1 + (j' + 33))) : j = j' := by
  have h2 : G.1 + (j + 33) = G.1 + (j' + 33) := Value.ref.inj h
  omega
theorem rf_e {G : ag_T} {j : Nat} (hE : G.2.2.2.2 < G.1) (h : Value.ref (G.1 + (j + 33)) = .ref G.2.2.2.2) : False := by
  have h2 : G.1 + (j + 33) = G.2.2.2.2 := Value.ref.inj h
  omega
theorem ad_s {α : Type} {ob : α → va_E} {G : ag_T} {κ κ' : ck_T} {rest rest' : List va_E} {k p : Nat} {ls : List α} {x : α} (hob : ∀ y, ∃ c fs, ob y = .inr (c, fs)) (hL : rk_o ob G κ rest k ls) (h8 : ls.length < 8) (hp : rest[p]? = some (ob x)) (hA : ad_P G κ rest k ls.length p κ' rest') : rk_o ob G κ' rest' k (ls ++ [x]) := by
  obtain ⟨ps, h1, h2, h3, h4, h5⟩ := hL
  obtain ⟨a1, a2, a3, a4, a5⟩ := hA
  have hlen : (ps ++ [p]).length = (ls ++ [x]).length := by rw [List.length_append, List.length_append, h1]; rfl
  have hsz : κ'.1 (5 + 2 * k) = nI (ls ++ [x]).length := by rw [a4, List.length_append]; rfl
  have h8' : (ls ++ [x]).length ≤ 8 := by rw [List.length_append]; exact h8
  have hpos : 0 < (ps ++ [p]).length := by rw [List.length_append]; simp
  rcases a5 with ⟨j, a, b1, b2, b3, rfl⟩ | ⟨b1, b2, b3, rfl⟩
  · have hoj : ∀ (q : Nat) (y : α), rest[q]? = some (ob y) → ¬ j = q := by
      intro q y hq e
      subst e
      obtain ⟨c, fs, hy⟩ := hob y
      rw [b3, hy] at hq
      exact oa_ne (Option.some.inj hq)
    refine ⟨ps ++ [p], hlen, hsz, h8', Or.inr ⟨hpos, j, va_up a ls.length (some (G.1 + (p + 33))), by rw [b2, b1], st_e b3, fun i q hq => ?_⟩, fun i l q hl hq => ?_⟩
    · rcases ga_c1 hq with ⟨hi, hq⟩ | ⟨hi, rfl⟩
      · rcases h4 with ⟨e, -⟩ | ⟨h0, j2, a2', c1, c2, c3⟩
        · subst e; simp at hi
        · have ej : j2 = j := rf_j (c1.symm.trans b1)
          subst ej
          rw [b3] at c2
          have ea : a = a2' := by
            have := Option.some.inj c2
            unfold oa_c at this
            injection this with this
            injection this with _ this
            injection this with _ this
            injection this with this
            injection this with this
            injection this with this
            injection this
          subst ea
          unfold va_up
          rw [if_neg (by omega)]
          exact c3 i q hq
      · unfold va_up
        rw [if_pos (by omega)]
    · rcases ga_c1 hl with ⟨hi, hl⟩ | ⟨hi, rfl⟩
      · rcases ga_c1 hq with ⟨hi2, hq⟩ | ⟨hi2, -⟩
        · have := h5 i l q hl hq
          exact st_g this (hoj q l this)
        · omega
      · rcases ga_c1 hq with ⟨hi2, hq⟩ | ⟨hi2, rfl⟩
        · omega
        · exact st_g hp (hoj _ _ hp)
  · have e1 : ls = [] := List.length_eq_zero_iff.mp b2
    subst e1
    have e2 : ps = [] := List.length_eq_zero_iff.mp h1
    subst e2
    refine ⟨[p], rfl, hsz, h8', Or.inr ⟨Nat.zero_lt_one, rest.length, _, b3, List.getElem?_concat_length, fun i q hq => ?_⟩, fun i l q hl hq => ?_⟩
    · rcases ga_c1 (F := []) hq with ⟨hi, -⟩ | ⟨hi, rfl⟩
      · exact absurd hi (Nat.not_lt_zero _)
      · subst hi; rfl
    · rcases ga_c1 (F := []) hl with ⟨hi, -⟩ | ⟨hi, rfl⟩
      · exact absurd hi (Nat.not_lt_zero _)
      · rcases ga_c1 (F := []) hq with ⟨hi2, -⟩ | ⟨hi2, rfl⟩
        · exact absurd hi2 (Nat.not_lt_zero _)
        · exact ga_l1 hp
theorem ad_o {α : Type} {ob : α → va_E} {G : ag_T} {κ κ' : ck_T} {rest rest' : List va_E} {k k' n p : Nat} {ls : List α} (hob : ∀ y, ∃ c fs, ob y = .inr (c, fs)) (hk : ¬ k' = k) (hk3 : k < 3) (hk3' : k' < 3) (hD : rk_D G κ) (hL : rk_o ob G κ rest k' ls) (hA : ad_P G κ rest k n p κ' rest') : rk_o ob G κ' rest' k' ls := by
  obtain ⟨ps, h1, h2, h3, h4, h5⟩ := hL
  obtain ⟨a1, a2, a3, a4, a5⟩ := hA
  refine ⟨ps, h1, by rw [a2 _ (by omega) (by omega)]; exact h2, h3, ?_, ?_⟩
  · rw [a3 k' hk]
    rcases h4 with h4 | ⟨h0, j2, b, c1, c2, c3⟩
    · exact Or.inl h4
    · refine Or.inr ⟨h0, j2, b, c1, ?_, c3⟩
      rcases a5 with ⟨j, a, b1, b2, b3, rfl⟩ | ⟨b1, b2, b3, rfl⟩
      · refine st_g c2 (fun e => ?_)
        subst e
        exact hD.2 k k' j hk3 hk3' (fun e => hk e.symm) b1 c1
      · exact ga_l1 c2
  · intro i l q hl hq
    have hq9 := h5 i l q hl hq
    rcases a5 with ⟨j, a, b1, b2, b3, rfl⟩ | ⟨b1, b2, b3, rfl⟩
    · refine st_g hq9 (fun e => ?_)
      subst e
      obtain ⟨c, fs, hy⟩ := hob l
      rw [b3, hy] at hq9
      exact oa_ne (Option.some.inj hq9)
    · exact ga_l1 hq9
/-- arrays of a list lie in what there is -/
def el_B (G : ag_T) (κ : ck_T) (rest : List va_E) (k : Nat) : Prop := κ.2.2 k = .ref G.2.2.2.2 ∨ ∃ j, j < rest.length ∧ κ.2.2 k = .ref (G.1 + (j + 33))
theorem rk_o.bd {α : Type} {ob : α → va_E} {G : ag_T} {κ : ck_T} {rest : List va_E} {k : Nat} {ls : List α} (h : rk_o ob G κ rest k ls) : el_B G κ rest k := by
  obtain ⟨ps, -, -, -, h4, -⟩ := h
  rcases h4 with ⟨-, h⟩ | ⟨-, j, a, h, h2, -⟩
  · exact Or.inl h
  · exact Or.inr ⟨j, (List.getElem?_eq_some_iff.mp h2).1, h⟩
theorem ad_D {G : ag_T} {κ κ' : ck_T} {rest rest' : List va_E} {k n p : Nat} (hk3 : k < 3) (hD : rk_D G κ) (hB : ∀ k', k' < 3 → el_B G κ rest k') (hA : ad_P G κ rest k n p κ' rest') : rk_D G κ' := by
  obtain ⟨a1, a2, a3, a4, a5⟩ := hA
  refine ⟨hD.1, fun x y j hx hy hxy e1 e2 => ?_⟩
  have hf : ∀ z, z < 3 → ¬ z = k → κ'.2.2 z = .ref (G.1 + (j + 33)) → ¬ κ'.2.2 k = .ref (G.1 + (j + 33)) := by
    intro z hz hzk g1 g2
    rw [a3 z hzk] at g1
    rcases a5 with ⟨j2, a, b1, b2, b3, -⟩ | ⟨b1, b2, b3, -⟩
    · rw [b2] at g2
      exact hD.2 z k j hz hk3 hzk g1 g2
    · rw [b3] at g2
      have ej := rf_j g2
      rcases hB z hz with h9 | ⟨j9, h8, h9⟩
      · rw [g1] at h9
        exact rf_e hD.1 h9
      · have := rf_j (g1.symm.trans h9)
        omega
  by_cases hxk : x = k
  · subst hxk
    exact hf y hy (fun e => hxy e.symm) e2 e1
  · by_cases hyk : y = k
    · subst hyk
      exact hf x hx hxk e1 e2
    · rw [a3 x hxk] at e1
      rw [a3 y hyk] at e2
      exact hD.2 x y j hx hy hxy e1 e2
theorem ob_lr (y : Nat × Int32) : ∃ c fs, ob_l y = .inr (c, fs) := ⟨_, _, rfl⟩
theorem ob_ur (y : Bool × Nat × Nat × Nat × Nat) : ∃ c fs, ob_u y = .inr (c, fs) := ⟨_, _, rfl⟩
theorem rk_R.bd {G : ag_T} {κ : ck_T} {rest : List va_E} {A : aa_T} (h : rk_R G κ rest A) : ∀ k', k' < 3 → el_B G κ rest k' := by
  obtain ⟨h1, h2, h3, h4, h5, h6, h7, h8⟩ := h
  intro k' hk
  rcases (show k' = 0 ∨ k' = 1 ∨ k' = 2 by omega) with rfl | rfl | rfl
  · exact h4.1.bd
  · exact h5.1.bd
  · exact h6.1.bd
theorem ad_c {κ κ' : ck_T} {rest rest' : List va_E} {G : ag_T} {k n p m : Nat} {bel : Nat → Nat} (hA : ad_P G κ rest k n p κ' rest') (h : rk_c κ m bel) : rk_c κ' m bel := by
  obtain ⟨a1, a2, -⟩ := hA
  exact ⟨by rw [a2 0 (by omega) (by omega)]; exact h.1, h.2.1, by rw [a1]; exact h.2.2.1, h.2.2.2⟩
theorem ad_u {κ κ' : ck_T} {rest rest' : List va_E} {G : ag_T} {k n p m : Nat} {asg : Nat → Nat} (hA : ad_P G κ rest k n p κ' rest') (h : rk_u κ m asg) : rk_u κ' m asg := by
  obtain ⟨a1, a2, -⟩ := hA
  exact ⟨by rw [a2 3 (by omega) (by omega)]; exact h.1, h.2.1, by rw [a1]; exact h.2.2.1, h.2.2.2⟩
theorem ad_g {κ κ' : ck_T} {rest rest' : List va_E} {G : ag_T} {k n p : Nat} {gr : Nat → Nat} (hA : ad_P G κ rest k n p κ' rest') (h : rk_g κ gr) : rk_g κ' gr := by
  obtain ⟨a1, a2, -⟩ := hA
  exact ⟨by rw [a1]; exact h.1, h.2⟩
theorem ad_e {κ κ' : ck_T} {rest rest' : List va_E} {G : ag_T} {k n p : Nat} {so : Nat → Option Nat} {sa : Nat → Nat} (hA : ad_P G κ rest k n p κ' rest') (h : rk_s κ so sa) : rk_s κ' so sa := by
  obtain ⟨a1, a2, -⟩ := hA
  exact ⟨by rw [a1]; exact h.1, h.2⟩
theorem ad_RS {G : ag_T} {κ κ' : ck_T} {rest rest' : List va_E} {p : Nat} {A : aa_T} {l : Nat × Int32} (hR : rk_R G κ rest A) (h4 : (ga_s A).length < 4) (hl : l.1 < 64) (hp : rest[p]? = some (ob_l l)) (hA : ad_P G κ rest 0 (ga_s A).length p κ' rest') : rk_R G κ' rest' (sa_s A (ga_s A ++ [l])) := by
  have hbd := hR.bd
  obtain ⟨h1, h2, h3, g4, h5, h6, h7, h8⟩ := hR
  refine ⟨ad_c hA h1, ad_g hA h2, ad_u hA h3, ⟨ad_s ob_lr g4.1 (by omega) hp hA, by show (ga_s A ++ [l]).length ≤ 4; rw [List.length_append]; exact h4, fun x hx => ?_⟩, ⟨ad_o ob_lr (by decide) (by decide) (by decide) h8 h5.1 hA, h5.2⟩, ⟨ad_o ob_ur (by decide) (by decide) (by decide) h8 h6.1 hA, h6.2⟩, ad_e hA h7, ad_D (by decide) h8 hbd hA⟩
  rcases List.mem_append.mp hx with hx | hx
  · exact g4.2.2 x hx
  · rw [List.mem_singleton.mp hx]; exact hl
theorem ad_RD {G : ag_T} {κ κ' : ck_T} {rest rest' : List va_E} {p : Nat} {A : aa_T} {l : Nat × Int32} (hR : rk_R G κ rest A) (h4 : (ga_d A).length < 4) (hl : l.1 < 64) (hp : rest[p]? = some (ob_l l)) (hA : ad_P G κ rest 1 (ga_d A).length p κ' rest') : rk_R G κ' rest' (sa_d A (ga_d A ++ [l])) := by
  have hbd := hR.bd
  obtain ⟨h1, h2, h3, g4, h5, h6, h7, h8⟩ := hR
  refine ⟨ad_c hA h1, ad_g hA h2, ad_u hA h3, ⟨ad_o ob_lr (by decide) (by decide) (by decide) h8 g4.1 hA, g4.2⟩, ⟨ad_s ob_lr h5.1 (by omega) hp hA, by show (ga_d A ++ [l]).length ≤ 4; rw [List.length_append]; exact h4, fun x hx => ?_⟩, ⟨ad_o ob_ur (by decide) (by decide) (by decide) h8 h6.1 hA, h6.2⟩, ad_e hA h7, ad_D (by decide) h8 hbd hA⟩
  rcases List.mem_append.mp hx with hx | hx
  · exact h5.2.2 x hx
  · rw [List.mem_singleton.mp hx]; exact hl
theorem ad_RU {G : ag_T} {κ κ' : ck_T} {rest rest' : List va_E} {p : Nat} {A : aa_T} {x : Bool × Nat × Nat × Nat × Nat} (hR : rk_R G κ rest A) (h4 : (ga_r A).length < 8) (hl : x.2.1 < 6 ∧ x.2.2.1 < 64 ∧ x.2.2.2.1 < 64 ∧ x.2.2.2.2 < 6) (hp : rest[p]? = some (ob_u x)) (hA : ad_P G κ rest 2 (ga_r A).length p κ' rest') : rk_R G κ' rest' (sa_r A (ga_r A ++ [x])) := by
  have hbd := hR.bd
  obtain ⟨h1, h2, h3, g4, h5, h6, h7, h8⟩ := hR
  refine ⟨ad_c hA h1, ad_g hA h2, ad_u hA h3, ⟨ad_o ob_lr (by decide) (by decide) (by decide) h8 g4.1 hA, g4.2⟩, ⟨ad_o ob_lr (by decide) (by decide) (by decide) h8 h5.1 hA, h5.2⟩, ⟨ad_s ob_ur h6.1 h4 hp hA, fun y hy => ?_⟩, ad_e hA h7, ad_D (by decide) h8 hbd hA⟩
  rcases List.mem_append.mp hy with hy | hy
  · exact h6.2 y hy
  · rw [List.mem_singleton.mp hy]; exact hl
