/-! ===== what holds always is kept by every call ===== -/
theorem rb_j {n : Nat} {r : Int32} (hn : n < 2 ^ 31) (h : rb_i n r = true) : iN r < n := by
  obtain ⟨j, hj, rfl⟩ := rb_n hn h
  rw [iN_n (by omega)]; exact hj
theorem pw_s {n : Nat} : bt_s (2 ^ n - 1) (2 ^ (n + 1) - 1) := by
  intro i h
  rw [Nat.testBit_two_pow_sub_one, decide_eq_true_iff] at *
  omega
theorem pw_i {n i : Nat} : (2 ^ n - 1).testBit i = true ↔ i < n := by rw [Nat.testBit_two_pow_sub_one, decide_eq_true_iff]
theorem pc_0 (bel : Nat → Nat) : ∀ n, pc_f bel 0 n = 0
  | 0 => rfl
  | n + 1 => by unfold pc_f; rw [pc_0 bel n, Nat.zero_testBit]; rfl
theorem pk_z {l : Nat × Int32} (h : ¬ l.2 < 2) : pk_1 l 0 = true := by
  unfold pk_1
  rw [Nat.zero_and, pk_0, decide_eq_true_iff, nI_0]
  rw [Int32.lt_iff_toInt_lt] at *
  have e2 : (2 : Int32).toInt = 2 := by decide
  have e0 : (0 : Int32).toInt = 0 := by decide
  omega
theorem pk_lz {ls : pl_T} (h : ∀ l ∈ ls, ¬ l.2 < 2) : pk_l ls 0 = true := by
  unfold pk_l
  rw [List.all_eq_true]
  exact fun l hl => pk_z (h l hl)
theorem bt_z (a : Nat) : bt_s 0 a := fun i h => by rw [Nat.zero_testBit] at h; cases h
theorem pc_bm {bel bel' : Nat → Nat} {n : Nat} (h : ∀ r, r < n → bt_s (bel r) (bel' r)) (s : Nat) : bt_s (pc_f bel s n) (pc_f bel' s n) := fun i hi => by
  rw [pc_tb] at *
  rcases hi with hi | ⟨r, hr, h1, h2⟩
  · exact Or.inl hi
  · exact Or.inr ⟨r, hr, h1, h r hr i h2⟩
theorem wa_role {A : aa_T} (hW : wa_W A) : wa_W (ab_role A).2.2 := by
  unfold ab_role
  split
  · obtain ⟨h1, h2, h3, h4, h5, h6, h7, h8, h9⟩ := hW
    have hb := (h1 (ga_n A) (Nat.le_refl _)).1
    refine ⟨fun r hr => h1 r (Nat.le_of_succ_le hr), h2, fun r => (h3 r).trans pw_s, fun v => (h4 v).trans pw_s, h5, fun v hv => ?_, h7, fun s => ⟨(h8 s).1, fun v hv => ⟨((h8 s).2 v hv).1, ?_⟩⟩, h9⟩
    · show pk_l (ga_s A) (pc_f (ga_b A) (ga_a A v) (ga_n A + 1)) = true
      rw [pc_sn hb]; exact h6 v hv
    · show bt_s (ga_c A s) (pc_f (ga_b A) (ga_a A v) (ga_n A + 1))
      rw [pc_sn hb]; exact ((h8 s).2 v hv).2
  · exact hW
theorem wa_user {A : aa_T} (hW : wa_W A) : wa_W (ab_user A).2.2 := by
  unfold ab_user
  split
  · obtain ⟨h1, h2, h3, h4, h5, h6, h7, h8, h9⟩ := hW
    refine ⟨h1, fun v hv => h2 v (Nat.le_of_succ_le hv), h3, h4, h5, fun v hv => ?_, h7, fun s => ⟨(h8 s).1, fun v hv => ⟨Nat.lt_succ_of_lt ((h8 s).2 v hv).1, ((h8 s).2 v hv).2⟩⟩, h9⟩
    by_cases e : v = ga_u A
    · subst e
      show pk_l (ga_s A) (pc_f (ga_b A) (ga_a A (ga_u A)) (ga_n A)) = true
      rw [h2 _ (Nat.le_refl _), pc_0]
      exact pk_lz fun l hl => h9 l (Or.inl hl)
    · exact h6 v (by have hv9 : v < ga_u A + 1 := hv; omega)
  · exact hW
theorem wa_above {A : aa_T} (hn : ga_n A ≤ 6) (hW : wa_W A) (x y : Int32) : wa_W (ab_above A x y).2.2 := by
  unfold ab_above
  split
  · exact hW
  · rename_i c1
    split
    · exact hW
    · split
      · exact hW
      · rename_i c3
        rw [Bool.not_eq_false, Bool.and_eq_true] at c1
        have ha := rb_j (by omega) c1.1
        have hb := rb_j (by omega) c1.2
        generalize iN x = a at *
        generalize iN y = b at *
        obtain ⟨h1, h2, h3, h4, h5, h6, h7, h8, h9⟩ := hW
        have lt : ∀ r i, (ga_b A r).testBit i = true → i < ga_n A ∧ r < ga_n A := by
          intro r i h
          refine ⟨pw_i.mp (h3 r i h), ?_⟩
          rcases Nat.lt_or_ge r (ga_n A) with h9 | h9
          · exact h9
          · rw [(h1 r h9).1, Nat.zero_testBit] at h; cases h
        have sup : ∀ r, bt_s (ga_b A r) (pb_u (ga_n A) (ga_b A) a b r) := by
          intro r i h
          exact (pb_tb _ _ a b r i (lt r i h).2).mpr (Or.inl h)
        have big : ∀ r, ga_n A ≤ r → pb_u (ga_n A) (ga_b A) a b r = ga_b A r := by
          intro r hr
          unfold pb_u
          rw [if_neg (fun h => by omega)]
        have ltr : ∀ r i, (pb_u (ga_n A) (ga_b A) a b r).testBit i = true → r < ga_n A := by
          intro r i h
          rcases Nat.lt_or_ge r (ga_n A) with h9 | h9
          · exact h9
          · rw [big r h9, (h1 r h9).1, Nat.zero_testBit] at h; cases h
        refine ⟨fun r hr => ⟨?_, (h1 r hr).2⟩, h2, fun r i hi => ?_, h4, fun r i hi => ?_, ?_, h7, fun s => ⟨(h8 s).1, fun v hv => ⟨((h8 s).2 v hv).1, ((h8 s).2 v hv).2.trans (pc_bm (fun r _ => sup r) _)⟩⟩, h9⟩
        · show pb_u (ga_n A) (ga_b A) a b r = 0
          rw [big r hr]; exact (h1 r hr).1
        · have hi : (pb_u (ga_n A) (ga_b A) a b r).testBit i = true := hi
          show (2 ^ ga_n A - 1).testBit i = true
          rw [pw_i]
          rcases (pb_tb _ _ a b r i (ltr r i hi)).mp hi with h | ⟨-, h | h⟩
          · exact (lt r i h).1
          · omega
          · exact (lt b i h).1
        · have hi : (pb_u (ga_n A) (ga_b A) a b r).testBit i = true := hi
          have hr := ltr r i hi
          intro j hj
          have hj : (pb_u (ga_n A) (ga_b A) a b i).testBit j = true := hj
          have hin := ltr i j hj
          show (pb_u (ga_n A) (ga_b A) a b r).testBit j = true
          rw [pb_tb _ _ a b r j hr]
          rw [pb_tb _ _ a b r i hr] at hi
          rw [pb_tb _ _ a b i j hin] at hj
          rcases hi with hi | ⟨g1, g2⟩
          · rcases hj with hj | ⟨g3, g4⟩
            · exact Or.inl (h5 r i hi j hj)
            · refine Or.inr ⟨Or.inr ?_, g4⟩
              rcases g3 with g3 | g3
              · rw [← g3]; exact hi
              · exact h5 r i hi a g3
          · rcases hj with hj | ⟨g3, g4⟩
            · refine Or.inr ⟨g1, Or.inr ?_⟩
              rcases g2 with g2 | g2
              · subst g2; exact hj
              · exact h5 b i g2 j hj
            · exact Or.inr ⟨g1, g4⟩
        · rw [Bool.not_eq_false] at c3
          exact fun v hv => (pa_ki _ _).mp c3 v hv
theorem wa_grant {A : aa_T} (hn : ga_n A ≤ 6) (hW : wa_W A) (x y : Int32) : wa_W (ab_grant A x y).2.2 := by
  unfold ab_grant
  split
  · exact hW
  · rename_i c1
    rw [Bool.not_eq_false, Bool.and_eq_true] at c1
    have ha := rb_j (by omega) c1.1
    obtain ⟨h1, h2, h3, h4, h5, h6, h7, h8, h9⟩ := hW
    refine ⟨fun r hr => ⟨(h1 r hr).1, ?_⟩, h2, h3, h4, h5, h6, h7, h8, h9⟩
    have hr9 : ga_n A ≤ r := hr
    show up_f (ga_g A) (iN x) _ r = 0
    unfold up_f
    rw [if_neg (by omega)]
    exact (h1 r hr).2
theorem wa_limit {A : aa_T} (hW : wa_W A) (d : Bool) (s m : Int32) : wa_W (ab_limit A d s m).2.2 := by
  unfold ab_limit
  split
  · exact hW
  · rename_i c1
    rw [Bool.not_eq_false, Bool.and_eq_true, decide_eq_true_iff] at c1
    have hm : ¬ ((iN s, m) : Nat × Int32).2 < 2 := c1.1
    have hWW := hW
    obtain ⟨h1, h2, h3, h4, h5, h6, h7, h8, h9⟩ := hW
    cases d
    · simp only [Bool.false_eq_true, if_false]
      split
      · exact hWW
      · split
        · rename_i c3
          refine ⟨h1, h2, h3, h4, h5, fun v hv => (pa_ki _ _).mp c3 v hv, h7, h8, fun l hl => ?_⟩
          rcases hl with hl | hl
          · rcases List.mem_append.mp hl with hl | hl
            · exact h9 l (Or.inl hl)
            · rw [List.mem_singleton.mp hl]; exact hm
          · exact h9 l (Or.inr hl)
        · exact hWW
    · simp only [if_true]
      split
      · exact hWW
      · split
        · rename_i c3
          rw [lm_d hWW (iN s, m) hm] at c3
          refine ⟨h1, h2, h3, h4, h5, h6, fun i hi => ?_, h8, fun l hl => ?_⟩
          · show pk_l (ga_d A ++ [(iN s, m)]) (ga_c A i) = true
            rw [pk_ap, h7 i hi, (pa_ki _ _).mp c3 i hi]; rfl
          · rcases hl with hl | hl
            · exact h9 l (Or.inl hl)
            · rcases List.mem_append.mp hl with hl | hl
              · exact h9 l (Or.inr hl)
              · rw [List.mem_singleton.mp hl]; exact hm
        · exact hWW
theorem wa_giveRule {A : aa_T} (hW : wa_W A) (x y z w : Int32) : wa_W (ab_giveRule A x y z w).2.2 := by
  unfold ab_giveRule ab_addRule
  split
  · exact hW
  · split
    · exact hW
    · split
      · exact hW
      · exact hW
theorem wa_takeRule {A : aa_T} (hW : wa_W A) (x y : Int32) : wa_W (ab_takeRule A x y).2.2 := by
  unfold ab_takeRule ab_addRule
  split
  · exact hW
  · split
    · exact hW
    · exact hW
theorem wa_put {A : aa_T} (hW : wa_W A) {j k : Nat} (hj : j < ga_u A) (hk : k < ga_n A) (f : Int32) : wa_W (ab_put A j k f).2.2 := by
  unfold ab_put
  split
  · exact hW
  · rename_i c1
    rw [Bool.not_eq_false] at c1
    obtain ⟨h1, h2, h3, h4, h5, h6, h7, h8, h9⟩ := hW
    have sup : ∀ v, bt_s (ga_a A v) (up_f (ga_a A) j (ga_a A j ||| 1 <<< k) v) := by
      intro v
      unfold up_f
      split
      · rename_i e; subst e; exact bt_s.l _ _
      · exact bt_s.refl _
    refine ⟨h1, fun v hv => ?_, h3, fun v => ?_, h5, fun v hv => ?_, h7, fun s => ⟨(h8 s).1, fun v hv => ⟨((h8 s).2 v hv).1, ((h8 s).2 v hv).2.trans (pc_mono (sup v) _)⟩⟩, h9⟩
    · have hv9 : ga_u A ≤ v := hv
      show up_f (ga_a A) j _ v = 0
      unfold up_f
      rw [if_neg (by omega)]
      exact h2 v hv
    · show bt_s (up_f (ga_a A) j _ v) _
      unfold up_f
      split
      · exact (h4 j).un (fun i hi => by rw [one_tb, decide_eq_true_iff] at hi; subst hi; exact pw_i.mpr hk)
      · exact h4 v
    · show pk_l (ga_s A) (pc_f (ga_b A) (up_f (ga_a A) j _ v) (ga_n A)) = true
      unfold up_f
      split
      · exact c1
      · exact h6 v hv
theorem wa_drop {A : aa_T} (hW : wa_W A) {j k : Nat} (hj : j < ga_u A) : wa_W (ab_drop A j k).2.2 := by
  obtain ⟨h1, h2, h3, h4, h5, h6, h7, h8, h9⟩ := hW
  have sub : ∀ v, bt_s (up_f (ga_a A) j (bt_c (ga_a A j) k) v) (ga_a A v) := by
    intro v
    unfold up_f
    split
    · rename_i e; subst e; exact bt_s.clr _ _
    · exact bt_s.refl _
  have subs : ∀ s, bt_s (if ga_o A s = some j then ga_c A s &&& ga_l A (bt_c (ga_a A j) k) else ga_c A s) (ga_c A s) := by
    intro s
    split
    · exact bt_s.of_and _ _
    · exact bt_s.refl _
  refine ⟨h1, fun v hv => ?_, h3, fun v => (sub v).trans (h4 v), h5, fun v hv => pk_lm (pc_mono (sub v) _) (h6 v hv), fun s hs => pk_lm (subs s) (h7 s hs), fun s => ⟨fun hs => ?_, fun v hv => ⟨((h8 s).2 v hv).1, ?_⟩⟩, h9⟩
  · have hv9 : ga_u A ≤ v := hv
    show up_f (ga_a A) j _ v = 0
    unfold up_f
    rw [if_neg (by omega)]
    exact h2 v hv
  · have hs9 : ga_o A s = none := hs
    show (if ga_o A s = some j then _ else ga_c A s) = 0
    rw [hs9, if_neg (by intro h; cases h)]
    exact (h8 s).1 hs9
  · have hv9 : ga_o A s = some v := hv
    show bt_s (if ga_o A s = some j then ga_c A s &&& ga_l A (bt_c (ga_a A j) k) else ga_c A s) (pc_f (ga_b A) (up_f (ga_a A) j (bt_c (ga_a A j) k) v) (ga_n A))
    unfold up_f
    by_cases e : v = j
    · subst e
      rw [if_pos hv9, if_pos rfl]
      intro i hi
      rw [Nat.testBit_and, Bool.and_eq_true] at hi
      exact hi.2
    · rw [if_neg (fun h => e (Option.some.inj (hv9.symm.trans h))), if_neg e]
      exact ((h8 s).2 v hv9).2
theorem wa_assign {A : aa_T} (hn : ga_n A ≤ 6) (hu : ga_u A ≤ 5) (hW : wa_W A) (x y : Int32) : wa_W (ab_assign A x y).2.2 := by
  unfold ab_assign
  split
  · exact hW
  · rename_i c1
    rw [Bool.not_eq_false, Bool.and_eq_true] at c1
    exact wa_put hW (rb_j (by omega) c1.1) (rb_j (by omega) c1.2) _
theorem wa_remove {A : aa_T} (hu : ga_u A ≤ 5) (hW : wa_W A) (x y : Int32) : wa_W (ab_remove A x y).2.2 := by
  unfold ab_remove
  split
  · exact hW
  · rename_i c1
    rw [Bool.not_eq_false, Bool.and_eq_true] at c1
    exact wa_drop hW (rb_j (by omega) c1.1)
theorem wa_give {A : aa_T} (hn : ga_n A ≤ 6) (hu : ga_u A ≤ 5) (hW : wa_W A) (x y z : Int32) : wa_W (ab_give A x y z).2.2 := by
  unfold ab_give
  split
  · exact hW
  · rename_i c1
    rw [Bool.not_eq_false, Bool.and_eq_true, Bool.and_eq_true] at c1
    split
    · exact hW
    · exact wa_put hW (rb_j (by omega) c1.1.2) (rb_j (by omega) c1.2) _
theorem wa_take {A : aa_T} (hu : ga_u A ≤ 5) (hW : wa_W A) (x y z : Int32) : wa_W (ab_take A x y z).2.2 := by
  unfold ab_take
  split
  · exact hW
  · rename_i c1
    rw [Bool.not_eq_false, Bool.and_eq_true, Bool.and_eq_true] at c1
    split
    · exact hW
    · exact wa_drop hW (rb_j (by omega) c1.1.2)
theorem wa_roles {A : aa_T} (hW : wa_W A) (x : Int32) (d : Bool) : wa_W (ab_roles A x d).2.2 := by
  unfold ab_roles; split <;> exact hW
theorem wa_active {A : aa_T} (hW : wa_W A) (x : Int32) : wa_W (ab_active A x).2.2 := by
  unfold ab_active; split <;> exact hW
theorem wa_may {A : aa_T} (hW : wa_W A) (x y : Int32) : wa_W (ab_may A x y).2.2 := by
  unfold ab_may; split <;> exact hW
theorem wa_distance {A : aa_T} (hW : wa_W A) (x y : Int32) : wa_W (ab_distance A x y).2.2 := by
  unfold ab_distance
  split
  · exact hW
  · split
    · exact hW
    · cases sc_f A (iN x) (iN y) 4097 0 <;> exact hW
theorem wa_plan {A : aa_T} (hW : wa_W A) (x y z : Int32) : wa_W (ab_plan A x y z).2.2 := by
  unfold ab_plan
  split
  · exact hW
  · split
    · exact hW
    · cases sc_f A (iN x) (iN y) 4097 0 with
      | none => exact hW
      | some i =>
        show wa_W (if z < 0 ∨ nI (sc_d A i) ≤ z then ((0, -1, A) : ar_T) else (0, nI (sc_c A i (iN z)), A)).2.2
        split <;> exact hW
theorem wa_open {A : aa_T} (hu : ga_u A ≤ 5) (hW : wa_W A) (x : Int32) : wa_W (ab_open A x).2.2 := by
  unfold ab_open
  split
  · exact hW
  · rename_i c1
    rw [Bool.not_eq_false] at c1
    have hj := rb_j (by omega) c1
    split
    · exact hW
    · obtain ⟨h1, h2, h3, h4, h5, h6, h7, h8, h9⟩ := hW
      refine ⟨h1, h2, h3, h4, h5, h6, fun s hs => ?_, fun s => ?_, h9⟩
      · show pk_l (ga_d A) (up_f (ga_c A) _ 0 s) = true
        unfold up_f
        split
        · exact pk_lz fun l hl => h9 l (Or.inr hl)
        · exact h7 s hs
      · show (up_f (ga_o A) _ _ s = none → up_f (ga_c A) _ 0 s = 0) ∧ ∀ v, up_f (ga_o A) _ _ s = some v → v < ga_u A ∧ bt_s (up_f (ga_c A) _ 0 s) (ga_l A (ga_a A v))
        unfold up_f
        by_cases e : s = ab_free (ga_o A)
        · rw [if_pos e, if_pos e]
          refine ⟨fun h => (by cases h), fun v hv => ?_⟩
          cases hv
          exact ⟨hj, bt_z _⟩
        · rw [if_neg e, if_neg e]; exact h8 s
theorem wa_close {A : aa_T} (hW : wa_W A) (x : Int32) : wa_W (ab_close A x).2.2 := by
  unfold ab_close
  split
  · exact hW
  · obtain ⟨h1, h2, h3, h4, h5, h6, h7, h8, h9⟩ := hW
    refine ⟨h1, h2, h3, h4, h5, h6, fun s hs => ?_, fun s => ?_, h9⟩
    · show pk_l (ga_d A) (up_f (ga_c A) _ 0 s) = true
      unfold up_f
      split
      · exact pk_lz fun l hl => h9 l (Or.inr hl)
      · exact h7 s hs
    · show (up_f (ga_o A) _ _ s = none → up_f (ga_c A) _ 0 s = 0) ∧ ∀ v, up_f (ga_o A) _ _ s = some v → v < ga_u A ∧ bt_s (up_f (ga_c A) _ 0 s) (ga_l A (ga_a A v))
      unfold up_f
      by_cases e : s = iN x
      · rw [if_pos e, if_pos e]
        exact ⟨fun _ => rfl, fun v hv => (by cases hv)⟩
      · rw [if_neg e, if_neg e]; exact h8 s
theorem wa_activate {A : aa_T} (hW : wa_W A) (x y : Int32) : wa_W (ab_activate A x y).2.2 := by
  unfold ab_activate
  split
  · exact hW
  · rename_i c1
    rw [Bool.not_eq_false, Bool.and_eq_true] at c1
    split
    · exact hW
    · rename_i c2
      rw [Bool.not_eq_false] at c2
      split
      · exact hW
      · rename_i c3
        rw [Bool.not_eq_false] at c3
        obtain ⟨j, w, hj, rfl, hw⟩ := se_t c1.1
        rw [iN_n (by omega)] at *
        rw [rm_i A j hj w hw] at c2
        obtain ⟨h1, h2, h3, h4, h5, h6, h7, h8, h9⟩ := hW
        refine ⟨h1, h2, h3, h4, h5, h6, fun s hs => ?_, fun s => ?_, h9⟩
        · show pk_l (ga_d A) (up_f (ga_c A) _ _ s) = true
          unfold up_f
          split
          · exact c3
          · exact h7 s hs
        · show (ga_o A s = none → up_f (ga_c A) j _ s = 0) ∧ ∀ v, ga_o A s = some v → v < ga_u A ∧ bt_s (up_f (ga_c A) j _ s) (ga_l A (ga_a A v))
          unfold up_f
          by_cases e : s = j
          · subst e
            rw [if_pos rfl]
            refine ⟨fun h => (by rw [hw] at h; cases h), fun v hv => ?_⟩
            rw [hw] at hv
            cases hv
            refine ⟨((h8 s).2 w hw).1, ((h8 s).2 w hw).2.un (fun i hi => ?_)⟩
            rw [one_tb, decide_eq_true_iff] at hi
            subst hi
            exact c2
          · rw [if_neg e]; exact h8 s
theorem wa_rest {A : aa_T} (hW : wa_W A) (x y : Int32) : wa_W (ab_rest A x y).2.2 := by
  unfold ab_rest
  split
  · exact hW
  · obtain ⟨h1, h2, h3, h4, h5, h6, h7, h8, h9⟩ := hW
    have sub : ∀ s, bt_s (up_f (ga_c A) (iN x) (bt_c (ga_c A (iN x)) (iN y)) s) (ga_c A s) := by
      intro s
      unfold up_f
      split
      · rename_i e; subst e; exact bt_s.clr _ _
      · exact bt_s.refl _
    refine ⟨h1, h2, h3, h4, h5, h6, fun s hs => pk_lm (sub s) (h7 s hs), fun s => ⟨fun hs => ?_, fun v hv => ⟨((h8 s).2 v hv).1, (sub s).trans ((h8 s).2 v hv).2⟩⟩, h9⟩
    have h0 := (h8 s).1 hs
    apply bt_ext
    intro i
    cases hb : (up_f (ga_c A) (iN x) (bt_c (ga_c A (iN x)) (iN y)) s).testBit i with
    | false =>
      show _ = Nat.testBit 0 i
      rw [Nat.zero_testBit]
    | true =>
      have := sub s i hb
      rw [h0, Nat.zero_testBit] at this
      cases this
