/-! ===== the reference: calls, second half ===== -/
theorem pu_01 (A : aa_T) (j k : Nat) (f : Int32) : (ab_put A j k f).2.1 = 0 ∨ (ab_put A j k f).2.1 = 1 := by
  unfold ab_put
  split
  · exact Or.inl rfl
  · exact zb_01 _
theorem w1_e {w v : Int32} (h : w = v) (h1 : v = 0 ∨ v = 1) (h2 : ¬ w = 0) : 1 = v := by
  rcases h1 with h3 | h3
  · exact absurd (h.trans h3) h2
  · exact h3.symm
/-- after a call whose fault was taken as it is -/
theorem rm_i (A : aa_T) : ∀ s, s < 4 → ∀ v, ga_o A s = some v → ga_w A s = v := fun s _ v h => by unfold ga_w; rw [h]; rfl
theorem se_t {A : aa_T} {s : Int32} (h : se_i A s = true) : ∃ j v, j < 4 ∧ s = nI j ∧ ga_o A j = some v := by
  unfold se_i at h
  rw [Bool.and_eq_true, decide_eq_true_iff] at h
  obtain ⟨j, hj, rfl⟩ := se_n h.1.1 h.1.2
  rw [iN_n (by omega)] at h
  obtain ⟨v, hv⟩ := Option.isSome_iff_exists.mp h.2
  exact ⟨j, v, hj, rfl, hv⟩
theorem so_c {μ : cm_T} {so : Nat → Option Nat} {sa : Nat → Nat} {j : Nat} (hSs : rm_s μ so sa) {μ' : cm_T} (e7 : μ'.2 7 = upd (μ.2 7) j 0 := by rfl) (e8 : μ'.2 8 = μ.2 8 := by rfl) (e9 : μ'.2 9 = μ.2 9 := by rfl) : rm_s μ' (up_f so j none) (up_f sa j 0) := by
  refine ⟨fun s hs => ?_, fun s => ?_⟩
  · rw [e7, e8, e9]
    unfold upd up_f
    by_cases e : s = j
    · subst e; simp [zb_i]
    · rw [if_neg e, if_neg e, if_neg e]
      exact hSs.1 s hs
  · unfold up_f
    split
    · omega
    · exact hSs.2 s
theorem so_a {μ : cm_T} {so : Nat → Option Nat} {sa : Nat → Nat} {j x : Nat} (hSs : rm_s μ so sa) (hx : x < 64) {μ' : cm_T} (e7 : μ'.2 7 = μ.2 7 := by rfl) (e8 : μ'.2 8 = μ.2 8 := by rfl) (e9 : μ'.2 9 = upd (μ.2 9) j (nI x) := by rfl) : rm_s μ' so (up_f sa j x) := by
  refine ⟨fun s hs => ?_, up_b hSs.2 hx⟩
  rw [e7, e8, e9]
  obtain ⟨h1, h2⟩ := hSs.1 s hs
  refine ⟨h1, fun v hv => ?_⟩
  obtain ⟨g1, g2, g3⟩ := h2 v hv
  refine ⟨g1, g2, ?_⟩
  unfold upd up_f
  split
  · rfl
  · exact g3
theorem so_o {μ : cm_T} {so : Nat → Option Nat} {sa : Nat → Nat} {j v : Nat} (hSs : rm_s μ so sa) (hv : v < 5) {μ' : cm_T} (e7 : μ'.2 7 = upd (μ.2 7) j 1 := by rfl) (e8 : μ'.2 8 = upd (μ.2 8) j (nI v) := by rfl) (e9 : μ'.2 9 = upd (μ.2 9) j 0 := by rfl) : rm_s μ' (up_f so j (some v)) (up_f sa j 0) := by
  refine ⟨fun s hs => ?_, up_b hSs.2 (by decide)⟩
  rw [e7, e8, e9]
  unfold upd up_f
  by_cases e : s = j
  · subst e
    simp only [if_true]
    refine ⟨rfl, fun w hw => ?_⟩
    cases hw
    exact ⟨rfl, hv, rfl⟩
  · simp only [if_neg e]
    exact hSs.1 s hs
theorem wc_mo_assign (G : ag_T) (κ : ck_T) (μ : cm_T) (o : Nat → Int64) (rest : List va_E) {A : aa_T} (hR : rm_R μ A) (x y : Int32) : aw_w G mm_mo_assign 3 72 0 0 0 (lv_args 0 [.ref (G.1 + 13), .int x, .int y]) [] (hp_f G κ μ o rest) (qm_R G κ o rest (ab_assign A x y)) := by
  obtain ⟨hB, hGr, hU, hSL, hDL, hRs, hSs⟩ := id hR; have hn6 := hB.2.1; have hu5 := hU.2.1
  refine aw_aload_n dd_mo_assign_0 rfl 0 rfl ?_
  refine aw_join (tgt := 22) (v := zb_i (rb_i (ga_u A) x && rb_i (ga_n A) y)) ?_ (fun kj1 => ?_)
  · refine aw_iconst (v := 1) dd_mo_assign_22 (by decide) ?_
    refine aw_cVi mm_mo_when 0 0 _ 5 [_, _] _ (wc_mo_when G κ _ o rest _ _) dd_mo_assign_23 cv_mo_86 my_mo_when np_mo_when rfl rfl rfl (by decide) rfl rfl (Nat.le_of_ble_eq_true rfl) (Nat.le_of_ble_eq_true rfl) ?_
    refine aw_if_eq (tgt := 43) dd_mo_assign_26 (by decide) (fun hw => ?_) (fun hw => ?_)
    · replace hw := zb_e0 hw
      rw [ab_assign, if_pos hw]
      refine aw_iconst (v := 0) dd_mo_assign_43 (by decide) ?_
      exact aw_zret dd_mo_assign_44 rfl (by first | exact Or.inl rfl | exact Or.inr rfl) (by first | exact ⟨_, rfl, fun h0 => absurd (show (1 : Int32) = 0 from h0) (by decide), _, rfl, hR, wn_f hw⟩ | exact ⟨_, rfl, fun h0 => h3.symm.trans (e1 h0), μ1, rfl, e3, e4⟩ | exact ⟨_, rfl, fun h0 => w1_e (e1 h0) (pu_01 A j k 2) h3, μ1, rfl, e3, e4⟩)
    · have hw1 := bt_ne (zb_n0 hw)
      clear hw
      rw [ab_assign, if_neg hw1]
      obtain ⟨h8, h9⟩ := Bool.and_eq_true_iff.mp (Bool.not_eq_false _ ▸ hw1)
      obtain ⟨j, hj, rfl⟩ := rb_n (by omega) h8
      obtain ⟨k, hk, rfl⟩ := rb_n (by omega) h9
      rw [iN_n (by omega), iN_n (by omega)]
      refine aw_aload_n dd_mo_assign_29 rfl 0 rfl ?_
      refine aw_iload_n dd_mo_assign_30 rfl 1 rfl ?_
      refine aw_iload_n dd_mo_assign_31 rfl 2 rfl ?_
      refine aw_iconst (v := 2) dd_mo_assign_32 (by decide) ?_
      refine aw_cVe mm_mo_put 0 0 _ 5 [_, _, _] _ (wc_mo_put G κ (km_s μ 0 (if (rb_i (ga_u A) (nI j) && rb_i (ga_n A) (nI k)) = true then 0 else 1)) o rest hR hj hk (by decide)) dd_mo_assign_33 cv_mo_116 my_mo_put np_mo_put rfl rfl rfl (by decide) rfl rfl (Nat.le_of_ble_eq_true rfl) (Nat.le_of_ble_eq_true rfl) (fun w9 h9 hq => ?_)
      obtain ⟨e1, e0, μ1, rfl, e3, e4⟩ := hq
      refine aw_if_eq (tgt := 43) dd_mo_assign_36 (by decide) (fun h3 => ?_) (fun h3 => ?_)
      · refine aw_iconst (v := 0) dd_mo_assign_43 (by decide) ?_
        exact aw_zret dd_mo_assign_44 rfl (by first | exact Or.inl rfl | exact Or.inr rfl) (by first | exact ⟨_, rfl, fun h0 => absurd (show (1 : Int32) = 0 from h0) (by decide), _, rfl, hR, wn_f hw⟩ | exact ⟨_, rfl, fun h0 => h3.symm.trans (e1 h0), μ1, rfl, e3, e4⟩ | exact ⟨_, rfl, fun h0 => w1_e (e1 h0) (pu_01 A j k 2) h3, μ1, rfl, e3, e4⟩)
      · refine aw_iconst (v := 1) dd_mo_assign_39 (by decide) ?_
        refine aw_goto (tgt := 44) dd_mo_assign_40 (by decide) ?_
        exact aw_zret dd_mo_assign_44 rfl (by first | exact Or.inl rfl | exact Or.inr rfl) (by first | exact ⟨_, rfl, fun h0 => absurd (show (1 : Int32) = 0 from h0) (by decide), _, rfl, hR, wn_f hw⟩ | exact ⟨_, rfl, fun h0 => h3.symm.trans (e1 h0), μ1, rfl, e3, e4⟩ | exact ⟨_, rfl, fun h0 => w1_e (e1 h0) (pu_01 A j k 2) h3, μ1, rfl, e3, e4⟩)
  · refine aw_aload_n dd_mo_assign_1 rfl 0 rfl ?_
    refine aw_iload_n dd_mo_assign_2 rfl 1 rfl ?_
    refine aw_cVi mm_mo_isUser 0 0 _ 5 [_] _ (wc_mo_isUser G κ _ o rest (n := ga_u A) hU.1 _) dd_mo_assign_3 cv_mo_113 my_mo_isUser np_mo_isUser rfl rfl rfl (by decide) rfl rfl (Nat.le_of_ble_eq_true rfl) (Nat.le_of_ble_eq_true rfl) ?_
    refine aw_if_eq (tgt := 21) dd_mo_assign_6 (by decide) (fun h1 => ?_) (fun h1 => ?_)
    · refine aw_iconst (v := 0) dd_mo_assign_21 (by decide) ?_
      exact aw_top (by simp_all [zb_q0, zb_q1, zb_i]) kj1
    · refine aw_aload_n dd_mo_assign_9 rfl 0 rfl ?_
      refine aw_iload_n dd_mo_assign_10 rfl 2 rfl ?_
      refine aw_cVi mm_mo_isRole 0 0 _ 5 [_] _ (wc_mo_isRole G κ _ o rest (n := ga_n A) hB.1 _) dd_mo_assign_11 cv_mo_90 my_mo_isRole np_mo_isRole rfl rfl rfl (by decide) rfl rfl (Nat.le_of_ble_eq_true rfl) (Nat.le_of_ble_eq_true rfl) ?_
      refine aw_if_eq (tgt := 21) dd_mo_assign_14 (by decide) (fun h2 => ?_) (fun h2 => ?_)
      · refine aw_iconst (v := 0) dd_mo_assign_21 (by decide) ?_
        exact aw_top (by simp_all [zb_q0, zb_q1, zb_i]) kj1
      · refine aw_iconst (v := 1) dd_mo_assign_17 (by decide) ?_
        refine aw_goto (tgt := 22) dd_mo_assign_18 (by decide) ?_
        exact aw_top (by simp_all [zb_q0, zb_q1, zb_i]) kj1
theorem wc_mo_remove (G : ag_T) (κ : ck_T) (μ : cm_T) (o : Nat → Int64) (rest : List va_E) {A : aa_T} (hR : rm_R μ A) (hW : wa_W A) (x y : Int32) : aw_w G mm_mo_remove 3 67 0 0 0 (lv_args 0 [.ref (G.1 + 13), .int x, .int y]) [] (hp_f G κ μ o rest) (qm_R G κ o rest (ab_remove A x y)) := by
  obtain ⟨hB, hGr, hU, hSL, hDL, hRs, hSs⟩ := id hR; have hn6 := hB.2.1; have hu5 := hU.2.1
  refine aw_aload_n dd_mo_remove_0 rfl 0 rfl ?_
  refine aw_join (tgt := 22) (v := zb_i (rb_i (ga_u A) x && rb_i (ga_n A) y)) ?_ (fun kj1 => ?_)
  · refine aw_iconst (v := 1) dd_mo_remove_22 (by decide) ?_
    refine aw_cVi mm_mo_when 0 0 _ 5 [_, _] _ (wc_mo_when G κ _ o rest _ _) dd_mo_remove_23 cv_mo_86 my_mo_when np_mo_when rfl rfl rfl (by decide) rfl rfl (Nat.le_of_ble_eq_true rfl) (Nat.le_of_ble_eq_true rfl) ?_
    refine aw_if_eq (tgt := 42) dd_mo_remove_26 (by decide) (fun hw => ?_) (fun hw => ?_)
    · replace hw := zb_e0 hw
      rw [ab_remove, if_pos hw]
      refine aw_iconst (v := 0) dd_mo_remove_42 (by decide) ?_
      exact aw_zret dd_mo_remove_43 rfl (by first | exact Or.inl rfl | exact Or.inr rfl) (by first | exact ⟨_, rfl, fun h0 => absurd (show (1 : Int32) = 0 from h0) (by decide), _, rfl, hR, wn_f hw⟩ | exact ⟨_, rfl, fun h0 => h3.symm.trans (e1 h0), μ1, rfl, e3, e4⟩ | exact ⟨_, rfl, fun h0 => w1_e (e1 h0) (zb_01 _) h3, μ1, rfl, e3, e4⟩)
    · have hw1 := bt_ne (zb_n0 hw)
      clear hw
      rw [ab_remove, if_neg hw1]
      obtain ⟨h8, h9⟩ := Bool.and_eq_true_iff.mp (Bool.not_eq_false _ ▸ hw1)
      obtain ⟨j, hj, rfl⟩ := rb_n (by omega) h8
      obtain ⟨k, hk, rfl⟩ := rb_n (by omega) h9
      rw [iN_n (by omega), iN_n (by omega)]
      refine aw_aload_n dd_mo_remove_29 rfl 0 rfl ?_
      refine aw_iload_n dd_mo_remove_30 rfl 1 rfl ?_
      refine aw_iload_n dd_mo_remove_31 rfl 2 rfl ?_
      refine aw_cVe mm_mo_drop 0 0 _ 5 [_, _] _ (wc_mo_drop G κ (km_s μ 0 (if (rb_i (ga_u A) (nI j) && rb_i (ga_n A) (nI k)) = true then 0 else 1)) o rest hR hW hj hk (wn_t hw1)) dd_mo_remove_32 cv_mo_120 my_mo_drop np_mo_drop rfl rfl rfl (by decide) rfl rfl (Nat.le_of_ble_eq_true rfl) (Nat.le_of_ble_eq_true rfl) (fun w9 h9 hq => ?_)
      obtain ⟨e1, e0, μ1, rfl, e3, e4⟩ := hq
      refine aw_if_eq (tgt := 42) dd_mo_remove_35 (by decide) (fun h3 => ?_) (fun h3 => ?_)
      · refine aw_iconst (v := 0) dd_mo_remove_42 (by decide) ?_
        exact aw_zret dd_mo_remove_43 rfl (by first | exact Or.inl rfl | exact Or.inr rfl) (by first | exact ⟨_, rfl, fun h0 => absurd (show (1 : Int32) = 0 from h0) (by decide), _, rfl, hR, wn_f hw⟩ | exact ⟨_, rfl, fun h0 => h3.symm.trans (e1 h0), μ1, rfl, e3, e4⟩ | exact ⟨_, rfl, fun h0 => w1_e (e1 h0) (zb_01 _) h3, μ1, rfl, e3, e4⟩)
      · refine aw_iconst (v := 1) dd_mo_remove_38 (by decide) ?_
        refine aw_goto (tgt := 43) dd_mo_remove_39 (by decide) ?_
        exact aw_zret dd_mo_remove_43 rfl (by first | exact Or.inl rfl | exact Or.inr rfl) (by first | exact ⟨_, rfl, fun h0 => absurd (show (1 : Int32) = 0 from h0) (by decide), _, rfl, hR, wn_f hw⟩ | exact ⟨_, rfl, fun h0 => h3.symm.trans (e1 h0), μ1, rfl, e3, e4⟩ | exact ⟨_, rfl, fun h0 => w1_e (e1 h0) (zb_01 _) h3, μ1, rfl, e3, e4⟩)
  · refine aw_aload_n dd_mo_remove_1 rfl 0 rfl ?_
    refine aw_iload_n dd_mo_remove_2 rfl 1 rfl ?_
    refine aw_cVi mm_mo_isUser 0 0 _ 5 [_] _ (wc_mo_isUser G κ _ o rest (n := ga_u A) hU.1 _) dd_mo_remove_3 cv_mo_113 my_mo_isUser np_mo_isUser rfl rfl rfl (by decide) rfl rfl (Nat.le_of_ble_eq_true rfl) (Nat.le_of_ble_eq_true rfl) ?_
    refine aw_if_eq (tgt := 21) dd_mo_remove_6 (by decide) (fun h1 => ?_) (fun h1 => ?_)
    · refine aw_iconst (v := 0) dd_mo_remove_21 (by decide) ?_
      exact aw_top (by simp_all [zb_q0, zb_q1, zb_i]) kj1
    · refine aw_aload_n dd_mo_remove_9 rfl 0 rfl ?_
      refine aw_iload_n dd_mo_remove_10 rfl 2 rfl ?_
      refine aw_cVi mm_mo_isRole 0 0 _ 5 [_] _ (wc_mo_isRole G κ _ o rest (n := ga_n A) hB.1 _) dd_mo_remove_11 cv_mo_90 my_mo_isRole np_mo_isRole rfl rfl rfl (by decide) rfl rfl (Nat.le_of_ble_eq_true rfl) (Nat.le_of_ble_eq_true rfl) ?_
      refine aw_if_eq (tgt := 21) dd_mo_remove_14 (by decide) (fun h2 => ?_) (fun h2 => ?_)
      · refine aw_iconst (v := 0) dd_mo_remove_21 (by decide) ?_
        exact aw_top (by simp_all [zb_q0, zb_q1, zb_i]) kj1
      · refine aw_iconst (v := 1) dd_mo_remove_17 (by decide) ?_
        refine aw_goto (tgt := 22) dd_mo_remove_18 (by decide) ?_
        exact aw_top (by simp_all [zb_q0, zb_q1, zb_i]) kj1
theorem wc_mo_give (G : ag_T) (κ : ck_T) (μ : cm_T) (o : Nat → Int64) (rest : List va_E) {A : aa_T} (hR : rm_R μ A) (hW : wa_W A) (x y z : Int32) : aw_w G mm_mo_give 3 72 0 0 0 (lv_args 0 [.ref (G.1 + 13), .int x, .int y, .int z]) [] (hp_f G κ μ o rest) (qm_R G κ o rest (ab_give A x y z)) := by
  obtain ⟨hB, hGr, hU, hSL, hDL, hRs, hSs⟩ := id hR; have hn6 := hB.2.1; have hu5 := hU.2.1
  refine aw_aload_n dd_mo_give_0 rfl 0 rfl ?_
  refine aw_join (tgt := 30) (v := zb_i (rb_i (ga_u A) x && rb_i (ga_u A) y && rb_i (ga_n A) z)) ?_ (fun kj1 => ?_)
  · refine aw_iconst (v := 1) dd_mo_give_30 (by decide) ?_
    refine aw_cVi mm_mo_when 0 0 _ 5 [_, _] _ (wc_mo_when G κ _ o rest _ _) dd_mo_give_31 cv_mo_86 my_mo_when np_mo_when rfl rfl rfl (by decide) rfl rfl (Nat.le_of_ble_eq_true rfl) (Nat.le_of_ble_eq_true rfl) ?_
    refine aw_if_eq (tgt := 71) dd_mo_give_34 (by decide) (fun hw => ?_) (fun hw => ?_)
    · replace hw := zb_e0 hw
      rw [ab_give, if_pos hw]
      refine aw_iconst (v := 0) dd_mo_give_71 (by decide) ?_
      exact aw_zret dd_mo_give_72 rfl (by first | exact Or.inl rfl | exact Or.inr rfl) (by first | exact ⟨_, rfl, fun h0 => absurd (show (1 : Int32) = 0 from h0) (by decide), _, rfl, hR, wn_f hw⟩ | exact ⟨_, rfl, fun h0 => absurd (show (2 : Int32) = 0 from h0) (by decide), _, rfl, hR, wn_f hw⟩)
    · have hw1 := bt_ne (zb_n0 hw)
      clear hw
      obtain ⟨h7, h9⟩ := Bool.and_eq_true_iff.mp (Bool.not_eq_false _ ▸ hw1)
      obtain ⟨h7, h8⟩ := Bool.and_eq_true_iff.mp h7
      obtain ⟨i, hi, rfl⟩ := rb_n (by omega) h7
      obtain ⟨j, hj, rfl⟩ := rb_n (by omega) h8
      obtain ⟨k, hk, rfl⟩ := rb_n (by omega) h9
      rw [ab_give, if_neg hw1, iN_n (by omega), iN_n (by omega), iN_n (by omega)]
      refine aw_aload_n dd_mo_give_37 rfl 0 rfl ?_
      refine aw_aload_n dd_mo_give_38 rfl 0 rfl ?_
      refine aw_iconst (v := (zb_i true)) dd_mo_give_39 (by decide) ?_
      refine aw_aload_n dd_mo_give_40 rfl 0 rfl ?_
      refine aw_aload_n dd_mo_give_41 rfl 0 rfl ?_
      refine aw_getf _ 5 6 dd_mo_give_42 fl_mo_19 rfl rfl ?_
      refine aw_iload_n dd_mo_give_45 rfl 1 rfl ?_
      refine aw_iaN _ (i) dd_mo_give_46 rfl (by omega) (by decide) ?_
      refine aw_top (hU.2.2.1 i (by omega)) ?_
      refine aw_cVi mm_mo_closed 0 0 _ 5 [_] _ (wc_mo_closed G κ (km_s μ 0 (if (rb_i (ga_u A) (nI i) && rb_i (ga_u A) (nI j) && rb_i (ga_n A) (nI k)) = true then 0 else 1)) o rest hB (hU.2.2.2 i)) dd_mo_give_47 cv_mo_75 my_mo_closed np_mo_closed rfl rfl rfl (by decide) rfl rfl (Nat.le_of_ble_eq_true rfl) (Nat.le_of_ble_eq_true rfl) ?_
      refine aw_aload_n dd_mo_give_50 rfl 0 rfl ?_
      refine aw_aload_n dd_mo_give_51 rfl 0 rfl ?_
      refine aw_getf _ 5 6 dd_mo_give_52 fl_mo_19 rfl rfl ?_
      refine aw_iload_n dd_mo_give_55 rfl 2 rfl ?_
      refine aw_iaN _ (j) dd_mo_give_56 rfl (by omega) (by decide) ?_
      refine aw_top (hU.2.2.1 j (by omega)) ?_
      refine aw_cVi mm_mo_closed 0 0 _ 5 [_] _ (wc_mo_closed G κ (km_s μ 0 (if (rb_i (ga_u A) (nI i) && rb_i (ga_u A) (nI j) && rb_i (ga_n A) (nI k)) = true then 0 else 1)) o rest hB (hU.2.2.2 j)) dd_mo_give_57 cv_mo_75 my_mo_closed np_mo_closed rfl rfl rfl (by decide) rfl rfl (Nat.le_of_ble_eq_true rfl) (Nat.le_of_ble_eq_true rfl) ?_
      refine aw_iload_n dd_mo_give_60 rfl 3 rfl ?_
      refine aw_cVi mm_mo_lets 0 0 _ 5 [_, _, _, _] _ (wc_mo_lets G κ (km_s μ 0 (if (rb_i (ga_u A) (nI i) && rb_i (ga_u A) (nI j) && rb_i (ga_n A) (nI k)) = true then 0 else 1)) o rest hRs true (pc_64 hB.2.2.2 (hU.2.2.2 i) _) (pc_64 hB.2.2.2 (hU.2.2.2 j) _) (by omega)) dd_mo_give_61 cv_mo_124 my_mo_lets np_mo_lets rfl rfl rfl (by decide) rfl rfl (Nat.le_of_ble_eq_true rfl) (Nat.le_of_ble_eq_true rfl) ?_
      refine aw_iconst (v := 2) dd_mo_give_64 (by decide) ?_
      refine aw_cVi mm_mo_when 0 0 _ 5 [_, _] _ (wc_mo_when G κ _ o rest _ _) dd_mo_give_65 cv_mo_86 my_mo_when np_mo_when rfl rfl rfl (by decide) rfl rfl (Nat.le_of_ble_eq_true rfl) (Nat.le_of_ble_eq_true rfl) ?_
      refine aw_if_ne (tgt := 73) dd_mo_give_68 (by decide) (fun hw => ?_) (fun hw => ?_)
      · have hw2 := bt_ne (zb_n0 hw)
        clear hw
        rw [if_neg hw2]
        refine aw_aload_n dd_mo_give_73 rfl 0 rfl ?_
        refine aw_iload_n dd_mo_give_74 rfl 2 rfl ?_
        refine aw_iload_n dd_mo_give_75 rfl 3 rfl ?_
        refine aw_iconst (v := 3) dd_mo_give_76 (by decide) ?_
        refine aw_cVe mm_mo_put 0 0 _ 5 [_, _, _] _ (wc_mo_put G κ (km_s (km_s μ 0 (if (rb_i (ga_u A) (nI i) && rb_i (ga_u A) (nI j) && rb_i (ga_n A) (nI k)) = true then 0 else 1)) 0 (if (pr_l (ga_r A) true (ga_l A (ga_a A i)) (ga_l A (ga_a A j)) k) = true then 0 else 2)) o rest hR hj hk (by decide)) dd_mo_give_77 cv_mo_116 my_mo_put np_mo_put rfl rfl rfl (by decide) rfl rfl (Nat.le_of_ble_eq_true rfl) (Nat.le_of_ble_eq_true rfl) (fun w9 h9 hq => ?_)
        obtain ⟨e1, e0, μ1, rfl, e3, e4⟩ := hq
        exact aw_zret dd_mo_give_80 rfl (e0) ⟨_, rfl, e1, μ1, rfl, e3, e4⟩
      · replace hw := zb_e0 hw
        rw [if_pos hw]
        refine aw_iconst (v := 0) dd_mo_give_71 (by decide) ?_
        exact aw_zret dd_mo_give_72 rfl (by first | exact Or.inl rfl | exact Or.inr rfl) (by first | exact ⟨_, rfl, fun h0 => absurd (show (1 : Int32) = 0 from h0) (by decide), _, rfl, hR, wn_f hw⟩ | exact ⟨_, rfl, fun h0 => absurd (show (2 : Int32) = 0 from h0) (by decide), _, rfl, hR, wn_f hw⟩)
  · refine aw_aload_n dd_mo_give_1 rfl 0 rfl ?_
    refine aw_iload_n dd_mo_give_2 rfl 1 rfl ?_
    refine aw_cVi mm_mo_isUser 0 0 _ 5 [_] _ (wc_mo_isUser G κ _ o rest (n := ga_u A) hU.1 _) dd_mo_give_3 cv_mo_113 my_mo_isUser np_mo_isUser rfl rfl rfl (by decide) rfl rfl (Nat.le_of_ble_eq_true rfl) (Nat.le_of_ble_eq_true rfl) ?_
    refine aw_if_eq (tgt := 29) dd_mo_give_6 (by decide) (fun h1 => ?_) (fun h1 => ?_)
    · refine aw_iconst (v := 0) dd_mo_give_29 (by decide) ?_
      exact aw_top (by simp_all [zb_q0, zb_q1, zb_i]) kj1
    · refine aw_aload_n dd_mo_give_9 rfl 0 rfl ?_
      refine aw_iload_n dd_mo_give_10 rfl 2 rfl ?_
      refine aw_cVi mm_mo_isUser 0 0 _ 5 [_] _ (wc_mo_isUser G κ _ o rest (n := ga_u A) hU.1 _) dd_mo_give_11 cv_mo_113 my_mo_isUser np_mo_isUser rfl rfl rfl (by decide) rfl rfl (Nat.le_of_ble_eq_true rfl) (Nat.le_of_ble_eq_true rfl) ?_
      refine aw_if_eq (tgt := 29) dd_mo_give_14 (by decide) (fun h2 => ?_) (fun h2 => ?_)
      · refine aw_iconst (v := 0) dd_mo_give_29 (by decide) ?_
        exact aw_top (by simp_all [zb_q0, zb_q1, zb_i]) kj1
      · refine aw_aload_n dd_mo_give_17 rfl 0 rfl ?_
        refine aw_iload_n dd_mo_give_18 rfl 3 rfl ?_
        refine aw_cVi mm_mo_isRole 0 0 _ 5 [_] _ (wc_mo_isRole G κ _ o rest (n := ga_n A) hB.1 _) dd_mo_give_19 cv_mo_90 my_mo_isRole np_mo_isRole rfl rfl rfl (by decide) rfl rfl (Nat.le_of_ble_eq_true rfl) (Nat.le_of_ble_eq_true rfl) ?_
        refine aw_if_eq (tgt := 29) dd_mo_give_22 (by decide) (fun h3 => ?_) (fun h3 => ?_)
        · refine aw_iconst (v := 0) dd_mo_give_29 (by decide) ?_
          exact aw_top (by simp_all [zb_q0, zb_q1, zb_i]) kj1
        · refine aw_iconst (v := 1) dd_mo_give_25 (by decide) ?_
          refine aw_goto (tgt := 30) dd_mo_give_26 (by decide) ?_
          exact aw_top (by simp_all [zb_q0, zb_q1, zb_i]) kj1
theorem wc_mo_take (G : ag_T) (κ : ck_T) (μ : cm_T) (o : Nat → Int64) (rest : List va_E) {A : aa_T} (hR : rm_R μ A) (hW : wa_W A) (x y z : Int32) : aw_w G mm_mo_take 3 67 0 0 0 (lv_args 0 [.ref (G.1 + 13), .int x, .int y, .int z]) [] (hp_f G κ μ o rest) (qm_R G κ o rest (ab_take A x y z)) := by
  obtain ⟨hB, hGr, hU, hSL, hDL, hRs, hSs⟩ := id hR; have hn6 := hB.2.1; have hu5 := hU.2.1
  refine aw_aload_n dd_mo_take_0 rfl 0 rfl ?_
  refine aw_join (tgt := 30) (v := zb_i (rb_i (ga_u A) x && rb_i (ga_u A) y && rb_i (ga_n A) z)) ?_ (fun kj1 => ?_)
  · refine aw_iconst (v := 1) dd_mo_take_30 (by decide) ?_
    refine aw_cVi mm_mo_when 0 0 _ 5 [_, _] _ (wc_mo_when G κ _ o rest _ _) dd_mo_take_31 cv_mo_86 my_mo_when np_mo_when rfl rfl rfl (by decide) rfl rfl (Nat.le_of_ble_eq_true rfl) (Nat.le_of_ble_eq_true rfl) ?_
    refine aw_if_eq (tgt := 71) dd_mo_take_34 (by decide) (fun hw => ?_) (fun hw => ?_)
    · replace hw := zb_e0 hw
      rw [ab_take, if_pos hw]
      refine aw_iconst (v := 0) dd_mo_take_71 (by decide) ?_
      exact aw_zret dd_mo_take_72 rfl (by first | exact Or.inl rfl | exact Or.inr rfl) (by first | exact ⟨_, rfl, fun h0 => absurd (show (1 : Int32) = 0 from h0) (by decide), _, rfl, hR, wn_f hw⟩ | exact ⟨_, rfl, fun h0 => absurd (show (2 : Int32) = 0 from h0) (by decide), _, rfl, hR, wn_f hw⟩)
    · have hw1 := bt_ne (zb_n0 hw)
      clear hw
      obtain ⟨h7, h9⟩ := Bool.and_eq_true_iff.mp (Bool.not_eq_false _ ▸ hw1)
      obtain ⟨h7, h8⟩ := Bool.and_eq_true_iff.mp h7
      obtain ⟨i, hi, rfl⟩ := rb_n (by omega) h7
      obtain ⟨j, hj, rfl⟩ := rb_n (by omega) h8
      obtain ⟨k, hk, rfl⟩ := rb_n (by omega) h9
      rw [ab_take, if_neg hw1, iN_n (by omega), iN_n (by omega), iN_n (by omega)]
      refine aw_aload_n dd_mo_take_37 rfl 0 rfl ?_
      refine aw_aload_n dd_mo_take_38 rfl 0 rfl ?_
      refine aw_iconst (v := (zb_i false)) dd_mo_take_39 (by decide) ?_
      refine aw_aload_n dd_mo_take_40 rfl 0 rfl ?_
      refine aw_aload_n dd_mo_take_41 rfl 0 rfl ?_
      refine aw_getf _ 5 6 dd_mo_take_42 fl_mo_19 rfl rfl ?_
      refine aw_iload_n dd_mo_take_45 rfl 1 rfl ?_
      refine aw_iaN _ (i) dd_mo_take_46 rfl (by omega) (by decide) ?_
      refine aw_top (hU.2.2.1 i (by omega)) ?_
      refine aw_cVi mm_mo_closed 0 0 _ 5 [_] _ (wc_mo_closed G κ (km_s μ 0 (if (rb_i (ga_u A) (nI i) && rb_i (ga_u A) (nI j) && rb_i (ga_n A) (nI k)) = true then 0 else 1)) o rest hB (hU.2.2.2 i)) dd_mo_take_47 cv_mo_75 my_mo_closed np_mo_closed rfl rfl rfl (by decide) rfl rfl (Nat.le_of_ble_eq_true rfl) (Nat.le_of_ble_eq_true rfl) ?_
      refine aw_aload_n dd_mo_take_50 rfl 0 rfl ?_
      refine aw_aload_n dd_mo_take_51 rfl 0 rfl ?_
      refine aw_getf _ 5 6 dd_mo_take_52 fl_mo_19 rfl rfl ?_
      refine aw_iload_n dd_mo_take_55 rfl 2 rfl ?_
      refine aw_iaN _ (j) dd_mo_take_56 rfl (by omega) (by decide) ?_
      refine aw_top (hU.2.2.1 j (by omega)) ?_
      refine aw_cVi mm_mo_closed 0 0 _ 5 [_] _ (wc_mo_closed G κ (km_s μ 0 (if (rb_i (ga_u A) (nI i) && rb_i (ga_u A) (nI j) && rb_i (ga_n A) (nI k)) = true then 0 else 1)) o rest hB (hU.2.2.2 j)) dd_mo_take_57 cv_mo_75 my_mo_closed np_mo_closed rfl rfl rfl (by decide) rfl rfl (Nat.le_of_ble_eq_true rfl) (Nat.le_of_ble_eq_true rfl) ?_
      refine aw_iload_n dd_mo_take_60 rfl 3 rfl ?_
      refine aw_cVi mm_mo_lets 0 0 _ 5 [_, _, _, _] _ (wc_mo_lets G κ (km_s μ 0 (if (rb_i (ga_u A) (nI i) && rb_i (ga_u A) (nI j) && rb_i (ga_n A) (nI k)) = true then 0 else 1)) o rest hRs false (pc_64 hB.2.2.2 (hU.2.2.2 i) _) (pc_64 hB.2.2.2 (hU.2.2.2 j) _) (by omega)) dd_mo_take_61 cv_mo_124 my_mo_lets np_mo_lets rfl rfl rfl (by decide) rfl rfl (Nat.le_of_ble_eq_true rfl) (Nat.le_of_ble_eq_true rfl) ?_
      refine aw_iconst (v := 2) dd_mo_take_64 (by decide) ?_
      refine aw_cVi mm_mo_when 0 0 _ 5 [_, _] _ (wc_mo_when G κ _ o rest _ _) dd_mo_take_65 cv_mo_86 my_mo_when np_mo_when rfl rfl rfl (by decide) rfl rfl (Nat.le_of_ble_eq_true rfl) (Nat.le_of_ble_eq_true rfl) ?_
      refine aw_if_ne (tgt := 73) dd_mo_take_68 (by decide) (fun hw => ?_) (fun hw => ?_)
      · have hw2 := bt_ne (zb_n0 hw)
        clear hw
        rw [if_neg hw2]
        refine aw_aload_n dd_mo_take_73 rfl 0 rfl ?_
        refine aw_iload_n dd_mo_take_74 rfl 2 rfl ?_
        refine aw_iload_n dd_mo_take_75 rfl 3 rfl ?_
        refine aw_cVe mm_mo_drop 0 0 _ 5 [_, _] _ (wc_mo_drop G κ (km_s (km_s μ 0 (if (rb_i (ga_u A) (nI i) && rb_i (ga_u A) (nI j) && rb_i (ga_n A) (nI k)) = true then 0 else 1)) 0 (if (pr_l (ga_r A) false (ga_l A (ga_a A i)) (ga_l A (ga_a A j)) k) = true then 0 else 2)) o rest hR hW hj hk (wn_t hw2)) dd_mo_take_76 cv_mo_120 my_mo_drop np_mo_drop rfl rfl rfl (by decide) rfl rfl (Nat.le_of_ble_eq_true rfl) (Nat.le_of_ble_eq_true rfl) (fun w9 h9 hq => ?_)
        obtain ⟨e1, e0, μ1, rfl, e3, e4⟩ := hq
        exact aw_zret dd_mo_take_79 rfl (e0) ⟨_, rfl, e1, μ1, rfl, e3, e4⟩
      · replace hw := zb_e0 hw
        rw [if_pos hw]
        refine aw_iconst (v := 0) dd_mo_take_71 (by decide) ?_
        exact aw_zret dd_mo_take_72 rfl (by first | exact Or.inl rfl | exact Or.inr rfl) (by first | exact ⟨_, rfl, fun h0 => absurd (show (1 : Int32) = 0 from h0) (by decide), _, rfl, hR, wn_f hw⟩ | exact ⟨_, rfl, fun h0 => absurd (show (2 : Int32) = 0 from h0) (by decide), _, rfl, hR, wn_f hw⟩)
  · refine aw_aload_n dd_mo_take_1 rfl 0 rfl ?_
    refine aw_iload_n dd_mo_take_2 rfl 1 rfl ?_
    refine aw_cVi mm_mo_isUser 0 0 _ 5 [_] _ (wc_mo_isUser G κ _ o rest (n := ga_u A) hU.1 _) dd_mo_take_3 cv_mo_113 my_mo_isUser np_mo_isUser rfl rfl rfl (by decide) rfl rfl (Nat.le_of_ble_eq_true rfl) (Nat.le_of_ble_eq_true rfl) ?_
    refine aw_if_eq (tgt := 29) dd_mo_take_6 (by decide) (fun h1 => ?_) (fun h1 => ?_)
    · refine aw_iconst (v := 0) dd_mo_take_29 (by decide) ?_
      exact aw_top (by simp_all [zb_q0, zb_q1, zb_i]) kj1
    · refine aw_aload_n dd_mo_take_9 rfl 0 rfl ?_
      refine aw_iload_n dd_mo_take_10 rfl 2 rfl ?_
      refine aw_cVi mm_mo_isUser 0 0 _ 5 [_] _ (wc_mo_isUser G κ _ o rest (n := ga_u A) hU.1 _) dd_mo_take_11 cv_mo_113 my_mo_isUser np_mo_isUser rfl rfl rfl (by decide) rfl rfl (Nat.le_of_ble_eq_true rfl) (Nat.le_of_ble_eq_true rfl) ?_
      refine aw_if_eq (tgt := 29) dd_mo_take_14 (by decide) (fun h2 => ?_) (fun h2 => ?_)
      · refine aw_iconst (v := 0) dd_mo_take_29 (by decide) ?_
        exact aw_top (by simp_all [zb_q0, zb_q1, zb_i]) kj1
      · refine aw_aload_n dd_mo_take_17 rfl 0 rfl ?_
        refine aw_iload_n dd_mo_take_18 rfl 3 rfl ?_
        refine aw_cVi mm_mo_isRole 0 0 _ 5 [_] _ (wc_mo_isRole G κ _ o rest (n := ga_n A) hB.1 _) dd_mo_take_19 cv_mo_90 my_mo_isRole np_mo_isRole rfl rfl rfl (by decide) rfl rfl (Nat.le_of_ble_eq_true rfl) (Nat.le_of_ble_eq_true rfl) ?_
        refine aw_if_eq (tgt := 29) dd_mo_take_22 (by decide) (fun h3 => ?_) (fun h3 => ?_)
        · refine aw_iconst (v := 0) dd_mo_take_29 (by decide) ?_
          exact aw_top (by simp_all [zb_q0, zb_q1, zb_i]) kj1
        · refine aw_iconst (v := 1) dd_mo_take_25 (by decide) ?_
          refine aw_goto (tgt := 30) dd_mo_take_26 (by decide) ?_
          exact aw_top (by simp_all [zb_q0, zb_q1, zb_i]) kj1
theorem wc_mo_roles (G : ag_T) (κ : ck_T) (μ : cm_T) (o : Nat → Int64) (rest : List va_E) {A : aa_T} (hR : rm_R μ A) (x : Int32) (d : Bool) : aw_w G mm_mo_roles 1 23 0 0 0 (lv_args 0 [.ref (G.1 + 13), .int x, .int (zb_i d)]) [] (hp_f G κ μ o rest) (qm_R G κ o rest (ab_roles A x d)) := by
  obtain ⟨hB, hGr, hU, hSL, hDL, hRs, hSs⟩ := id hR; have hn6 := hB.2.1; have hu5 := hU.2.1
  refine aw_aload_n dd_mo_roles_0 rfl 0 rfl ?_
  refine aw_aload_n dd_mo_roles_1 rfl 0 rfl ?_
  refine aw_iload_n dd_mo_roles_2 rfl 1 rfl ?_
  refine aw_cVi mm_mo_isUser 0 0 _ 5 [_] _ (wc_mo_isUser G κ _ o rest (n := ga_u A) hU.1 _) dd_mo_roles_3 cv_mo_113 my_mo_isUser np_mo_isUser rfl rfl rfl (by decide) rfl rfl (Nat.le_of_ble_eq_true rfl) (Nat.le_of_ble_eq_true rfl) ?_
  refine aw_iconst (v := 1) dd_mo_roles_6 (by decide) ?_
  refine aw_cVi mm_mo_when 0 0 _ 5 [_, _] _ (wc_mo_when G κ _ o rest _ _) dd_mo_roles_7 cv_mo_86 my_mo_when np_mo_when rfl rfl rfl (by decide) rfl rfl (Nat.le_of_ble_eq_true rfl) (Nat.le_of_ble_eq_true rfl) ?_
  refine aw_if_ne (tgt := 15) dd_mo_roles_10 (by decide) (fun hw => ?_) (fun hw => ?_)
  · have hw1 := bt_ne (zb_n0 hw)
    clear hw
    obtain ⟨j, hj, rfl⟩ := rb_n (by omega) (Bool.not_eq_false _ ▸ hw1)
    rw [ab_roles, if_neg hw1, iN_n (by omega)]
    refine aw_iload_n dd_mo_roles_15 rfl 2 rfl ?_
    refine aw_if_eq (tgt := 32) dd_mo_roles_16 (by decide) (fun h3 => ?_) (fun h3 => ?_)
    · have h3 := zb_e0 h3
      subst h3
      refine aw_aload_n dd_mo_roles_32 rfl 0 rfl ?_
      refine aw_getf _ 5 6 dd_mo_roles_33 fl_mo_19 rfl rfl ?_
      refine aw_iload_n dd_mo_roles_36 rfl 1 rfl ?_
      refine aw_iaN _ (j) dd_mo_roles_37 rfl (by omega) (by decide) ?_
      refine aw_top (hU.2.2.1 j (by omega)) ?_
      exact aw_iret dd_mo_roles_38 rfl ⟨_, rfl, fun _ => rfl, _, rfl, hR, wn_t hw1⟩
    · have h3 := zb_n0 h3
      subst h3
      refine aw_aload_n dd_mo_roles_19 rfl 0 rfl ?_
      refine aw_aload_n dd_mo_roles_20 rfl 0 rfl ?_
      refine aw_getf _ 5 6 dd_mo_roles_21 fl_mo_19 rfl rfl ?_
      refine aw_iload_n dd_mo_roles_24 rfl 1 rfl ?_
      refine aw_iaN _ (j) dd_mo_roles_25 rfl (by omega) (by decide) ?_
      refine aw_top (hU.2.2.1 j (by omega)) ?_
      refine aw_cVi mm_mo_closed 0 0 _ 5 [_] _ (wc_mo_closed G κ (km_s μ 0 _) o rest hB (hU.2.2.2 j)) dd_mo_roles_26 cv_mo_75 my_mo_closed np_mo_closed rfl rfl rfl (by decide) rfl rfl (Nat.le_of_ble_eq_true rfl) (Nat.le_of_ble_eq_true rfl) ?_
      refine aw_goto (tgt := 38) dd_mo_roles_29 (by decide) ?_
      exact aw_iret dd_mo_roles_38 rfl ⟨_, rfl, fun _ => rfl, _, rfl, hR, wn_t hw1⟩
  · replace hw := zb_e0 hw
    rw [ab_roles, if_pos hw]
    refine aw_iconst (v := 0) dd_mo_roles_13 (by decide) ?_
    exact aw_iret dd_mo_roles_14 rfl ⟨_, rfl, fun h0 => absurd (show (1 : Int32) = 0 from h0) (by decide), _, rfl, hR, wn_f hw⟩
theorem wc_mo_close (G : ag_T) (κ : ck_T) (μ : cm_T) (o : Nat → Int64) (rest : List va_E) {A : aa_T} (hR : rm_R μ A) (x : Int32) : aw_w G mm_mo_close 1 22 0 0 0 (lv_args 0 [.ref (G.1 + 13), .int x]) [] (hp_f G κ μ o rest) (qm_V G κ o rest (ab_close A x)) := by
  obtain ⟨hB, hGr, hU, hSL, hDL, hRs, hSs⟩ := id hR; have hn6 := hB.2.1; have hu5 := hU.2.1
  refine aw_aload_n dd_mo_close_0 rfl 0 rfl ?_
  refine aw_aload_n dd_mo_close_1 rfl 0 rfl ?_
  refine aw_iload_n dd_mo_close_2 rfl 1 rfl ?_
  refine aw_cVi mm_mo_isSession 0 0 _ 5 [_] _ (wc_mo_isSession G κ _ o rest (A := A) hSs _) dd_mo_close_3 cv_mo_128 my_mo_isSession np_mo_isSession rfl rfl rfl (by decide) rfl rfl (Nat.le_of_ble_eq_true rfl) (Nat.le_of_ble_eq_true rfl) ?_
  refine aw_iconst (v := 1) dd_mo_close_6 (by decide) ?_
  refine aw_cVi mm_mo_when 0 0 _ 5 [_, _] _ (wc_mo_when G κ _ o rest _ _) dd_mo_close_7 cv_mo_86 my_mo_when np_mo_when rfl rfl rfl (by decide) rfl rfl (Nat.le_of_ble_eq_true rfl) (Nat.le_of_ble_eq_true rfl) ?_
  refine aw_if_eq (tgt := 20) dd_mo_close_10 (by decide) (fun hw => ?_) (fun hw => ?_)
  · replace hw := zb_e0 hw
    rw [ab_close, if_pos hw]
    exact aw_vret dd_mo_close_20 rfl (by first | exact ⟨rfl, _, rfl, hR, wn_f hw⟩ | exact ⟨rfl, _, rfl, ⟨hB, hGr, hU, hSL, hDL, hRs, so_c hSs⟩, wn_t hw1⟩)
  · have hw1 := bt_ne (zb_n0 hw)
    clear hw
    obtain ⟨j, v, hj, rfl, hv⟩ := se_t (Bool.not_eq_false _ ▸ hw1)
    rw [ab_close, if_neg hw1, iN_n (by omega)]
    refine aw_aload_n dd_mo_close_13 rfl 0 rfl ?_
    refine aw_getf _ 5 10 dd_mo_close_14 fl_mo_31 rfl rfl ?_
    refine aw_iload_n dd_mo_close_17 rfl 1 rfl ?_
    refine aw_iconst (v := 0) dd_mo_close_18 (by decide) ?_
    refine aw_zsN _ (j) dd_mo_close_19 rfl (hj) (by decide) (Or.inl rfl) ?_
    refine aw_h (hs_ma7 G _ _ _ _ _ _) ?_
    exact aw_vret dd_mo_close_20 rfl (by first | exact ⟨rfl, _, rfl, hR, wn_f hw⟩ | exact ⟨rfl, _, rfl, ⟨hB, hGr, hU, hSL, hDL, hRs, so_c hSs⟩, wn_t hw1⟩)
theorem wc_mo_active (G : ag_T) (κ : ck_T) (μ : cm_T) (o : Nat → Int64) (rest : List va_E) {A : aa_T} (hR : rm_R μ A) (x : Int32) : aw_w G mm_mo_active 1 22 0 0 0 (lv_args 0 [.ref (G.1 + 13), .int x]) [] (hp_f G κ μ o rest) (qm_R G κ o rest (ab_active A x)) := by
  obtain ⟨hB, hGr, hU, hSL, hDL, hRs, hSs⟩ := id hR; have hn6 := hB.2.1; have hu5 := hU.2.1
  refine aw_aload_n dd_mo_active_0 rfl 0 rfl ?_
  refine aw_aload_n dd_mo_active_1 rfl 0 rfl ?_
  refine aw_iload_n dd_mo_active_2 rfl 1 rfl ?_
  refine aw_cVi mm_mo_isSession 0 0 _ 5 [_] _ (wc_mo_isSession G κ _ o rest (A := A) hSs _) dd_mo_active_3 cv_mo_128 my_mo_isSession np_mo_isSession rfl rfl rfl (by decide) rfl rfl (Nat.le_of_ble_eq_true rfl) (Nat.le_of_ble_eq_true rfl) ?_
  refine aw_iconst (v := 1) dd_mo_active_6 (by decide) ?_
  refine aw_cVi mm_mo_when 0 0 _ 5 [_, _] _ (wc_mo_when G κ _ o rest _ _) dd_mo_active_7 cv_mo_86 my_mo_when np_mo_when rfl rfl rfl (by decide) rfl rfl (Nat.le_of_ble_eq_true rfl) (Nat.le_of_ble_eq_true rfl) ?_
  refine aw_if_eq (tgt := 22) dd_mo_active_10 (by decide) (fun hw => ?_) (fun hw => ?_)
  · replace hw := zb_e0 hw
    rw [ab_active, if_pos hw]
    refine aw_iconst (v := 0) dd_mo_active_22 (by decide) ?_
    exact aw_iret dd_mo_active_23 rfl (by first | exact ⟨_, rfl, fun h0 => absurd (show (1 : Int32) = 0 from h0) (by decide), _, rfl, hR, wn_f hw⟩ | exact ⟨_, rfl, fun _ => rfl, _, rfl, hR, wn_t hw1⟩)
  · have hw1 := bt_ne (zb_n0 hw)
    clear hw
    obtain ⟨j, v, hj, rfl, hv⟩ := se_t (Bool.not_eq_false _ ▸ hw1)
    obtain ⟨g8, g9, g10⟩ := (hSs.1 j hj).2 v hv
    rw [ab_active, if_neg hw1, iN_n (by omega)]
    refine aw_aload_n dd_mo_active_13 rfl 0 rfl ?_
    refine aw_getf _ 5 12 dd_mo_active_14 fl_mo_38 rfl rfl ?_
    refine aw_iload_n dd_mo_active_17 rfl 1 rfl ?_
    refine aw_iaN _ (j) dd_mo_active_18 rfl (hj) (by decide) ?_
    refine aw_top g10 ?_
    refine aw_goto (tgt := 23) dd_mo_active_19 (by decide) ?_
    exact aw_iret dd_mo_active_23 rfl (by first | exact ⟨_, rfl, fun h0 => absurd (show (1 : Int32) = 0 from h0) (by decide), _, rfl, hR, wn_f hw⟩ | exact ⟨_, rfl, fun _ => rfl, _, rfl, hR, wn_t hw1⟩)
theorem wc_mo_rest (G : ag_T) (κ : ck_T) (μ : cm_T) (o : Nat → Int64) (rest : List va_E) {A : aa_T} (hR : rm_R μ A) (x y : Int32) : aw_w G mm_mo_rest 1 22 0 0 0 (lv_args 0 [.ref (G.1 + 13), .int x, .int y]) [] (hp_f G κ μ o rest) (qm_R G κ o rest (ab_rest A x y)) := by
  obtain ⟨hB, hGr, hU, hSL, hDL, hRs, hSs⟩ := id hR; have hn6 := hB.2.1; have hu5 := hU.2.1
  refine aw_aload_n dd_mo_rest_0 rfl 0 rfl ?_
  refine aw_join (tgt := 22) (v := zb_i (se_i A x && rb_i (ga_n A) y)) ?_ (fun kj1 => ?_)
  · refine aw_iconst (v := 1) dd_mo_rest_22 (by decide) ?_
    refine aw_cVi mm_mo_when 0 0 _ 5 [_, _] _ (wc_mo_when G κ _ o rest _ _) dd_mo_rest_23 cv_mo_86 my_mo_when np_mo_when rfl rfl rfl (by decide) rfl rfl (Nat.le_of_ble_eq_true rfl) (Nat.le_of_ble_eq_true rfl) ?_
    refine aw_if_ne (tgt := 31) dd_mo_rest_26 (by decide) (fun hw => ?_) (fun hw => ?_)
    · have hw1 := bt_ne (zb_n0 hw)
      clear hw
      obtain ⟨h8, h9⟩ := Bool.and_eq_true_iff.mp (Bool.not_eq_false _ ▸ hw1)
      obtain ⟨j, v, hj, rfl, hv⟩ := se_t h8
      obtain ⟨g8, g9, g10⟩ := (hSs.1 j hj).2 v hv
      obtain ⟨k, hk, rfl⟩ := rb_n (by omega) h9
      rw [ab_rest, if_neg hw1, iN_n (by omega), iN_n (by omega)]
      refine aw_join (tgt := 50) (v := zb_i ((ga_c A j).testBit k)) ?_ (fun kj31 => ?_)
      · refine aw_istore_n (lv' := [(3, _), (0, _), (1, _), (2, _)]) dd_mo_rest_50 rfl (by decide) rfl ?_
        refine aw_aload_n dd_mo_rest_51 rfl 1 rfl ?_
        refine aw_getf _ 5 12 dd_mo_rest_52 fl_mo_38 rfl rfl ?_
        refine aw_iload_n dd_mo_rest_55 rfl 2 rfl ?_
        refine aw_aload_n dd_mo_rest_56 rfl 1 rfl ?_
        refine aw_getf _ 5 12 dd_mo_rest_57 fl_mo_38 rfl rfl ?_
        refine aw_iload_n dd_mo_rest_60 rfl 2 rfl ?_
        refine aw_iaN _ (j) dd_mo_rest_61 rfl (hj) (by decide) ?_
        refine aw_top (g10) ?_
        refine aw_iconst (v := 1) dd_mo_rest_62 (by decide) ?_
        refine aw_iload_n dd_mo_rest_63 rfl 3 rfl ?_
        refine aw_ishl dd_mo_rest_64 ?_
        refine aw_iconst (v := (-1)) dd_mo_rest_65 (by decide) ?_
        refine aw_ixor dd_mo_rest_66 ?_
        refine aw_iand dd_mo_rest_67 ?_
        refine aw_top (nI_clr _ (by omega)) ?_
        refine aw_isN _ (j) dd_mo_rest_68 rfl (hj) (by decide) ?_
        refine aw_h (hs_ma9 G _ _ _ _ _ _) ?_
        refine aw_iload_n dd_mo_rest_69 rfl 0 rfl ?_
        exact aw_zret dd_mo_rest_70 rfl (zb_01 _) ⟨_, rfl, fun _ => rfl, _, rfl, ⟨hB, hGr, hU, hSL, hDL, hRs, so_a hSs (bt_cl (n := 6) (hSs.2 j))⟩, wn_t hw1⟩
      · refine aw_aload_n dd_mo_rest_31 rfl 0 rfl ?_
        refine aw_getf _ 5 12 dd_mo_rest_32 fl_mo_38 rfl rfl ?_
        refine aw_iload_n dd_mo_rest_35 rfl 1 rfl ?_
        refine aw_iaN _ (j) dd_mo_rest_36 rfl (hj) (by decide) ?_
        refine aw_top (g10) ?_
        refine aw_iload_n dd_mo_rest_37 rfl 2 rfl ?_
        refine aw_ishr dd_mo_rest_38 ?_
        refine aw_iconst (v := 1) dd_mo_rest_39 (by decide) ?_
        refine aw_iand dd_mo_rest_40 ?_
        refine aw_top (nI_bit (by have := hSs.2 j; omega) (by omega)) ?_
        refine aw_iconst (v := 1) dd_mo_rest_41 (by decide) ?_
        refine aw_icmp_ne (tgt := 49) dd_mo_rest_42 (by decide) (fun h3 => ?_) (fun h3 => ?_)
        · refine aw_iconst (v := 0) dd_mo_rest_49 (by decide) ?_
          exact aw_top (by simp_all [zb_q1, zb_i]) kj31
        · refine aw_iconst (v := 1) dd_mo_rest_45 (by decide) ?_
          refine aw_goto (tgt := 50) dd_mo_rest_46 (by decide) ?_
          exact aw_top (by simp_all [zb_q1, zb_i]) kj31
    · replace hw := zb_e0 hw
      rw [ab_rest, if_pos hw]
      refine aw_iconst (v := 0) dd_mo_rest_29 (by decide) ?_
      exact aw_zret dd_mo_rest_30 rfl (by first | exact Or.inl rfl | exact Or.inr rfl) ⟨_, rfl, fun h0 => absurd (show (1 : Int32) = 0 from h0) (by decide), _, rfl, hR, wn_f hw⟩
  · refine aw_aload_n dd_mo_rest_1 rfl 0 rfl ?_
    refine aw_iload_n dd_mo_rest_2 rfl 1 rfl ?_
    refine aw_cVi mm_mo_isSession 0 0 _ 5 [_] _ (wc_mo_isSession G κ _ o rest (A := A) hSs _) dd_mo_rest_3 cv_mo_128 my_mo_isSession np_mo_isSession rfl rfl rfl (by decide) rfl rfl (Nat.le_of_ble_eq_true rfl) (Nat.le_of_ble_eq_true rfl) ?_
    refine aw_if_eq (tgt := 21) dd_mo_rest_6 (by decide) (fun h1 => ?_) (fun h1 => ?_)
    · refine aw_iconst (v := 0) dd_mo_rest_21 (by decide) ?_
      exact aw_top (by simp_all [zb_q0, zb_q1, zb_i]) kj1
    · refine aw_aload_n dd_mo_rest_9 rfl 0 rfl ?_
      refine aw_iload_n dd_mo_rest_10 rfl 2 rfl ?_
      refine aw_cVi mm_mo_isRole 0 0 _ 5 [_] _ (wc_mo_isRole G κ _ o rest (n := ga_n A) hB.1 _) dd_mo_rest_11 cv_mo_90 my_mo_isRole np_mo_isRole rfl rfl rfl (by decide) rfl rfl (Nat.le_of_ble_eq_true rfl) (Nat.le_of_ble_eq_true rfl) ?_
      refine aw_if_eq (tgt := 21) dd_mo_rest_14 (by decide) (fun h2 => ?_) (fun h2 => ?_)
      · refine aw_iconst (v := 0) dd_mo_rest_21 (by decide) ?_
        exact aw_top (by simp_all [zb_q0, zb_q1, zb_i]) kj1
      · refine aw_iconst (v := 1) dd_mo_rest_17 (by decide) ?_
        refine aw_goto (tgt := 22) dd_mo_rest_18 (by decide) ?_
        exact aw_top (by simp_all [zb_q0, zb_q1, zb_i]) kj1
theorem wc_mo_activate (G : ag_T) (κ : ck_T) (μ : cm_T) (o : Nat → Int64) (rest : List va_E) {A : aa_T} (hR : rm_R μ A) (x y : Int32) : aw_w G mm_mo_activate 2 45 0 0 0 (lv_args 0 [.ref (G.1 + 13), .int x, .int y]) [] (hp_f G κ μ o rest) (qm_R G κ o rest (ab_activate A x y)) := by
  obtain ⟨hB, hGr, hU, hSL, hDL, hRs, hSs⟩ := id hR; have hn6 := hB.2.1; have hu5 := hU.2.1
  refine aw_aload_n dd_mo_activate_0 rfl 0 rfl ?_
  refine aw_join (tgt := 22) (v := zb_i (se_i A x && rb_i (ga_n A) y)) ?_ (fun kj1 => ?_)
  · refine aw_iconst (v := 1) dd_mo_activate_22 (by decide) ?_
    refine aw_cVi mm_mo_when 0 0 _ 5 [_, _] _ (wc_mo_when G κ _ o rest _ _) dd_mo_activate_23 cv_mo_86 my_mo_when np_mo_when rfl rfl rfl (by decide) rfl rfl (Nat.le_of_ble_eq_true rfl) (Nat.le_of_ble_eq_true rfl) ?_
    refine aw_if_ne (tgt := 31) dd_mo_activate_26 (by decide) (fun hw => ?_) (fun hw => ?_)
    · have hw1 := bt_ne (zb_n0 hw)
      clear hw
      obtain ⟨h8, h9⟩ := Bool.and_eq_true_iff.mp (Bool.not_eq_false _ ▸ hw1)
      obtain ⟨j, v, hj, rfl, hv⟩ := se_t h8
      obtain ⟨g8, g9, g10⟩ := (hSs.1 j hj).2 v hv
      obtain ⟨k, hk, rfl⟩ := rb_n (by omega) h9
      rw [ab_activate, if_neg hw1, iN_n (by omega), iN_n (by omega), rm_i A j hj v hv]
      have hs : ga_c A j ||| 1 <<< k < 64 := bt_or (n := 6) (hSs.2 j) (bt_1 (by omega))
      have hs9 := hSs.2 j
      refine aw_aload_n dd_mo_activate_31 rfl 0 rfl ?_
      refine aw_getf _ 5 12 dd_mo_activate_32 fl_mo_38 rfl rfl ?_
      refine aw_iload_n dd_mo_activate_35 rfl 1 rfl ?_
      refine aw_iaN _ (j) dd_mo_activate_36 rfl (hj) (by decide) ?_
      refine aw_top (g10) ?_
      refine aw_iconst (v := (nI 1)) dd_mo_activate_37 (by decide) ?_
      refine aw_iload_n dd_mo_activate_38 rfl 2 rfl ?_
      refine aw_ishl dd_mo_activate_39 ?_
      refine aw_top (nI_shl 1 (by omega)) ?_
      refine aw_ior dd_mo_activate_40 ?_
      refine aw_top (nI_or _ _) ?_
      refine aw_istore_n (lv' := [(3, _), (0, _), (1, _), (2, _)]) dd_mo_activate_41 rfl (by decide) rfl ?_
      refine aw_aload_n dd_mo_activate_42 rfl 1 rfl ?_
      refine aw_join (tgt := 71) (v := zb_i ((pc_f (ga_b A) (ga_a A v) (ga_n A)).testBit k)) ?_ (fun kj43 => ?_)
      · refine aw_iconst (v := 2) dd_mo_activate_71 (by decide) ?_
        refine aw_cVi mm_mo_when 0 0 _ 5 [_, _] _ (wc_mo_when G κ _ o rest _ _) dd_mo_activate_72 cv_mo_86 my_mo_when np_mo_when rfl rfl rfl (by decide) rfl rfl (Nat.le_of_ble_eq_true rfl) (Nat.le_of_ble_eq_true rfl) ?_
        refine aw_if_eq (tgt := 91) dd_mo_activate_75 (by decide) (fun hw => ?_) (fun hw => ?_)
        · replace hw := zb_e0 hw
          rw [if_pos hw]
          refine aw_iconst (v := 0) dd_mo_activate_91 (by decide) ?_
          exact aw_zret dd_mo_activate_92 rfl (by first | exact Or.inl rfl | exact Or.inr rfl) (by first | exact ⟨_, rfl, fun h0 => absurd (show (2 : Int32) = 0 from h0) (by decide), _, rfl, hR, wn_f hw⟩ | exact ⟨_, rfl, fun h0 => absurd (show (3 : Int32) = 0 from h0) (by decide), _, rfl, hR, wn_f hw⟩)
        · have hw2 := bt_ne (zb_n0 hw)
          clear hw
          rw [if_neg hw2]
          refine aw_aload_n dd_mo_activate_78 rfl 1 rfl ?_
          refine aw_aload_n dd_mo_activate_79 rfl 1 rfl ?_
          refine aw_iload_n dd_mo_activate_80 rfl 0 rfl ?_
          refine aw_cVi mm_mo_dynamicKept 0 0 _ 5 [_] _ (wc_mo_dynamicKept G κ (km_s (km_s μ 0 (if (se_i A (nI j) && rb_i (ga_n A) (nI k)) = true then 0 else 1)) 0 (if ((pc_f (ga_b A) (ga_a A v) (ga_n A)).testBit k) = true then 0 else 2)) o rest hDL hs) dd_mo_activate_81 cv_mo_97 my_mo_dynamicKept np_mo_dynamicKept rfl rfl rfl (by decide) rfl rfl (Nat.le_of_ble_eq_true rfl) (Nat.le_of_ble_eq_true rfl) ?_
          refine aw_iconst (v := 3) dd_mo_activate_84 (by decide) ?_
          refine aw_cVi mm_mo_when 0 0 _ 5 [_, _] _ (wc_mo_when G κ _ o rest _ _) dd_mo_activate_85 cv_mo_86 my_mo_when np_mo_when rfl rfl rfl (by decide) rfl rfl (Nat.le_of_ble_eq_true rfl) (Nat.le_of_ble_eq_true rfl) ?_
          refine aw_if_ne (tgt := 93) dd_mo_activate_88 (by decide) (fun hw => ?_) (fun hw => ?_)
          · have hw3 := bt_ne (zb_n0 hw)
            clear hw
            rw [if_neg hw3]
            refine aw_join (tgt := 108) (v := zb_i (decide (¬ ga_c A j ||| 1 <<< k = ga_c A j))) ?_ (fun kj93 => ?_)
            · refine aw_istore (lv' := [(4, _), (3, _), (0, _), (1, _), (2, _)]) dd_mo_activate_108 (by decide) rfl ?_
              refine aw_aload_n dd_mo_activate_110 rfl 2 rfl ?_
              refine aw_getf _ 5 12 dd_mo_activate_111 fl_mo_38 rfl rfl ?_
              refine aw_iload_n dd_mo_activate_114 rfl 3 rfl ?_
              refine aw_iload_n dd_mo_activate_115 rfl 1 rfl ?_
              refine aw_isN _ (j) dd_mo_activate_116 rfl (hj) (by decide) ?_
              refine aw_h (hs_ma9 G _ _ _ _ _ _) ?_
              refine aw_iload dd_mo_activate_117 0 rfl ?_
              exact aw_zret dd_mo_activate_119 rfl (zb_01 _) ⟨_, rfl, fun _ => rfl, _, rfl, ⟨hB, hGr, hU, hSL, hDL, hRs, so_a hSs hs⟩, wn_t hw3⟩
            · refine aw_iload_n dd_mo_activate_93 rfl 0 rfl ?_
              refine aw_aload_n dd_mo_activate_94 rfl 1 rfl ?_
              refine aw_getf _ 5 12 dd_mo_activate_95 fl_mo_38 rfl rfl ?_
              refine aw_iload_n dd_mo_activate_98 rfl 2 rfl ?_
              refine aw_iaN _ (j) dd_mo_activate_99 rfl (hj) (by decide) ?_
              refine aw_top (g10) ?_
              refine aw_icmp_eq (tgt := 107) dd_mo_activate_100 (by decide) (fun h4 => ?_) (fun h4 => ?_)
              · refine aw_iconst (v := 0) dd_mo_activate_107 (by decide) ?_
                exact aw_top (by rw [nI_eq (by omega) (by omega)] at h4; simp [zb_i, h4]) kj93
              · refine aw_iconst (v := 1) dd_mo_activate_103 (by decide) ?_
                refine aw_goto (tgt := 108) dd_mo_activate_104 (by decide) ?_
                exact aw_top (by rw [nI_eq (by omega) (by omega)] at h4; simp [zb_i, h4]) kj93
          · replace hw := zb_e0 hw
            rw [if_pos hw]
            refine aw_iconst (v := 0) dd_mo_activate_91 (by decide) ?_
            exact aw_zret dd_mo_activate_92 rfl (by first | exact Or.inl rfl | exact Or.inr rfl) (by first | exact ⟨_, rfl, fun h0 => absurd (show (2 : Int32) = 0 from h0) (by decide), _, rfl, hR, wn_f hw⟩ | exact ⟨_, rfl, fun h0 => absurd (show (3 : Int32) = 0 from h0) (by decide), _, rfl, hR, wn_f hw⟩)
      · refine aw_aload_n dd_mo_activate_43 rfl 1 rfl ?_
        refine aw_aload_n dd_mo_activate_44 rfl 1 rfl ?_
        refine aw_getf _ 5 6 dd_mo_activate_45 fl_mo_19 rfl rfl ?_
        refine aw_aload_n dd_mo_activate_48 rfl 1 rfl ?_
        refine aw_getf _ 5 11 dd_mo_activate_49 fl_mo_35 rfl rfl ?_
        refine aw_iload_n dd_mo_activate_52 rfl 2 rfl ?_
        refine aw_iaN _ (j) dd_mo_activate_53 rfl (hj) (by decide) ?_
        refine aw_top (g8) ?_
        refine aw_iaN _ (v) dd_mo_activate_54 rfl (g9) (by decide) ?_
        refine aw_top (hU.2.2.1 v g9) ?_
        refine aw_cVi mm_mo_closed 0 0 _ 5 [_] _ (wc_mo_closed G κ (km_s μ 0 (if (se_i A (nI j) && rb_i (ga_n A) (nI k)) = true then 0 else 1)) o rest hB (hU.2.2.2 v)) dd_mo_activate_55 cv_mo_75 my_mo_closed np_mo_closed rfl rfl rfl (by decide) rfl rfl (Nat.le_of_ble_eq_true rfl) (Nat.le_of_ble_eq_true rfl) ?_
        refine aw_iload_n dd_mo_activate_58 rfl 3 rfl ?_
        refine aw_ishr dd_mo_activate_59 ?_
        refine aw_iconst (v := 1) dd_mo_activate_60 (by decide) ?_
        refine aw_iand dd_mo_activate_61 ?_
        refine aw_top (nI_bit (by have := pc_64 hB.2.2.2 (hU.2.2.2 v) (ga_n A); omega) (by omega)) ?_
        refine aw_iconst (v := 1) dd_mo_activate_62 (by decide) ?_
        refine aw_icmp_ne (tgt := 70) dd_mo_activate_63 (by decide) (fun h3 => ?_) (fun h3 => ?_)
        · refine aw_iconst (v := 0) dd_mo_activate_70 (by decide) ?_
          exact aw_top (by simp_all [zb_q1, zb_i]) kj43
        · refine aw_iconst (v := 1) dd_mo_activate_66 (by decide) ?_
          refine aw_goto (tgt := 71) dd_mo_activate_67 (by decide) ?_
          exact aw_top (by simp_all [zb_q1, zb_i]) kj43
    · replace hw := zb_e0 hw
      rw [ab_activate, if_pos hw]
      refine aw_iconst (v := 0) dd_mo_activate_29 (by decide) ?_
      exact aw_zret dd_mo_activate_30 rfl (by first | exact Or.inl rfl | exact Or.inr rfl) ⟨_, rfl, fun h0 => absurd (show (1 : Int32) = 0 from h0) (by decide), _, rfl, hR, wn_f hw⟩
  · refine aw_aload_n dd_mo_activate_1 rfl 0 rfl ?_
    refine aw_iload_n dd_mo_activate_2 rfl 1 rfl ?_
    refine aw_cVi mm_mo_isSession 0 0 _ 5 [_] _ (wc_mo_isSession G κ _ o rest (A := A) hSs _) dd_mo_activate_3 cv_mo_128 my_mo_isSession np_mo_isSession rfl rfl rfl (by decide) rfl rfl (Nat.le_of_ble_eq_true rfl) (Nat.le_of_ble_eq_true rfl) ?_
    refine aw_if_eq (tgt := 21) dd_mo_activate_6 (by decide) (fun h1 => ?_) (fun h1 => ?_)
    · refine aw_iconst (v := 0) dd_mo_activate_21 (by decide) ?_
      exact aw_top (by simp_all [zb_q0, zb_q1, zb_i]) kj1
    · refine aw_aload_n dd_mo_activate_9 rfl 0 rfl ?_
      refine aw_iload_n dd_mo_activate_10 rfl 2 rfl ?_
      refine aw_cVi mm_mo_isRole 0 0 _ 5 [_] _ (wc_mo_isRole G κ _ o rest (n := ga_n A) hB.1 _) dd_mo_activate_11 cv_mo_90 my_mo_isRole np_mo_isRole rfl rfl rfl (by decide) rfl rfl (Nat.le_of_ble_eq_true rfl) (Nat.le_of_ble_eq_true rfl) ?_
      refine aw_if_eq (tgt := 21) dd_mo_activate_14 (by decide) (fun h2 => ?_) (fun h2 => ?_)
      · refine aw_iconst (v := 0) dd_mo_activate_21 (by decide) ?_
        exact aw_top (by simp_all [zb_q0, zb_q1, zb_i]) kj1
      · refine aw_iconst (v := 1) dd_mo_activate_17 (by decide) ?_
        refine aw_goto (tgt := 22) dd_mo_activate_18 (by decide) ?_
        exact aw_top (by simp_all [zb_q0, zb_q1, zb_i]) kj1
theorem wl_mo_may (G : ag_T) (κ : ck_T) (μ : cm_T) (o : Nat → Int64) (rest : List va_E) {n : Nat} {bel : Nat → Nat} (hB : rm_c μ n bel) {gr : Nat → Nat} (hGr : rm_g μ gr) {s q : Nat} (hs : s < 64) (hq : q < 31) (y1 : Value) : ∀ (k r : Nat), r + k = n → aw_w G mm_mo_may 1 23 0 0 50 [(5, .int (nI r)), (4, .int (zb_i (pn_k (fun i => (pc_f bel s n).testBit i && (gr i).testBit q) r))), (3, .int (nI (pc_f bel s n))), (0, .ref (G.1 + 13)), (1, y1), (2, .int (nI q))] [] (hp_f G κ μ o rest) (q_i (zb_i (pn_k (fun i => (pc_f bel s n).testBit i && (gr i).testBit q) n)) (hp_f G κ μ o rest)) := by
  have hn6 := hB.2.1
  have hA := pc_64 hB.2.2.2 hs n
  intro k
  induction k with
  | zero =>
    intro r hr
    have e : r = n := by omega
    subst e
    refine aw_iload dd_mo_may_50 0 rfl ?_
    refine aw_aload_n dd_mo_may_52 rfl 3 rfl ?_
    refine aw_getf _ 5 1 dd_mo_may_53 fl_mo_69 rfl rfl ?_
    refine aw_top hB.1 ?_
    refine aw_icmp_ge (tgt := 102) dd_mo_may_56 (by decide) (fun _ => ?_) (fun h9 => absurd (nI_le (Nat.le_refl _) (by omega)) h9)
    refine aw_iload dd_mo_may_102 1 rfl ?_
    exact aw_zret dd_mo_may_104 rfl (zb_01 _) ⟨rfl, rfl⟩
  | succ k ih =>
    intro r hr
    refine aw_iload dd_mo_may_50 0 rfl ?_
    refine aw_aload_n dd_mo_may_52 rfl 3 rfl ?_
    refine aw_getf _ 5 1 dd_mo_may_53 fl_mo_69 rfl rfl ?_
    refine aw_top hB.1 ?_
    refine aw_icmp_ge (tgt := 102) dd_mo_may_56 (by decide) (fun h9 => absurd h9 (nI_ge (by omega) (by omega))) (fun _ => ?_)
    refine aw_join (tgt := 94) (v := zb_i (pn_k (fun i => (pc_f bel s n).testBit i && (gr i).testBit q) (r + 1))) ?_ (fun kj59 => ?_)
    · refine aw_istore (lv' := [(4, _), (5, _), (3, _), (0, _), (1, _), (2, _)]) dd_mo_may_94 (by decide) rfl ?_
      refine aw_iinc (v := nI (r + 1)) (lv' := [(5, _), (4, _), (3, _), (0, _), (1, _), (2, _)]) dd_mo_may_96 1 rfl (nI_1 _) (by decide) rfl ?_
      refine aw_goto (tgt := 50) dd_mo_may_99 (by decide) ?_
      exact ih (r + 1) (by omega)
    · refine aw_iload dd_mo_may_59 1 rfl ?_
      refine aw_if_ne (tgt := 89) dd_mo_may_61 (by decide) (fun h1 => ?_) (fun h1 => ?_)
      · refine aw_iconst (v := 1) dd_mo_may_89 (by decide) ?_
        refine aw_goto (tgt := 94) dd_mo_may_90 (by decide) ?_
        exact aw_top (by simp only [zb_q0, zb_q1, Bool.not_eq_false, Bool.not_eq_true] at *; simp_all [zb_i, pn_k]) kj59
      · refine aw_iload_n dd_mo_may_64 rfl 2 rfl ?_
        refine aw_iload dd_mo_may_65 0 rfl ?_
        refine aw_ishr dd_mo_may_67 ?_
        refine aw_iconst (v := 1) dd_mo_may_68 (by decide) ?_
        refine aw_iand dd_mo_may_69 ?_
        refine aw_top (nI_bit (by omega) (by omega)) ?_
        refine aw_iconst (v := 1) dd_mo_may_70 (by decide) ?_
        refine aw_icmp_ne (tgt := 93) dd_mo_may_71 (by decide) (fun h2 => ?_) (fun h2 => ?_)
        · refine aw_iconst (v := 0) dd_mo_may_93 (by decide) ?_
          exact aw_top (by simp only [zb_q0, zb_q1, Bool.not_eq_false, Bool.not_eq_true] at *; simp_all [zb_i, pn_k]) kj59
        · refine aw_aload_n dd_mo_may_74 rfl 3 rfl ?_
          refine aw_getf _ 5 4 dd_mo_may_75 fl_mo_13 rfl rfl ?_
          refine aw_iload dd_mo_may_78 0 rfl ?_
          refine aw_iaN _ (r) dd_mo_may_80 rfl (by omega) (by decide) ?_
          refine aw_top (hGr.1 r (by omega)) ?_
          refine aw_iload_n dd_mo_may_81 rfl 5 rfl ?_
          refine aw_ishr dd_mo_may_82 ?_
          refine aw_iconst (v := 1) dd_mo_may_83 (by decide) ?_
          refine aw_iand dd_mo_may_84 ?_
          refine aw_top (nI_bit (hGr.2 r) (by omega)) ?_
          refine aw_iconst (v := 1) dd_mo_may_85 (by decide) ?_
          refine aw_icmp_ne (tgt := 93) dd_mo_may_86 (by decide) (fun h3 => ?_) (fun h3 => ?_)
          · refine aw_iconst (v := 0) dd_mo_may_93 (by decide) ?_
            exact aw_top (by simp only [zb_q0, zb_q1, Bool.not_eq_false, Bool.not_eq_true] at *; simp_all [zb_i, pn_k]) kj59
          · refine aw_iconst (v := 1) dd_mo_may_89 (by decide) ?_
            refine aw_goto (tgt := 94) dd_mo_may_90 (by decide) ?_
            exact aw_top (by simp only [zb_q0, zb_q1, Bool.not_eq_false, Bool.not_eq_true] at *; simp_all [zb_i, pn_k]) kj59
theorem wc_mo_may (G : ag_T) (κ : ck_T) (μ : cm_T) (o : Nat → Int64) (rest : List va_E) {A : aa_T} (hR : rm_R μ A) (x y : Int32) : aw_w G mm_mo_may 1 23 0 0 0 (lv_args 0 [.ref (G.1 + 13), .int x, .int y]) [] (hp_f G κ μ o rest) (qm_R G κ o rest (ab_may A x y)) := by
  obtain ⟨hB, hGr, hU, hSL, hDL, hRs, hSs⟩ := id hR; have hn6 := hB.2.1; have hu5 := hU.2.1
  refine aw_aload_n dd_mo_may_0 rfl 0 rfl ?_
  refine aw_join (tgt := 24) (v := zb_i (se_i A x && pm_i y)) ?_ (fun kj1 => ?_)
  · refine aw_iconst (v := 1) dd_mo_may_24 (by decide) ?_
    refine aw_cVi mm_mo_when 0 0 _ 5 [_, _] _ (wc_mo_when G κ _ o rest _ _) dd_mo_may_25 cv_mo_86 my_mo_when np_mo_when rfl rfl rfl (by decide) rfl rfl (Nat.le_of_ble_eq_true rfl) (Nat.le_of_ble_eq_true rfl) ?_
    refine aw_if_ne (tgt := 33) dd_mo_may_28 (by decide) (fun hw => ?_) (fun hw => ?_)
    · have hw1 := bt_ne (zb_n0 hw)
      clear hw
      obtain ⟨h8, h9⟩ := Bool.and_eq_true_iff.mp (Bool.not_eq_false _ ▸ hw1)
      obtain ⟨j, v, hj, rfl, hv⟩ := se_t h8
      obtain ⟨g8, g9, g10⟩ := (hSs.1 j hj).2 v hv
      obtain ⟨q, hq, rfl⟩ := pm_n h9
      rw [ab_may, if_neg hw1, iN_n (by omega), iN_n (by omega)]
      refine aw_aload_n dd_mo_may_33 rfl 0 rfl ?_
      refine aw_aload_n dd_mo_may_34 rfl 0 rfl ?_
      refine aw_getf _ 5 12 dd_mo_may_35 fl_mo_38 rfl rfl ?_
      refine aw_iload_n dd_mo_may_38 rfl 1 rfl ?_
      refine aw_iaN _ (j) dd_mo_may_39 rfl (hj) (by decide) ?_
      refine aw_top g10 ?_
      refine aw_cVi mm_mo_closed 0 0 _ 5 [_] _ (wc_mo_closed G κ (km_s μ 0 _) o rest hB (hSs.2 j)) dd_mo_may_40 cv_mo_75 my_mo_closed np_mo_closed rfl rfl rfl (by decide) rfl rfl (Nat.le_of_ble_eq_true rfl) (Nat.le_of_ble_eq_true rfl) ?_
      refine aw_istore_n (lv' := [(3, _), (0, _), (1, _), (2, _)]) dd_mo_may_43 rfl (by decide) rfl ?_
      refine aw_iconst (v := 0) dd_mo_may_44 (by decide) ?_
      refine aw_istore (lv' := [(4, _), (3, _), (0, _), (1, _), (2, _)]) dd_mo_may_45 (by decide) rfl ?_
      refine aw_iconst (v := 0) dd_mo_may_47 (by decide) ?_
      refine aw_istore (lv' := [(5, _), (4, _), (3, _), (0, _), (1, _), (2, _)]) dd_mo_may_48 (by decide) rfl ?_
      refine aw_mono ?_ (wl_mo_may G κ (km_s μ 0 _) o rest hB hGr (hSs.2 j) hq _ (ga_n A) 0 (Nat.zero_add _))
      rintro o9 h9 ⟨rfl, rfl⟩
      exact ⟨_, rfl, fun _ => rfl, _, rfl, hR, wn_t hw1⟩
    · replace hw := zb_e0 hw
      rw [ab_may, if_pos hw]
      refine aw_iconst (v := 0) dd_mo_may_31 (by decide) ?_
      exact aw_zret dd_mo_may_32 rfl (by first | exact Or.inl rfl | exact Or.inr rfl) ⟨_, rfl, fun h0 => absurd (show (1 : Int32) = 0 from h0) (by decide), _, rfl, hR, wn_f hw⟩
  · refine aw_aload_n dd_mo_may_1 rfl 0 rfl ?_
    refine aw_iload_n dd_mo_may_2 rfl 1 rfl ?_
    refine aw_cVi mm_mo_isSession 0 0 _ 5 [_] _ (wc_mo_isSession G κ _ o rest (A := A) hSs _) dd_mo_may_3 cv_mo_128 my_mo_isSession np_mo_isSession rfl rfl rfl (by decide) rfl rfl (Nat.le_of_ble_eq_true rfl) (Nat.le_of_ble_eq_true rfl) ?_
    refine aw_if_eq (tgt := 23) dd_mo_may_6 (by decide) (fun h1 => ?_) (fun h1 => ?_)
    · refine aw_iconst (v := 0) dd_mo_may_23 (by decide) ?_
      exact aw_top (by simp_all [zb_q0, zb_q1, zb_i, pm_i]) kj1
    · refine aw_iload_n dd_mo_may_9 rfl 2 rfl ?_
      refine aw_if_lt (tgt := 23) dd_mo_may_10 (by decide) (fun h2 => ?_) (fun h2 => ?_)
      · refine aw_iconst (v := 0) dd_mo_may_23 (by decide) ?_
        exact aw_top (by simp_all [zb_q0, zb_q1, zb_i, pm_i]) kj1
      · refine aw_iload_n dd_mo_may_13 rfl 2 rfl ?_
        refine aw_bipush (v := 30) dd_mo_may_14 (by decide) ?_
        refine aw_icmp_gt (tgt := 23) dd_mo_may_16 (by decide) (fun h3 => ?_) (fun h3 => ?_)
        · refine aw_iconst (v := 0) dd_mo_may_23 (by decide) ?_
          exact aw_top (by simp_all [zb_q0, zb_q1, zb_i, pm_i]) kj1
        · refine aw_iconst (v := 1) dd_mo_may_19 (by decide) ?_
          refine aw_goto (tgt := 24) dd_mo_may_20 (by decide) ?_
          exact aw_top (by simp_all [zb_q0, zb_q1, zb_i, pm_i]) kj1
theorem wc_mo_giveRule (G : ag_T) (κ : ck_T) (μ : cm_T) (o : Nat → Int64) (rest : List va_E) {A : aa_T} (hR : rm_R μ A) (x y z w : Int32) : aw_w G mm_mo_giveRule 1 25 0 0 0 (lv_args 0 [.ref (G.1 + 13), .int x, .int y, .int z, .int w]) [] (hp_f G κ μ o rest) (qm_R G κ o rest (ab_giveRule A x y z w)) := by
  obtain ⟨hB, hGr, hU, hSL, hDL, hRs, hSs⟩ := id hR; have hn6 := hB.2.1; have hu5 := hU.2.1
  have hr8 := hRs.2.1
  refine aw_aload_n dd_mo_giveRule_0 rfl 0 rfl ?_
  refine aw_join (tgt := 23) (v := zb_i (rb_i (ga_n A) x && rb_i (ga_n A) w)) ?_ (fun kj1 => ?_)
  · refine aw_iconst (v := 1) dd_mo_giveRule_23 (by decide) ?_
    refine aw_cVi mm_mo_when 0 0 _ 5 [_, _] _ (wc_mo_when G κ _ o rest _ _) dd_mo_giveRule_24 cv_mo_86 my_mo_when np_mo_when rfl rfl rfl (by decide) rfl rfl (Nat.le_of_ble_eq_true rfl) (Nat.le_of_ble_eq_true rfl) ?_
    refine aw_if_eq (tgt := 79) dd_mo_giveRule_27 (by decide) (fun hw => ?_) (fun hw => ?_)
    · replace hw := zb_e0 hw
      rw [ab_giveRule, if_pos hw]
      refine aw_iconst (v := 0) dd_mo_giveRule_79 (by decide) ?_
      exact aw_iret dd_mo_giveRule_80 rfl (by first | exact ⟨_, rfl, fun h0 => absurd (show (1 : Int32) = 0 from h0) (by decide), _, rfl, hR, wn_f hw⟩ | exact ⟨_, rfl, fun h0 => absurd (show (2 : Int32) = 0 from h0) (by decide), _, rfl, hR, wn_f hw⟩ | exact ⟨_, rfl, fun h0 => absurd (show (3 : Int32) = 0 from h0) (by decide), _, rfl, hR, wn_f hw⟩)
    · have hw1 := bt_ne (zb_n0 hw)
      clear hw
      obtain ⟨h8, h9⟩ := Bool.and_eq_true_iff.mp (Bool.not_eq_false _ ▸ hw1)
      obtain ⟨i, hi, rfl⟩ := rb_n (by omega) h8
      obtain ⟨k, hk, rfl⟩ := rb_n (by omega) h9
      rw [ab_giveRule, if_neg hw1, iN_n (by omega), iN_n (by omega)]
      refine aw_aload_n dd_mo_giveRule_30 rfl 0 rfl ?_
      refine aw_join (tgt := 50) (v := zb_i (st_i y && st_i z)) ?_ (fun kj31 => ?_)
      · refine aw_iconst (v := 2) dd_mo_giveRule_50 (by decide) ?_
        refine aw_cVi mm_mo_when 0 0 _ 5 [_, _] _ (wc_mo_when G κ _ o rest _ _) dd_mo_giveRule_51 cv_mo_86 my_mo_when np_mo_when rfl rfl rfl (by decide) rfl rfl (Nat.le_of_ble_eq_true rfl) (Nat.le_of_ble_eq_true rfl) ?_
        refine aw_if_eq (tgt := 79) dd_mo_giveRule_54 (by decide) (fun hw => ?_) (fun hw => ?_)
        · replace hw := zb_e0 hw
          rw [if_pos hw]
          refine aw_iconst (v := 0) dd_mo_giveRule_79 (by decide) ?_
          exact aw_iret dd_mo_giveRule_80 rfl (by first | exact ⟨_, rfl, fun h0 => absurd (show (1 : Int32) = 0 from h0) (by decide), _, rfl, hR, wn_f hw⟩ | exact ⟨_, rfl, fun h0 => absurd (show (2 : Int32) = 0 from h0) (by decide), _, rfl, hR, wn_f hw⟩ | exact ⟨_, rfl, fun h0 => absurd (show (3 : Int32) = 0 from h0) (by decide), _, rfl, hR, wn_f hw⟩)
        · have hw2 := bt_ne (zb_n0 hw)
          clear hw
          rw [if_neg hw2]
          obtain ⟨h8, h9⟩ := Bool.and_eq_true_iff.mp (Bool.not_eq_false _ ▸ hw2)
          obtain ⟨a, ha, rfl⟩ := st_n h8
          obtain ⟨b, hb, rfl⟩ := st_n h9
          rw [iN_n (by omega), iN_n (by omega)]
          refine aw_aload_n dd_mo_giveRule_57 rfl 0 rfl ?_
          refine aw_join (tgt := 72) (v := zb_i (decide ((ga_r A).length < 8))) ?_ (fun kj58 => ?_)
          · refine aw_iconst (v := 3) dd_mo_giveRule_72 (by decide) ?_
            refine aw_cVi mm_mo_when 0 0 _ 5 [_, _] _ (wc_mo_when G κ _ o rest _ _) dd_mo_giveRule_73 cv_mo_86 my_mo_when np_mo_when rfl rfl rfl (by decide) rfl rfl (Nat.le_of_ble_eq_true rfl) (Nat.le_of_ble_eq_true rfl) ?_
            refine aw_if_ne (tgt := 81) dd_mo_giveRule_76 (by decide) (fun hw => ?_) (fun hw => ?_)
            · have hw3 := bt_ne (zb_n0 hw)
              clear hw
              have h8l : (ga_r A).length < 8 := by simpa using hw3
              rw [if_neg (show ¬ ¬ (ga_r A).length < 8 from fun h9 => h9 h8l)]
              refine aw_aload_n dd_mo_giveRule_81 rfl 0 rfl ?_
              refine aw_iconst (v := 1) dd_mo_giveRule_82 (by decide) ?_
              refine aw_iload_n dd_mo_giveRule_83 rfl 1 rfl ?_
              refine aw_iload_n dd_mo_giveRule_84 rfl 2 rfl ?_
              refine aw_iload_n dd_mo_giveRule_85 rfl 3 rfl ?_
              refine aw_iload dd_mo_giveRule_86 4 rfl ?_
              refine aw_cVe mm_mo_addRule 0 0 _ 5 [_, _, _, _, _] _ (wc_mo_addRule G κ (km_s (km_s (km_s μ 0 (if (rb_i (ga_n A) (nI i) && rb_i (ga_n A) (nI k)) = true then 0 else 1)) 0 (if (st_i (nI a) && st_i (nI b)) = true then 0 else 2)) 0 (if (decide ((ga_r A).length < 8)) = true then 0 else 3)) o rest hR (true, i, a, b, k) ⟨show i < 6 by omega, ha, hb, show k < 6 by omega⟩ h8l (wn_t hw3)) dd_mo_giveRule_88 cv_mo_106 my_mo_addRule np_mo_addRule rfl rfl rfl (by decide) rfl rfl (Nat.le_of_ble_eq_true rfl) (Nat.le_of_ble_eq_true rfl) (fun w9 h9 hq => ?_)
              obtain ⟨e1, μ1, rfl, e3, e4⟩ := hq
              exact aw_iret dd_mo_giveRule_91 rfl ⟨_, rfl, e1, μ1, rfl, e3, e4⟩
            · replace hw := zb_e0 hw
              rw [if_pos (show ¬ (ga_r A).length < 8 by simpa using hw)]
              refine aw_iconst (v := 0) dd_mo_giveRule_79 (by decide) ?_
              exact aw_iret dd_mo_giveRule_80 rfl (by first | exact ⟨_, rfl, fun h0 => absurd (show (1 : Int32) = 0 from h0) (by decide), _, rfl, hR, wn_f hw⟩ | exact ⟨_, rfl, fun h0 => absurd (show (2 : Int32) = 0 from h0) (by decide), _, rfl, hR, wn_f hw⟩ | exact ⟨_, rfl, fun h0 => absurd (show (3 : Int32) = 0 from h0) (by decide), _, rfl, hR, wn_f hw⟩)
          · refine aw_aload_n dd_mo_giveRule_58 rfl 0 rfl ?_
            refine aw_getf _ 5 13 dd_mo_giveRule_59 fl_mo_100 rfl rfl ?_
            refine aw_top hRs.1 ?_
            refine aw_bipush (v := (nI 8)) dd_mo_giveRule_62 (by decide) ?_
            refine aw_icmp_ge (tgt := 71) dd_mo_giveRule_64 (by decide) (fun h5 => ?_) (fun h5 => ?_)
            · refine aw_iconst (v := 0) dd_mo_giveRule_71 (by decide) ?_
              exact aw_top (by rw [nI_leI (by omega) (by omega)] at h5; simp [zb_i]; omega) kj58
            · refine aw_iconst (v := 1) dd_mo_giveRule_67 (by decide) ?_
              refine aw_goto (tgt := 72) dd_mo_giveRule_68 (by decide) ?_
              exact aw_top (by rw [nI_leI (by omega) (by omega)] at h5; simp [zb_i]; omega) kj58
      · refine aw_iload_n dd_mo_giveRule_31 rfl 2 rfl ?_
        refine aw_cSi mm_mo_isSet 0 0 [_] _ (wc_mo_isSet G _ _) dd_mo_giveRule_32 cs_mo_103 my_mo_isSet np_mo_isSet rfl (by decide) rfl rfl (Nat.le_of_ble_eq_true rfl) (Nat.le_of_ble_eq_true rfl) ?_
        refine aw_if_eq (tgt := 49) dd_mo_giveRule_35 (by decide) (fun h3 => ?_) (fun h3 => ?_)
        · refine aw_iconst (v := 0) dd_mo_giveRule_49 (by decide) ?_
          exact aw_top (by simp_all [zb_q0, zb_q1, zb_i]) kj31
        · refine aw_iload_n dd_mo_giveRule_38 rfl 3 rfl ?_
          refine aw_cSi mm_mo_isSet 0 0 [_] _ (wc_mo_isSet G _ _) dd_mo_giveRule_39 cs_mo_103 my_mo_isSet np_mo_isSet rfl (by decide) rfl rfl (Nat.le_of_ble_eq_true rfl) (Nat.le_of_ble_eq_true rfl) ?_
          refine aw_if_eq (tgt := 49) dd_mo_giveRule_42 (by decide) (fun h4 => ?_) (fun h4 => ?_)
          · refine aw_iconst (v := 0) dd_mo_giveRule_49 (by decide) ?_
            exact aw_top (by simp_all [zb_q0, zb_q1, zb_i]) kj31
          · refine aw_iconst (v := 1) dd_mo_giveRule_45 (by decide) ?_
            refine aw_goto (tgt := 50) dd_mo_giveRule_46 (by decide) ?_
            exact aw_top (by simp_all [zb_q0, zb_q1, zb_i]) kj31
  · refine aw_aload_n dd_mo_giveRule_1 rfl 0 rfl ?_
    refine aw_iload_n dd_mo_giveRule_2 rfl 1 rfl ?_
    refine aw_cVi mm_mo_isRole 0 0 _ 5 [_] _ (wc_mo_isRole G κ _ o rest (n := ga_n A) hB.1 _) dd_mo_giveRule_3 cv_mo_90 my_mo_isRole np_mo_isRole rfl rfl rfl (by decide) rfl rfl (Nat.le_of_ble_eq_true rfl) (Nat.le_of_ble_eq_true rfl) ?_
    refine aw_if_eq (tgt := 22) dd_mo_giveRule_6 (by decide) (fun h1 => ?_) (fun h1 => ?_)
    · refine aw_iconst (v := 0) dd_mo_giveRule_22 (by decide) ?_
      exact aw_top (by simp_all [zb_q0, zb_q1, zb_i]) kj1
    · refine aw_aload_n dd_mo_giveRule_9 rfl 0 rfl ?_
      refine aw_iload dd_mo_giveRule_10 4 rfl ?_
      refine aw_cVi mm_mo_isRole 0 0 _ 5 [_] _ (wc_mo_isRole G κ _ o rest (n := ga_n A) hB.1 _) dd_mo_giveRule_12 cv_mo_90 my_mo_isRole np_mo_isRole rfl rfl rfl (by decide) rfl rfl (Nat.le_of_ble_eq_true rfl) (Nat.le_of_ble_eq_true rfl) ?_
      refine aw_if_eq (tgt := 22) dd_mo_giveRule_15 (by decide) (fun h2 => ?_) (fun h2 => ?_)
      · refine aw_iconst (v := 0) dd_mo_giveRule_22 (by decide) ?_
        exact aw_top (by simp_all [zb_q0, zb_q1, zb_i]) kj1
      · refine aw_iconst (v := 1) dd_mo_giveRule_18 (by decide) ?_
        refine aw_goto (tgt := 23) dd_mo_giveRule_19 (by decide) ?_
        exact aw_top (by simp_all [zb_q0, zb_q1, zb_i]) kj1
theorem wc_mo_takeRule (G : ag_T) (κ : ck_T) (μ : cm_T) (o : Nat → Int64) (rest : List va_E) {A : aa_T} (hR : rm_R μ A) (x w : Int32) : aw_w G mm_mo_takeRule 1 25 0 0 0 (lv_args 0 [.ref (G.1 + 13), .int x, .int w]) [] (hp_f G κ μ o rest) (qm_R G κ o rest (ab_takeRule A x w)) := by
  obtain ⟨hB, hGr, hU, hSL, hDL, hRs, hSs⟩ := id hR; have hn6 := hB.2.1; have hu5 := hU.2.1
  have hr8 := hRs.2.1
  refine aw_aload_n dd_mo_takeRule_0 rfl 0 rfl ?_
  refine aw_join (tgt := 22) (v := zb_i (rb_i (ga_n A) x && rb_i (ga_n A) w)) ?_ (fun kj1 => ?_)
  · refine aw_iconst (v := 1) dd_mo_takeRule_22 (by decide) ?_
    refine aw_cVi mm_mo_when 0 0 _ 5 [_, _] _ (wc_mo_when G κ _ o rest _ _) dd_mo_takeRule_23 cv_mo_86 my_mo_when np_mo_when rfl rfl rfl (by decide) rfl rfl (Nat.le_of_ble_eq_true rfl) (Nat.le_of_ble_eq_true rfl) ?_
    refine aw_if_eq (tgt := 51) dd_mo_takeRule_26 (by decide) (fun hw => ?_) (fun hw => ?_)
    · replace hw := zb_e0 hw
      rw [ab_takeRule, if_pos hw]
      refine aw_iconst (v := 0) dd_mo_takeRule_51 (by decide) ?_
      exact aw_iret dd_mo_takeRule_52 rfl (by first | exact ⟨_, rfl, fun h0 => absurd (show (1 : Int32) = 0 from h0) (by decide), _, rfl, hR, wn_f hw⟩ | exact ⟨_, rfl, fun h0 => absurd (show (2 : Int32) = 0 from h0) (by decide), _, rfl, hR, wn_f hw⟩)
    · have hw1 := bt_ne (zb_n0 hw)
      clear hw
      obtain ⟨h8, h9⟩ := Bool.and_eq_true_iff.mp (Bool.not_eq_false _ ▸ hw1)
      obtain ⟨i, hi, rfl⟩ := rb_n (by omega) h8
      obtain ⟨k, hk, rfl⟩ := rb_n (by omega) h9
      rw [ab_takeRule, if_neg hw1, iN_n (by omega), iN_n (by omega)]
      refine aw_aload_n dd_mo_takeRule_29 rfl 0 rfl ?_
      refine aw_join (tgt := 44) (v := zb_i (decide ((ga_r A).length < 8))) ?_ (fun kj30 => ?_)
      · refine aw_iconst (v := 2) dd_mo_takeRule_44 (by decide) ?_
        refine aw_cVi mm_mo_when 0 0 _ 5 [_, _] _ (wc_mo_when G κ _ o rest _ _) dd_mo_takeRule_45 cv_mo_86 my_mo_when np_mo_when rfl rfl rfl (by decide) rfl rfl (Nat.le_of_ble_eq_true rfl) (Nat.le_of_ble_eq_true rfl) ?_
        refine aw_if_ne (tgt := 53) dd_mo_takeRule_48 (by decide) (fun hw => ?_) (fun hw => ?_)
        · have hw3 := bt_ne (zb_n0 hw)
          clear hw
          have h8l : (ga_r A).length < 8 := by simpa using hw3
          rw [if_neg (show ¬ ¬ (ga_r A).length < 8 from fun h9 => h9 h8l)]
          refine aw_aload_n dd_mo_takeRule_53 rfl 0 rfl ?_
          refine aw_iconst (v := (zb_i false)) dd_mo_takeRule_54 (by decide) ?_
          refine aw_iload_n dd_mo_takeRule_55 rfl 1 rfl ?_
          refine aw_iconst (v := (nI 0)) dd_mo_takeRule_56 (by decide) ?_
          refine aw_iconst (v := (nI 0)) dd_mo_takeRule_57 (by decide) ?_
          refine aw_iload_n dd_mo_takeRule_58 rfl 2 rfl ?_
          refine aw_cVe mm_mo_addRule 0 0 _ 5 [_, _, _, _, _] _ (wc_mo_addRule G κ (km_s (km_s μ 0 (if (rb_i (ga_n A) (nI i) && rb_i (ga_n A) (nI k)) = true then 0 else 1)) 0 (if (decide ((ga_r A).length < 8)) = true then 0 else 2)) o rest hR (false, i, 0, 0, k) ⟨show i < 6 by omega, show 0 < 64 by decide, show 0 < 64 by decide, show k < 6 by omega⟩ h8l (wn_t hw3)) dd_mo_takeRule_59 cv_mo_106 my_mo_addRule np_mo_addRule rfl rfl rfl (by decide) rfl rfl (Nat.le_of_ble_eq_true rfl) (Nat.le_of_ble_eq_true rfl) (fun w9 h9 hq => ?_)
          obtain ⟨e1, μ1, rfl, e3, e4⟩ := hq
          exact aw_iret dd_mo_takeRule_62 rfl ⟨_, rfl, e1, μ1, rfl, e3, e4⟩
        · replace hw := zb_e0 hw
          rw [if_pos (show ¬ (ga_r A).length < 8 by simpa using hw)]
          refine aw_iconst (v := 0) dd_mo_takeRule_51 (by decide) ?_
          exact aw_iret dd_mo_takeRule_52 rfl (by first | exact ⟨_, rfl, fun h0 => absurd (show (1 : Int32) = 0 from h0) (by decide), _, rfl, hR, wn_f hw⟩ | exact ⟨_, rfl, fun h0 => absurd (show (2 : Int32) = 0 from h0) (by decide), _, rfl, hR, wn_f hw⟩)
      · refine aw_aload_n dd_mo_takeRule_30 rfl 0 rfl ?_
        refine aw_getf _ 5 13 dd_mo_takeRule_31 fl_mo_100 rfl rfl ?_
        refine aw_top hRs.1 ?_
        refine aw_bipush (v := (nI 8)) dd_mo_takeRule_34 (by decide) ?_
        refine aw_icmp_ge (tgt := 43) dd_mo_takeRule_36 (by decide) (fun h5 => ?_) (fun h5 => ?_)
        · refine aw_iconst (v := 0) dd_mo_takeRule_43 (by decide) ?_
          exact aw_top (by rw [nI_leI (by omega) (by omega)] at h5; simp [zb_i]; omega) kj30
        · refine aw_iconst (v := 1) dd_mo_takeRule_39 (by decide) ?_
          refine aw_goto (tgt := 44) dd_mo_takeRule_40 (by decide) ?_
          exact aw_top (by rw [nI_leI (by omega) (by omega)] at h5; simp [zb_i]; omega) kj30
  · refine aw_aload_n dd_mo_takeRule_1 rfl 0 rfl ?_
    refine aw_iload_n dd_mo_takeRule_2 rfl 1 rfl ?_
    refine aw_cVi mm_mo_isRole 0 0 _ 5 [_] _ (wc_mo_isRole G κ _ o rest (n := ga_n A) hB.1 _) dd_mo_takeRule_3 cv_mo_90 my_mo_isRole np_mo_isRole rfl rfl rfl (by decide) rfl rfl (Nat.le_of_ble_eq_true rfl) (Nat.le_of_ble_eq_true rfl) ?_
    refine aw_if_eq (tgt := 21) dd_mo_takeRule_6 (by decide) (fun h1 => ?_) (fun h1 => ?_)
    · refine aw_iconst (v := 0) dd_mo_takeRule_21 (by decide) ?_
      exact aw_top (by simp_all [zb_q0, zb_q1, zb_i]) kj1
    · refine aw_aload_n dd_mo_takeRule_9 rfl 0 rfl ?_
      refine aw_iload_n dd_mo_takeRule_10 rfl 2 rfl ?_
      refine aw_cVi mm_mo_isRole 0 0 _ 5 [_] _ (wc_mo_isRole G κ _ o rest (n := ga_n A) hB.1 _) dd_mo_takeRule_11 cv_mo_90 my_mo_isRole np_mo_isRole rfl rfl rfl (by decide) rfl rfl (Nat.le_of_ble_eq_true rfl) (Nat.le_of_ble_eq_true rfl) ?_
      refine aw_if_eq (tgt := 21) dd_mo_takeRule_14 (by decide) (fun h2 => ?_) (fun h2 => ?_)
      · refine aw_iconst (v := 0) dd_mo_takeRule_21 (by decide) ?_
        exact aw_top (by simp_all [zb_q0, zb_q1, zb_i]) kj1
      · refine aw_iconst (v := 1) dd_mo_takeRule_17 (by decide) ?_
        refine aw_goto (tgt := 22) dd_mo_takeRule_18 (by decide) ?_
        exact aw_top (by simp_all [zb_q0, zb_q1, zb_i]) kj1
theorem fr_4 {so : Nat → Option Nat} {r : Nat} (h : ∀ s, s < r → (so s).isSome = true) (h2 : r < 4 → so r = none) (hr : r ≤ 4) : ab_free so = r := by
  have hh : ∀ s, s < r → ¬ so s = none := fun s hs h9 => by have := h s hs; rw [h9] at this; cases this
  unfold ab_free
  rcases (show r = 0 ∨ r = 1 ∨ r = 2 ∨ r = 3 ∨ r = 4 by omega) with e | e | e | e | e <;> subst e
  · rw [if_pos (h2 (by decide))]
  · rw [if_neg (hh 0 (by decide)), if_pos (h2 (by decide))]
  · rw [if_neg (hh 0 (by decide)), if_neg (hh 1 (by decide)), if_pos (h2 (by decide))]
  · rw [if_neg (hh 0 (by decide)), if_neg (hh 1 (by decide)), if_neg (hh 2 (by decide)), if_pos (h2 (by decide))]
  · rw [if_neg (hh 0 (by decide)), if_neg (hh 1 (by decide)), if_neg (hh 2 (by decide)), if_neg (hh 3 (by decide))]
theorem wm_mo_open (G : ag_T) (κ : ck_T) (μ : cm_T) (o : Nat → Int64) (rest : List va_E) {A : aa_T} (hR : rm_R μ A) (x : Int32) : aw_w G mm_mo_open 1 22 0 0 22 [(2, .int (nI (ab_free (ga_o A)))), (0, .ref (G.1 + 13)), (1, .int x)] [] (hp_f G κ μ o rest) (qm_R G κ o rest (ab_open A x)) := by
  obtain ⟨hB, hGr, hU, hSL, hDL, hRs, hSs⟩ := id hR; have hn6 := hB.2.1; have hu5 := hU.2.1
  have hF : ab_free (ga_o A) ≤ 4 := by unfold ab_free; repeat (first | (split; decide) | decide | (split; omega) | omega)
  refine aw_aload_n dd_mo_open_22 rfl 1 rfl ?_
  refine aw_aload_n dd_mo_open_23 rfl 1 rfl ?_
  refine aw_iload_n dd_mo_open_24 rfl 2 rfl ?_
  refine aw_cVi mm_mo_isUser 0 0 _ 5 [_] _ (wc_mo_isUser G κ _ o rest (n := ga_u A) hU.1 _) dd_mo_open_25 cv_mo_113 my_mo_isUser np_mo_isUser rfl rfl rfl (by decide) rfl rfl (Nat.le_of_ble_eq_true rfl) (Nat.le_of_ble_eq_true rfl) ?_
  refine aw_iconst (v := 1) dd_mo_open_28 (by decide) ?_
  refine aw_cVi mm_mo_when 0 0 _ 5 [_, _] _ (wc_mo_when G κ _ o rest _ _) dd_mo_open_29 cv_mo_86 my_mo_when np_mo_when rfl rfl rfl (by decide) rfl rfl (Nat.le_of_ble_eq_true rfl) (Nat.le_of_ble_eq_true rfl) ?_
  refine aw_if_eq (tgt := 53) dd_mo_open_32 (by decide) (fun hw => ?_) (fun hw => ?_)
  · replace hw := zb_e0 hw
    rw [ab_open, if_pos hw]
    refine aw_iconst (v := 0) dd_mo_open_53 (by decide) ?_
    exact aw_iret dd_mo_open_54 rfl (by first | exact ⟨_, rfl, fun h0 => absurd (show (1 : Int32) = 0 from h0) (by decide), _, rfl, hR, wn_f hw⟩ | exact ⟨_, rfl, fun h0 => absurd (show (2 : Int32) = 0 from h0) (by decide), _, rfl, hR, wn_f hw⟩)
  · have hw1 := bt_ne (zb_n0 hw)
    clear hw
    obtain ⟨j, hj, rfl⟩ := rb_n (by omega) (Bool.not_eq_false _ ▸ hw1)
    rw [ab_open, if_neg hw1, iN_n (by omega)]
    refine aw_aload_n dd_mo_open_35 rfl 1 rfl ?_
    refine aw_join (tgt := 46) (v := zb_i (decide (ab_free (ga_o A) < 4))) ?_ (fun kj36 => ?_)
    · refine aw_iconst (v := 2) dd_mo_open_46 (by decide) ?_
      refine aw_cVi mm_mo_when 0 0 _ 5 [_, _] _ (wc_mo_when G κ _ o rest _ _) dd_mo_open_47 cv_mo_86 my_mo_when np_mo_when rfl rfl rfl (by decide) rfl rfl (Nat.le_of_ble_eq_true rfl) (Nat.le_of_ble_eq_true rfl) ?_
      refine aw_if_ne (tgt := 55) dd_mo_open_50 (by decide) (fun hw => ?_) (fun hw => ?_)
      · have hw3 := bt_ne (zb_n0 hw)
        clear hw
        have h4l : ab_free (ga_o A) < 4 := by simpa using hw3
        rw [if_neg (show ¬ ¬ ab_free (ga_o A) < 4 from fun h9 => h9 h4l)]
        refine aw_aload_n dd_mo_open_55 rfl 1 rfl ?_
        refine aw_getf _ 5 10 dd_mo_open_56 fl_mo_31 rfl rfl ?_
        refine aw_iload_n dd_mo_open_59 rfl 0 rfl ?_
        refine aw_iconst (v := 1) dd_mo_open_60 (by decide) ?_
        refine aw_zsN _ (ab_free (ga_o A)) dd_mo_open_61 rfl (h4l) (by decide) (Or.inr rfl) ?_
        refine aw_h (hs_ma7 G _ _ _ _ _ _) ?_
        refine aw_aload_n dd_mo_open_62 rfl 1 rfl ?_
        refine aw_getf _ 5 11 dd_mo_open_63 fl_mo_35 rfl rfl ?_
        refine aw_iload_n dd_mo_open_66 rfl 0 rfl ?_
        refine aw_iload_n dd_mo_open_67 rfl 2 rfl ?_
        refine aw_isN _ (ab_free (ga_o A)) dd_mo_open_68 rfl (h4l) (by decide) ?_
        refine aw_h (hs_ma8 G _ _ _ _ _ _) ?_
        refine aw_aload_n dd_mo_open_69 rfl 1 rfl ?_
        refine aw_getf _ 5 12 dd_mo_open_70 fl_mo_38 rfl rfl ?_
        refine aw_iload_n dd_mo_open_73 rfl 0 rfl ?_
        refine aw_iconst (v := 0) dd_mo_open_74 (by decide) ?_
        refine aw_isN _ (ab_free (ga_o A)) dd_mo_open_75 rfl (h4l) (by decide) ?_
        refine aw_h (hs_ma9 G _ _ _ _ _ _) ?_
        refine aw_iload_n dd_mo_open_76 rfl 0 rfl ?_
        exact aw_iret dd_mo_open_77 rfl ⟨_, rfl, fun _ => rfl, _, rfl, ⟨hB, hGr, hU, hSL, hDL, hRs, so_o hSs (by omega)⟩, wn_t hw3⟩
      · replace hw := zb_e0 hw
        rw [if_pos (show ¬ ab_free (ga_o A) < 4 by simpa using hw)]
        refine aw_iconst (v := 0) dd_mo_open_53 (by decide) ?_
        exact aw_iret dd_mo_open_54 rfl (by first | exact ⟨_, rfl, fun h0 => absurd (show (1 : Int32) = 0 from h0) (by decide), _, rfl, hR, wn_f hw⟩ | exact ⟨_, rfl, fun h0 => absurd (show (2 : Int32) = 0 from h0) (by decide), _, rfl, hR, wn_f hw⟩)
    · refine aw_iload_n dd_mo_open_36 rfl 0 rfl ?_
      refine aw_iconst (v := (nI 4)) dd_mo_open_37 (by decide) ?_
      refine aw_icmp_ge (tgt := 45) dd_mo_open_38 (by decide) (fun h5 => ?_) (fun h5 => ?_)
      · refine aw_iconst (v := 0) dd_mo_open_45 (by decide) ?_
        exact aw_top (by rw [nI_leI (by omega) (by omega)] at h5; simp [zb_i]; omega) kj36
      · refine aw_iconst (v := 1) dd_mo_open_41 (by decide) ?_
        refine aw_goto (tgt := 46) dd_mo_open_42 (by decide) ?_
        exact aw_top (by rw [nI_leI (by omega) (by omega)] at h5; simp [zb_i]; omega) kj36
theorem wl_mo_open (G : ag_T) (κ : ck_T) (μ : cm_T) (o : Nat → Int64) (rest : List va_E) {A : aa_T} (hR : rm_R μ A) (x : Int32) : ∀ (k r : Nat), r + k = 4 → (∀ s, s < r → (ga_o A s).isSome = true) → aw_w G mm_mo_open 1 22 0 0 2 [(2, .int (nI r)), (0, .ref (G.1 + 13)), (1, .int x)] [] (hp_f G κ μ o rest) (qm_R G κ o rest (ab_open A x)) := by
  intro k
  induction k with
  | zero =>
    intro r hr hs
    have e : r = 4 := by omega
    subst e
    have e9 := fr_4 hs (fun h9 => absurd h9 (by decide)) (by decide)
    refine aw_iload_n dd_mo_open_2 rfl 0 rfl ?_
    refine aw_iconst (v := 4) dd_mo_open_3 (by decide) ?_
    refine aw_icmp_ge (tgt := 22) dd_mo_open_4 (by decide) (fun _ => ?_) (fun h9 => absurd (nI_le (a := 4) (b := 4) (by decide) (by decide)) h9)
    have w9 := wm_mo_open G κ μ o rest hR x
    rw [e9] at w9
    exact w9
  | succ k ih =>
    intro r hr hs
    have hSs := hR.2.2.2.2.2.2
    refine aw_iload_n dd_mo_open_2 rfl 0 rfl ?_
    refine aw_iconst (v := 4) dd_mo_open_3 (by decide) ?_
    refine aw_icmp_ge (tgt := 22) dd_mo_open_4 (by decide) (fun h9 => absurd h9 (nI_ge (b := 4) (by omega) (by decide))) (fun _ => ?_)
    refine aw_aload_n dd_mo_open_7 rfl 1 rfl ?_
    refine aw_getf _ 5 10 dd_mo_open_8 fl_mo_31 rfl rfl ?_
    refine aw_iload_n dd_mo_open_11 rfl 0 rfl ?_
    refine aw_zaN _ (r) dd_mo_open_12 rfl (by omega) (by decide) ?_
    refine aw_top (hSs.1 r (by omega)).1 ?_
    refine aw_if_eq (tgt := 22) dd_mo_open_13 (by decide) (fun h1 => ?_) (fun h1 => ?_)
    · have e9 := fr_4 hs (fun _ => by have := zb_e0 h1; simpa using this) (by omega)
      have w9 := wm_mo_open G κ μ o rest hR x
      rw [e9] at w9
      exact w9
    · refine aw_iinc (v := nI (r + 1)) (lv' := [(2, _), (0, _), (1, _)]) dd_mo_open_16 0 rfl (nI_1 _) (by decide) rfl ?_
      refine aw_goto (tgt := 2) dd_mo_open_19 (by decide) ?_
      refine ih (r + 1) (by omega) (fun s h9 => ?_)
      by_cases e : s = r
      · subst e; exact zb_n0 h1
      · exact hs s (by omega)
theorem wc_mo_open (G : ag_T) (κ : ck_T) (μ : cm_T) (o : Nat → Int64) (rest : List va_E) {A : aa_T} (hR : rm_R μ A) (x : Int32) : aw_w G mm_mo_open 1 22 0 0 0 (lv_args 0 [.ref (G.1 + 13), .int x]) [] (hp_f G κ μ o rest) (qm_R G κ o rest (ab_open A x)) := by
  refine aw_iconst (v := 0) dd_mo_open_0 (by decide) ?_
  refine aw_istore_n (lv' := [(2, _), (0, _), (1, _)]) dd_mo_open_1 rfl (by decide) rfl ?_
  exact wl_mo_open G κ μ o rest hR x 4 0 rfl (fun s h9 => absurd h9 (Nat.not_lt_zero s))
