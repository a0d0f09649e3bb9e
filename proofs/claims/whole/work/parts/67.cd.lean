/-! ===== the class: calls, second half ===== -/
theorem wc_ra_addAssignmentT (G : ag_T) (κ : ck_T) (μ : cm_T) (o : Nat → Int64) (rest : List va_E) {A : aa_T} (hR : rk_R G κ rest A) {j k : Nat} (hj : j < ga_u A) (hk : k < ga_n A) (hp : pk_l (ga_s A) (ga_l A (ga_a A j ||| 1 <<< k)) = true) : aw_w G mm_ra_addAssignment 7 114 0 0 0 (lv_args 0 [.ref (G.1 + 0), .int (nI j), .int (nI k)]) [] (hp_f G κ μ o rest) (q_i (zb_i (decide (¬ ga_a A j ||| 1 <<< k = ga_a A j))) (hp_f G (kk_a κ 3 j (nI (ga_a A j ||| 1 <<< k))) μ o rest)) := by
  obtain ⟨hC, hGr, hU, hSL, hDL, hRu, hSs, hDD⟩ := id hR; have hn6 := hC.2.1; have hu5 := hU.2.1
  have hs : ga_a A j ||| 1 <<< k < 64 := bt_or (n := 6) (hU.2.2.2 j) (bt_1 (by omega))
  have ha := hU.2.2.2 j
  have hcl := pc_64 hC.2.2.2 hs (ga_n A)
  refine aw_aload_n dd_ra_addAssignment_0 rfl 0 rfl ?_
  refine aw_getf _ 0 2 dd_ra_addAssignment_1 fl_ra_25 rfl rfl ?_
  refine aw_iload_n dd_ra_addAssignment_4 rfl 1 rfl ?_
  refine aw_iaN _ (j) dd_ra_addAssignment_5 rfl (by omega) (by decide) ?_
  refine aw_top (hU.2.2.1 j (by omega)) ?_
  refine aw_iconst (v := (nI 1)) dd_ra_addAssignment_6 (by decide) ?_
  refine aw_iload_n dd_ra_addAssignment_7 rfl 2 rfl ?_
  refine aw_ishl dd_ra_addAssignment_8 ?_
  refine aw_top (nI_shl 1 (by omega)) ?_
  refine aw_ior dd_ra_addAssignment_9 ?_
  refine aw_top (nI_or _ _) ?_
  refine aw_istore_n (lv' := [(3, _), (0, _), (1, _), (2, _)]) dd_ra_addAssignment_10 rfl (by decide) rfl ?_
  refine aw_aload_n dd_ra_addAssignment_11 rfl 1 rfl ?_
  refine aw_aload_n dd_ra_addAssignment_12 rfl 1 rfl ?_
  refine aw_getf _ 0 0 dd_ra_addAssignment_13 fl_ra_12 rfl rfl ?_
  refine aw_getf _ 1 1 dd_ra_addAssignment_16 fl_ra_172 rfl rfl ?_
  refine aw_iload_n dd_ra_addAssignment_19 rfl 0 rfl ?_
  refine aw_iaN _ (ga_a A j ||| 1 <<< k) dd_ra_addAssignment_20 rfl (hs) (by decide) ?_
  refine aw_top (hC.2.2.1 _ hs) ?_
  refine aw_cVv mm_ra_checkStaticLimits 0 0 _ 0 [_] _ (wc_ra_checkStaticLimitsT G κ μ o rest hSL hcl hp) dd_ra_addAssignment_21 cv_ra_81 my_ra_checkStaticLimits np_ra_checkStaticLimits rfl rfl rfl (by decide) rfl rfl (Nat.le_of_ble_eq_true rfl) (Nat.le_of_ble_eq_true rfl) ?_
  refine aw_join (tgt := 39) (v := zb_i (decide (¬ ga_a A j ||| 1 <<< k = ga_a A j))) ?_ (fun kj24 => ?_)
  · refine aw_istore (lv' := [(4, _), (3, _), (0, _), (1, _), (2, _)]) dd_ra_addAssignment_39 (by decide) rfl ?_
    refine aw_aload_n dd_ra_addAssignment_41 rfl 2 rfl ?_
    refine aw_getf _ 0 2 dd_ra_addAssignment_42 fl_ra_25 rfl rfl ?_
    refine aw_iload_n dd_ra_addAssignment_45 rfl 3 rfl ?_
    refine aw_iload_n dd_ra_addAssignment_46 rfl 1 rfl ?_
    refine aw_isN _ (j) dd_ra_addAssignment_47 rfl (by omega) (by decide) ?_
    refine aw_h (hs_ka3 G _ _ _ _ _ _) ?_
    refine aw_iload dd_ra_addAssignment_48 0 rfl ?_
    exact aw_zret dd_ra_addAssignment_50 rfl (zb_01 _) ⟨rfl, rfl⟩
  · refine aw_iload_n dd_ra_addAssignment_24 rfl 0 rfl ?_
    refine aw_aload_n dd_ra_addAssignment_25 rfl 1 rfl ?_
    refine aw_getf _ 0 2 dd_ra_addAssignment_26 fl_ra_25 rfl rfl ?_
    refine aw_iload_n dd_ra_addAssignment_29 rfl 2 rfl ?_
    refine aw_iaN _ (j) dd_ra_addAssignment_30 rfl (by omega) (by decide) ?_
    refine aw_top (hU.2.2.1 j (by omega)) ?_
    refine aw_icmp_eq (tgt := 38) dd_ra_addAssignment_31 (by decide) (fun h1 => ?_) (fun h1 => ?_)
    · refine aw_iconst (v := 0) dd_ra_addAssignment_38 (by decide) ?_
      exact aw_top (by rw [nI_eq (by omega) (by omega)] at h1; simp [zb_i, h1]) kj24
    · refine aw_iconst (v := 1) dd_ra_addAssignment_34 (by decide) ?_
      refine aw_goto (tgt := 39) dd_ra_addAssignment_35 (by decide) ?_
      exact aw_top (by rw [nI_eq (by omega) (by omega)] at h1; simp [zb_i, h1]) kj24
theorem wc_ra_addAssignmentF (G : ag_T) (κ : ck_T) (μ : cm_T) (o : Nat → Int64) (rest : List va_E) {A : aa_T} (hR : rk_R G κ rest A) {j k : Nat} (hj : j < ga_u A) (hk : k < ga_n A) (hp : pk_l (ga_s A) (ga_l A (ga_a A j ||| 1 <<< k)) = false) : aw_w G mm_ra_addAssignment 7 114 1 6 0 (lv_args 0 [.ref (G.1 + 0), .int (nI j), .int (nI k)]) [] (hp_f G κ μ o rest) (q_x 7 (hp_f G κ μ o (rest ++ [.inr (7, [])]))) := by
  obtain ⟨hC, hGr, hU, hSL, hDL, hRu, hSs, hDD⟩ := id hR; have hn6 := hC.2.1; have hu5 := hU.2.1
  have hs : ga_a A j ||| 1 <<< k < 64 := bt_or (n := 6) (hU.2.2.2 j) (bt_1 (by omega))
  have ha := hU.2.2.2 j
  have hcl := pc_64 hC.2.2.2 hs (ga_n A)
  refine aw_aload_n dd_ra_addAssignment_0 rfl 0 rfl ?_
  refine aw_getf _ 0 2 dd_ra_addAssignment_1 fl_ra_25 rfl rfl ?_
  refine aw_iload_n dd_ra_addAssignment_4 rfl 1 rfl ?_
  refine aw_iaN _ (j) dd_ra_addAssignment_5 rfl (by omega) (by decide) ?_
  refine aw_top (hU.2.2.1 j (by omega)) ?_
  refine aw_iconst (v := (nI 1)) dd_ra_addAssignment_6 (by decide) ?_
  refine aw_iload_n dd_ra_addAssignment_7 rfl 2 rfl ?_
  refine aw_ishl dd_ra_addAssignment_8 ?_
  refine aw_top (nI_shl 1 (by omega)) ?_
  refine aw_ior dd_ra_addAssignment_9 ?_
  refine aw_top (nI_or _ _) ?_
  refine aw_istore_n (lv' := [(3, _), (0, _), (1, _), (2, _)]) dd_ra_addAssignment_10 rfl (by decide) rfl ?_
  refine aw_aload_n dd_ra_addAssignment_11 rfl 1 rfl ?_
  refine aw_aload_n dd_ra_addAssignment_12 rfl 1 rfl ?_
  refine aw_getf _ 0 0 dd_ra_addAssignment_13 fl_ra_12 rfl rfl ?_
  refine aw_getf _ 1 1 dd_ra_addAssignment_16 fl_ra_172 rfl rfl ?_
  refine aw_iload_n dd_ra_addAssignment_19 rfl 0 rfl ?_
  refine aw_iaN _ (ga_a A j ||| 1 <<< k) dd_ra_addAssignment_20 rfl (hs) (by decide) ?_
  refine aw_top (hC.2.2.1 _ hs) ?_
  refine aw_cVx mm_ra_checkStaticLimits 0 0 _ 0 [_] _ (wc_ra_checkStaticLimitsF G κ μ o rest hSL hcl hp) dd_ra_addAssignment_21 cv_ra_81 my_ra_checkStaticLimits np_ra_checkStaticLimits rfl rfl rfl (by decide) rfl rfl (Nat.le_of_ble_eq_true rfl) (Nat.le_of_ble_eq_true rfl) (fun k9 => ?_)
  exact aw_out (fun _ h9 => nomatch h9) ⟨rfl, rfl⟩
theorem wc_ra_assign (G : ag_T) (κ : ck_T) (μ : cm_T) (o : Nat → Int64) (rest : List va_E) {A : aa_T} (hR : rk_R G κ rest A) (x y : Int32) : aw_w G mm_ra_assign 8 138 1 6 0 (lv_args 0 [.ref (G.1 + 0), .int x, .int y]) [] (hp_f G κ μ o rest) (qc_R G μ o [8, 7] (ab_assign A x y)) := by
  obtain ⟨hC, hGr, hU, hSL, hDL, hRu, hSs, hDD⟩ := id hR; have hn6 := hC.2.1; have hu5 := hU.2.1
  refine aw_aload_n dd_ra_assign_0 rfl 0 rfl ?_
  refine aw_iload_n dd_ra_assign_1 rfl 1 rfl ?_
  rcases bl_c (rb_i (ga_u A) x) with h1 | h1
  · refine aw_cVx mm_ra_checkUser 0 0 _ 0 [_] _ (wc_ra_checkUserF G κ μ o rest (by omega) hU.1 h1) dd_ra_assign_2 cv_ra_143 my_ra_checkUser np_ra_checkUser rfl rfl rfl (by decide) rfl rfl (Nat.le_of_ble_eq_true rfl) (Nat.le_of_ble_eq_true rfl) (fun k9 => ?_)
    rw [ab_assign, if_pos (show (rb_i (ga_u A) x && rb_i (ga_n A) y) = false by rw [h1]; rfl)]
    exact aw_out (fun _ h9 => nomatch h9) ⟨_, _, rfl, hR.app _, Or.inr ⟨0, 8, rfl, rfl, rfl⟩⟩
  · refine aw_cVv mm_ra_checkUser 1 6 _ 0 [_] _ (wc_ra_checkUserT G κ μ o rest (by omega) hU.1 h1) dd_ra_assign_2 cv_ra_143 my_ra_checkUser np_ra_checkUser rfl rfl rfl (by decide) rfl rfl (Nat.le_of_ble_eq_true rfl) (Nat.le_of_ble_eq_true rfl) ?_
    refine aw_aload_n dd_ra_assign_5 rfl 0 rfl ?_
    refine aw_iload_n dd_ra_assign_6 rfl 2 rfl ?_
    rcases bl_c (rb_i (ga_n A) y) with h2 | h2
    · refine aw_cVx mm_ra_checkRole 0 0 _ 0 [_] _ (wc_ra_checkRoleF G κ μ o rest (by omega) hC.1 h2) dd_ra_assign_7 cv_ra_60 my_ra_checkRole np_ra_checkRole rfl rfl rfl (by decide) rfl rfl (Nat.le_of_ble_eq_true rfl) (Nat.le_of_ble_eq_true rfl) (fun k9 => ?_)
      rw [ab_assign, if_pos (show (rb_i (ga_u A) x && rb_i (ga_n A) y) = false by rw [h1, h2]; rfl)]
      exact aw_out (fun _ h9 => nomatch h9) ⟨_, _, rfl, hR.app _, Or.inr ⟨0, 8, rfl, rfl, rfl⟩⟩
    · rw [ab_assign, if_neg (show ¬ (rb_i (ga_u A) x && rb_i (ga_n A) y) = false by rw [h1, h2]; decide)]
      obtain ⟨j, hj, rfl⟩ := rb_n (by omega) h1
      obtain ⟨k, hk, rfl⟩ := rb_n (by omega) h2
      rw [iN_n (by omega), iN_n (by omega)]
      refine aw_cVv mm_ra_checkRole 1 6 _ 0 [_] _ (wc_ra_checkRoleT G κ μ o rest (by omega) hC.1 h2) dd_ra_assign_7 cv_ra_60 my_ra_checkRole np_ra_checkRole rfl rfl rfl (by decide) rfl rfl (Nat.le_of_ble_eq_true rfl) (Nat.le_of_ble_eq_true rfl) ?_
      refine aw_aload_n dd_ra_assign_10 rfl 0 rfl ?_
      refine aw_iload_n dd_ra_assign_11 rfl 1 rfl ?_
      refine aw_iload_n dd_ra_assign_12 rfl 2 rfl ?_
      rcases bl_c (pk_l (ga_s A) (ga_l A (ga_a A j ||| 1 <<< k))) with hp | hp
      · rw [ab_put, if_pos hp]
        refine aw_cVx mm_ra_addAssignment 0 0 _ 0 [_, _] _ (wc_ra_addAssignmentF G κ μ o rest hR hj hk hp) dd_ra_assign_13 cv_ra_146 my_ra_addAssignment np_ra_addAssignment rfl rfl rfl (by decide) rfl rfl (Nat.le_of_ble_eq_true rfl) (Nat.le_of_ble_eq_true rfl) (fun k9 => ?_)
        exact aw_out (fun _ h9 => nomatch h9) ⟨_, _, rfl, hR.app _, Or.inr ⟨1, 7, rfl, rfl, rfl⟩⟩
      · rw [ab_put, if_neg (bt_ne hp)]
        refine aw_cVi mm_ra_addAssignment 1 6 _ 0 [_, _] _ (wc_ra_addAssignmentT G κ μ o rest hR hj hk hp) dd_ra_assign_13 cv_ra_146 my_ra_addAssignment np_ra_addAssignment rfl rfl rfl (by decide) rfl rfl (Nat.le_of_ble_eq_true rfl) (Nat.le_of_ble_eq_true rfl) ?_
        exact aw_zret dd_ra_assign_16 rfl (zb_01 _) ⟨_, _, rfl, ⟨hC, hGr, ⟨hU.1, hU.2.1, up_e hU.2.2.1, up_b hU.2.2.2 (bt_or (n := 6) (hU.2.2.2 j) (bt_1 (by omega)))⟩, hSL, hDL, hRu, hSs, hDD⟩, Or.inl ⟨rfl, rfl⟩⟩
theorem wl_ra_drop (G : ag_T) (κ : ck_T) (μ : cm_T) (o : Nat → Int64) (rest : List va_E) {A : aa_T} (hR : rk_R G κ rest A) {j k : Nat} (hj : j < ga_u A) (hk : k < ga_n A) : ∀ (i r : Nat), r + i = 4 → ∀ f : Nat → Int32, (∀ s, s < 4 → f s = nI (if s < r then (if ga_o A s = some j then ga_c A s &&& ga_l A (bt_c (ga_a A j) k) else ga_c A s) else ga_c A s)) → aw_w G mm_ra_dropAssignment 1 21 0 0 28 [(4, .int (nI r)), (3, .int (zb_i ((ga_a A j).testBit k))), (0, .ref (G.1 + 0)), (1, .int (nI j)), (2, .int (nI k))] [] (hp_f G (((kk_a κ 3 j (nI (bt_c (ga_a A j) k)))).1, va_up ((kk_a κ 3 j (nI (bt_c (ga_a A j) k)))).2.1 6 f, ((kk_a κ 3 j (nI (bt_c (ga_a A j) k)))).2.2) μ o rest) (qe_i fun w h' => w = zb_i ((ga_a A j).testBit k) ∧ ∃ κ', h' = hp_f G κ' μ o rest ∧ rk_R G κ' rest (ab_cut A j k)) := by
  obtain ⟨hC, hGr, hU, hSL, hDL, hRu, hSs, hDD⟩ := id hR; have hn6 := hC.2.1; have hu5 := hU.2.1
  have hU1 := (show rk_u (kk_a κ 3 j (nI (bt_c (ga_a A j) k))) (ga_u A) (up_f (ga_a A) j (bt_c (ga_a A j) k)) from ⟨hU.1, hU.2.1, up_e hU.2.2.1, up_b hU.2.2.2 (bt_cl (n := 6) (hU.2.2.2 j))⟩)
  have hcl : pc_f (ga_b A) (up_f (ga_a A) j (bt_c (ga_a A j) k) j) (ga_n A) = ga_l A (bt_c (ga_a A j) k) := by unfold up_f; rw [if_pos rfl]
  intro i
  induction i with
  | zero =>
    intro r hr f hf
    have e : r = 4 := by omega
    subst e
    refine aw_iload dd_ra_dropAssignment_28 0 rfl ?_
    refine aw_iconst (v := (nI 4)) dd_ra_dropAssignment_30 (by decide) ?_
    refine aw_icmp_ge (tgt := 66) dd_ra_dropAssignment_31 (by decide) (fun _ => ?_) (fun h9 => absurd (nI_le (Nat.le_refl _) (by decide)) h9)
    refine aw_iload_n dd_ra_dropAssignment_66 rfl 1 rfl ?_
    exact aw_zret dd_ra_dropAssignment_67 rfl (zb_01 _) ⟨_, rfl, rfl, _, rfl, hC, hGr, hU1, hSL, hDL, hRu, ⟨fun s hs => ⟨(hSs.1 s hs).1, by (show f s = _; rw [hf s hs, if_pos hs]; rfl)⟩, hSs.2.1, fun s => by (show (if ga_o A s = some j then ga_c A s &&& _ else ga_c A s) < 64; split; exact bt_and (n := 6) (hSs.2.2 s); exact hSs.2.2 s)⟩, hDD⟩
  | succ i ih =>
    intro r hr f hf
    have hr4 : r < 4 := by omega
    have h5 := (hSs.1 r hr4).1
    have hfr : f r = nI (ga_c A r) := by rw [hf r hr4, if_neg (Nat.lt_irrefl r)]
    refine aw_iload dd_ra_dropAssignment_28 0 rfl ?_
    refine aw_iconst (v := (nI 4)) dd_ra_dropAssignment_30 (by decide) ?_
    refine aw_icmp_ge (tgt := 66) dd_ra_dropAssignment_31 (by decide) (fun h9 => absurd h9 (nI_ge (by omega) (by decide))) (fun _ => ?_)
    refine aw_aload_n dd_ra_dropAssignment_34 rfl 2 rfl ?_
    refine aw_getf _ 0 4 dd_ra_dropAssignment_35 fl_ra_32 rfl rfl ?_
    refine aw_iload dd_ra_dropAssignment_38 0 rfl ?_
    refine aw_iaN _ (r) dd_ra_dropAssignment_40 rfl (hr4) (by decide) ?_
    refine aw_top (y := su_i (ga_o A r)) h5 ?_
    refine aw_iload_n dd_ra_dropAssignment_41 rfl 3 rfl ?_
    refine aw_icmp_ne (tgt := 60) dd_ra_dropAssignment_42 (by decide) (fun h1 => ?_) (fun h1 => ?_)
    · have hso : ¬ ga_o A r = some j := fun h9 => h1 (by rw [h9]; rfl)
      refine aw_iinc (v := nI (r + 1)) (lv' := [(4, _), (3, _), (0, _), (1, _), (2, _)]) dd_ra_dropAssignment_60 0 rfl (nI_1 _) (by decide) rfl ?_
      refine aw_goto (tgt := 28) dd_ra_dropAssignment_63 (by decide) ?_
      refine ih (r + 1) (by omega) f (fun s hs => ?_)
      rw [hf s hs]; congr 1; by_cases h9 : s < r
      · rw [if_pos h9, if_pos (show s < r + 1 by omega)]
      · by_cases h8 : s = r
        · subst h8; rw [if_neg h9, if_pos (show s < s + 1 by omega), if_neg hso]
        · rw [if_neg h9, if_neg (show ¬ s < r + 1 by omega)]
    · have hso : ga_o A r = some j := by
        cases ho : ga_o A r with
        | none => (rw [ho] at h1; have h8 := nI_pos (n := j) (by omega); rw [← show (-1 : Int32) = nI j from h1] at h8; exact absurd (by decide) h8)
        | some w => (rw [ho] at h1; have h7 := hSs.2.1 r w ho; rw [show su_i (some w) = nI w from rfl, nI_eq (by omega) (by omega)] at h1; rw [h1])
      refine aw_aload_n dd_ra_dropAssignment_45 rfl 2 rfl ?_
      refine aw_getf _ 0 5 dd_ra_dropAssignment_46 fl_ra_35 rfl rfl ?_
      refine aw_iload dd_ra_dropAssignment_49 0 rfl ?_
      refine aw_dup2 dd_ra_dropAssignment_51 rfl rfl ?_
      refine aw_iaN _ (r) dd_ra_dropAssignment_52 rfl (hr4) (by decide) ?_
      refine aw_top (y := nI (ga_c A r)) hfr ?_
      refine aw_aload_n dd_ra_dropAssignment_53 rfl 2 rfl ?_
      refine aw_iload_n dd_ra_dropAssignment_54 rfl 3 rfl ?_
      refine aw_cVi mm_ra_authorizedRoles 0 0 _ 0 [_] _ (wc_ra_authorizedRoles G (((kk_a κ 3 j (nI (bt_c (ga_a A j) k)))).1, va_up ((kk_a κ 3 j (nI (bt_c (ga_a A j) k)))).2.1 6 f, ((kk_a κ 3 j (nI (bt_c (ga_a A j) k)))).2.2) μ o rest hC hU1 (by omega)) dd_ra_dropAssignment_55 cv_ra_73 my_ra_authorizedRoles np_ra_authorizedRoles rfl rfl rfl (by decide) rfl rfl (Nat.le_of_ble_eq_true rfl) (Nat.le_of_ble_eq_true rfl) ?_
      rw [hcl]
      refine aw_iand dd_ra_dropAssignment_58 ?_
      refine aw_top (nI_and _ _) ?_
      refine aw_isN _ (r) dd_ra_dropAssignment_59 rfl (hr4) (by decide) ?_
      refine aw_h (hs_ka6 G _ _ _ _ _ _) ?_
      rw [kw_a]
      refine aw_iinc (v := nI (r + 1)) (lv' := [(4, _), (3, _), (0, _), (1, _), (2, _)]) dd_ra_dropAssignment_60 0 rfl (nI_1 _) (by decide) rfl ?_
      refine aw_goto (tgt := 28) dd_ra_dropAssignment_63 (by decide) ?_
      refine ih (r + 1) (by omega) _ (fun s hs => ?_)
      unfold upd
      split
      · rename_i e; subst e; rw [if_pos (show s < s + 1 by omega), if_pos hso]
      · rename_i e; rw [hf s hs]; congr 1; by_cases h9 : s < r
        · rw [if_pos h9, if_pos (show s < r + 1 by omega)]
        · rw [if_neg h9, if_neg (show ¬ s < r + 1 by omega)]
theorem wc_ra_dropAssignment (G : ag_T) (κ : ck_T) (μ : cm_T) (o : Nat → Int64) (rest : List va_E) {A : aa_T} (hR : rk_R G κ rest A) {j k : Nat} (hj : j < ga_u A) (hk : k < ga_n A) : aw_w G mm_ra_dropAssignment 1 21 0 0 0 (lv_args 0 [.ref (G.1 + 0), .int (nI j), .int (nI k)]) [] (hp_f G κ μ o rest) (qe_i fun w h' => w = zb_i ((ga_a A j).testBit k) ∧ ∃ κ', h' = hp_f G κ' μ o rest ∧ rk_R G κ' rest (ab_cut A j k)) := by
  obtain ⟨hC, hGr, hU, hSL, hDL, hRu, hSs, hDD⟩ := id hR; have hn6 := hC.2.1; have hu5 := hU.2.1
  have ha := hU.2.2.2 j
  refine aw_aload_n dd_ra_dropAssignment_0 rfl 0 rfl ?_
  refine aw_getf _ 0 2 dd_ra_dropAssignment_1 fl_ra_25 rfl rfl ?_
  refine aw_iload_n dd_ra_dropAssignment_4 rfl 1 rfl ?_
  refine aw_iaN _ (j) dd_ra_dropAssignment_5 rfl (by omega) (by decide) ?_
  refine aw_top (hU.2.2.1 j (by omega)) ?_
  refine aw_iload_n dd_ra_dropAssignment_6 rfl 2 rfl ?_
  refine aw_cSi mm_ra_has 0 0 [_, _] _ (wc_ra_has G _ (by omega) (by omega)) dd_ra_dropAssignment_7 cs_ra_91 my_ra_has np_ra_has rfl (by decide) rfl rfl (Nat.le_of_ble_eq_true rfl) (Nat.le_of_ble_eq_true rfl) ?_
  refine aw_istore_n (lv' := [(3, _), (0, _), (1, _), (2, _)]) dd_ra_dropAssignment_10 rfl (by decide) rfl ?_
  refine aw_aload_n dd_ra_dropAssignment_11 rfl 1 rfl ?_
  refine aw_getf _ 0 2 dd_ra_dropAssignment_12 fl_ra_25 rfl rfl ?_
  refine aw_iload_n dd_ra_dropAssignment_15 rfl 2 rfl ?_
  refine aw_dup2 dd_ra_dropAssignment_16 rfl rfl ?_
  refine aw_iaN _ (j) dd_ra_dropAssignment_17 rfl (by omega) (by decide) ?_
  refine aw_top (hU.2.2.1 j (by omega)) ?_
  refine aw_iconst (v := 1) dd_ra_dropAssignment_18 (by decide) ?_
  refine aw_iload_n dd_ra_dropAssignment_19 rfl 3 rfl ?_
  refine aw_ishl dd_ra_dropAssignment_20 ?_
  refine aw_iconst (v := (-1)) dd_ra_dropAssignment_21 (by decide) ?_
  refine aw_ixor dd_ra_dropAssignment_22 ?_
  refine aw_iand dd_ra_dropAssignment_23 ?_
  refine aw_top (nI_clr _ (by omega)) ?_
  refine aw_isN _ (j) dd_ra_dropAssignment_24 rfl (by omega) (by decide) ?_
  refine aw_h (hs_ka3 G _ _ _ _ _ _) ?_
  refine aw_iconst (v := (nI 0)) dd_ra_dropAssignment_25 (by decide) ?_
  refine aw_istore (lv' := [(4, _), (3, _), (0, _), (1, _), (2, _)]) dd_ra_dropAssignment_26 (by decide) rfl ?_
  rw [show hp_f G (kk_a κ 3 j (nI (bt_c (ga_a A j) k))) μ o rest = hp_f G (((kk_a κ 3 j (nI (bt_c (ga_a A j) k)))).1, va_up ((kk_a κ 3 j (nI (bt_c (ga_a A j) k)))).2.1 6 (((kk_a κ 3 j (nI (bt_c (ga_a A j) k)))).2.1 6), ((kk_a κ 3 j (nI (bt_c (ga_a A j) k)))).2.2) μ o rest by rw [kw_0]]
  refine wl_ra_drop G κ μ o rest hR hj hk 4 0 rfl _ (fun s hs => ?_)
  rw [if_neg (Nat.not_lt_zero s)]
  exact (hSs.1 s hs).2
theorem wc_ra_remove (G : ag_T) (κ : ck_T) (μ : cm_T) (o : Nat → Int64) (rest : List va_E) {A : aa_T} (hR : rk_R G κ rest A) (x y : Int32) : aw_w G mm_ra_remove 7 114 1 6 0 (lv_args 0 [.ref (G.1 + 0), .int x, .int y]) [] (hp_f G κ μ o rest) (qc_R G μ o [8] (ab_remove A x y)) := by
  obtain ⟨hC, hGr, hU, hSL, hDL, hRu, hSs, hDD⟩ := id hR; have hn6 := hC.2.1; have hu5 := hU.2.1
  refine aw_aload_n dd_ra_remove_0 rfl 0 rfl ?_
  refine aw_iload_n dd_ra_remove_1 rfl 1 rfl ?_
  rcases bl_c (rb_i (ga_u A) x) with h1 | h1
  · refine aw_cVx mm_ra_checkUser 0 0 _ 0 [_] _ (wc_ra_checkUserF G κ μ o rest (by omega) hU.1 h1) dd_ra_remove_2 cv_ra_143 my_ra_checkUser np_ra_checkUser rfl rfl rfl (by decide) rfl rfl (Nat.le_of_ble_eq_true rfl) (Nat.le_of_ble_eq_true rfl) (fun k9 => ?_)
    rw [ab_remove, if_pos (show (rb_i (ga_u A) x && rb_i (ga_n A) y) = false by rw [h1]; rfl)]
    exact aw_out (fun _ h9 => nomatch h9) ⟨_, _, rfl, hR.app _, Or.inr ⟨0, 8, rfl, rfl, rfl⟩⟩
  · refine aw_cVv mm_ra_checkUser 1 6 _ 0 [_] _ (wc_ra_checkUserT G κ μ o rest (by omega) hU.1 h1) dd_ra_remove_2 cv_ra_143 my_ra_checkUser np_ra_checkUser rfl rfl rfl (by decide) rfl rfl (Nat.le_of_ble_eq_true rfl) (Nat.le_of_ble_eq_true rfl) ?_
    refine aw_aload_n dd_ra_remove_5 rfl 0 rfl ?_
    refine aw_iload_n dd_ra_remove_6 rfl 2 rfl ?_
    rcases bl_c (rb_i (ga_n A) y) with h2 | h2
    · refine aw_cVx mm_ra_checkRole 0 0 _ 0 [_] _ (wc_ra_checkRoleF G κ μ o rest (by omega) hC.1 h2) dd_ra_remove_7 cv_ra_60 my_ra_checkRole np_ra_checkRole rfl rfl rfl (by decide) rfl rfl (Nat.le_of_ble_eq_true rfl) (Nat.le_of_ble_eq_true rfl) (fun k9 => ?_)
      rw [ab_remove, if_pos (show (rb_i (ga_u A) x && rb_i (ga_n A) y) = false by rw [h1, h2]; rfl)]
      exact aw_out (fun _ h9 => nomatch h9) ⟨_, _, rfl, hR.app _, Or.inr ⟨0, 8, rfl, rfl, rfl⟩⟩
    · rw [ab_remove, if_neg (show ¬ (rb_i (ga_u A) x && rb_i (ga_n A) y) = false by rw [h1, h2]; decide)]
      obtain ⟨j, hj, rfl⟩ := rb_n (by omega) h1
      obtain ⟨k, hk, rfl⟩ := rb_n (by omega) h2
      rw [iN_n (by omega), iN_n (by omega)]
      refine aw_cVv mm_ra_checkRole 1 6 _ 0 [_] _ (wc_ra_checkRoleT G κ μ o rest (by omega) hC.1 h2) dd_ra_remove_7 cv_ra_60 my_ra_checkRole np_ra_checkRole rfl rfl rfl (by decide) rfl rfl (Nat.le_of_ble_eq_true rfl) (Nat.le_of_ble_eq_true rfl) ?_
      refine aw_aload_n dd_ra_remove_10 rfl 0 rfl ?_
      refine aw_iload_n dd_ra_remove_11 rfl 1 rfl ?_
      refine aw_iload_n dd_ra_remove_12 rfl 2 rfl ?_
      refine aw_cVe mm_ra_dropAssignment 1 6 _ 0 [_, _] _ (wc_ra_dropAssignment G κ μ o rest hR hj hk) dd_ra_remove_13 cv_ra_149 my_ra_dropAssignment np_ra_dropAssignment rfl rfl rfl (by decide) rfl rfl (Nat.le_of_ble_eq_true rfl) (Nat.le_of_ble_eq_true rfl) (fun w9 h9 hq => ?_)
      obtain ⟨rfl, κ', rfl, hR'⟩ := hq
      exact aw_zret dd_ra_remove_16 rfl (zb_01 _) ⟨_, _, rfl, hR', Or.inl ⟨rfl, rfl⟩⟩
theorem wc_ra_checkLeaveT (G : ag_T) (κ : ck_T) (μ : cm_T) (o : Nat → Int64) (rest : List va_E) {A : aa_T} (hR : rk_R G κ rest A) (g : Bool) {i j k : Nat} (hi : i < ga_u A) (hj : j < ga_u A) (hk : k < ga_n A) (hp : pr_l (ga_r A) g (ga_l A (ga_a A i)) (ga_l A (ga_a A j)) k = true) : aw_w G mm_ra_checkLeave 6 93 0 0 0 (lv_args 0 [.ref (G.1 + 0), .int (zb_i g), .int (nI i), .int (nI j), .int (nI k)]) [] (hp_f G κ μ o rest) (q_v (hp_f G κ μ o rest)) := by
  obtain ⟨hC, hGr, hU, hSL, hDL, hRu, hSs, hDD⟩ := id hR; have hn6 := hC.2.1; have hu5 := hU.2.1
  refine aw_aload_n dd_ra_checkLeave_0 rfl 0 rfl ?_
  refine aw_getf _ 0 0 dd_ra_checkLeave_1 fl_ra_12 rfl rfl ?_
  refine aw_iload_n dd_ra_checkLeave_4 rfl 1 rfl ?_
  refine aw_aload_n dd_ra_checkLeave_5 rfl 0 rfl ?_
  refine aw_iload_n dd_ra_checkLeave_6 rfl 2 rfl ?_
  refine aw_cVi mm_ra_authorizedRoles 0 0 _ 0 [_] _ (wc_ra_authorizedRoles G κ μ o rest hC hU (by omega)) dd_ra_checkLeave_7 cv_ra_73 my_ra_authorizedRoles np_ra_authorizedRoles rfl rfl rfl (by decide) rfl rfl (Nat.le_of_ble_eq_true rfl) (Nat.le_of_ble_eq_true rfl) ?_
  refine aw_aload_n dd_ra_checkLeave_10 rfl 0 rfl ?_
  refine aw_iload_n dd_ra_checkLeave_11 rfl 3 rfl ?_
  refine aw_cVi mm_ra_authorizedRoles 0 0 _ 0 [_] _ (wc_ra_authorizedRoles G κ μ o rest hC hU (by omega)) dd_ra_checkLeave_12 cv_ra_73 my_ra_authorizedRoles np_ra_authorizedRoles rfl rfl rfl (by decide) rfl rfl (Nat.le_of_ble_eq_true rfl) (Nat.le_of_ble_eq_true rfl) ?_
  refine aw_iload dd_ra_checkLeave_15 4 rfl ?_
  refine aw_cVi mm_po_isAllowed 0 0 _ 1 [_, _, _, _] _ (wc_po_isAllowed G κ μ o rest hRu g (pc_64 hC.2.2.2 (hU.2.2.2 i) _) (pc_64 hC.2.2.2 (hU.2.2.2 j) _) (by omega)) dd_ra_checkLeave_17 cv_ra_213 my_po_isAllowed np_po_isAllowed rfl rfl rfl (by decide) rfl rfl (Nat.le_of_ble_eq_true rfl) (Nat.le_of_ble_eq_true rfl) ?_
  refine aw_if_ne (tgt := 33) dd_ra_checkLeave_20 (by decide) (fun _ => ?_) (fun h9 => absurd h9 (by rw [hp]; decide))
  exact aw_vret dd_ra_checkLeave_33 rfl ⟨rfl, rfl⟩
theorem wc_ra_checkLeaveF (G : ag_T) (κ : ck_T) (μ : cm_T) (o : Nat → Int64) (rest : List va_E) {A : aa_T} (hR : rk_R G κ rest A) (g : Bool) {i j k : Nat} (hi : i < ga_u A) (hj : j < ga_u A) (hk : k < ga_n A) (hp : pr_l (ga_r A) g (ga_l A (ga_a A i)) (ga_l A (ga_a A j)) k = false) : aw_w G mm_ra_checkLeave 6 93 1 6 0 (lv_args 0 [.ref (G.1 + 0), .int (zb_i g), .int (nI i), .int (nI j), .int (nI k)]) [] (hp_f G κ μ o rest) (q_x 10 (hp_f G κ μ o (rest ++ [.inr (10, [])]))) := by
  obtain ⟨hC, hGr, hU, hSL, hDL, hRu, hSs, hDD⟩ := id hR; have hn6 := hC.2.1; have hu5 := hU.2.1
  refine aw_aload_n dd_ra_checkLeave_0 rfl 0 rfl ?_
  refine aw_getf _ 0 0 dd_ra_checkLeave_1 fl_ra_12 rfl rfl ?_
  refine aw_iload_n dd_ra_checkLeave_4 rfl 1 rfl ?_
  refine aw_aload_n dd_ra_checkLeave_5 rfl 0 rfl ?_
  refine aw_iload_n dd_ra_checkLeave_6 rfl 2 rfl ?_
  refine aw_cVi mm_ra_authorizedRoles 1 6 _ 0 [_] _ (wc_ra_authorizedRoles G κ μ o rest hC hU (by omega)) dd_ra_checkLeave_7 cv_ra_73 my_ra_authorizedRoles np_ra_authorizedRoles rfl rfl rfl (by decide) rfl rfl (Nat.le_of_ble_eq_true rfl) (Nat.le_of_ble_eq_true rfl) ?_
  refine aw_aload_n dd_ra_checkLeave_10 rfl 0 rfl ?_
  refine aw_iload_n dd_ra_checkLeave_11 rfl 3 rfl ?_
  refine aw_cVi mm_ra_authorizedRoles 1 6 _ 0 [_] _ (wc_ra_authorizedRoles G κ μ o rest hC hU (by omega)) dd_ra_checkLeave_12 cv_ra_73 my_ra_authorizedRoles np_ra_authorizedRoles rfl rfl rfl (by decide) rfl rfl (Nat.le_of_ble_eq_true rfl) (Nat.le_of_ble_eq_true rfl) ?_
  refine aw_iload dd_ra_checkLeave_15 4 rfl ?_
  refine aw_cVi mm_po_isAllowed 1 6 _ 1 [_, _, _, _] _ (wc_po_isAllowed G κ μ o rest hRu g (pc_64 hC.2.2.2 (hU.2.2.2 i) _) (pc_64 hC.2.2.2 (hU.2.2.2 j) _) (by omega)) dd_ra_checkLeave_17 cv_ra_213 my_po_isAllowed np_po_isAllowed rfl rfl rfl (by decide) rfl rfl (Nat.le_of_ble_eq_true rfl) (Nat.le_of_ble_eq_true rfl) ?_
  refine aw_if_ne (tgt := 33) dd_ra_checkLeave_20 (by decide) (fun h9 => absurd (by rw [hp]; rfl) h9) (fun _ => ?_)
  exact aw_throw 10 th_ra_161_217 dd_ra_checkLeave_23 dd_ra_checkLeave_26 dd_ra_checkLeave_27 dd_ra_checkLeave_29 dd_ra_checkLeave_32 (fun _ h9 => nomatch h9) (Nat.le_of_ble_eq_true rfl) (Nat.le_of_ble_eq_true rfl) (by decide) (by decide) ⟨rfl, rfl⟩
theorem wc_ra_give (G : ag_T) (κ : ck_T) (μ : cm_T) (o : Nat → Int64) (rest : List va_E) {A : aa_T} (hR : rk_R G κ rest A) (x y z : Int32) : aw_w G mm_ra_give 8 138 1 6 0 (lv_args 0 [.ref (G.1 + 0), .int x, .int y, .int z]) [] (hp_f G κ μ o rest) (qc_R G μ o [8, 10, 7] (ab_give A x y z)) := by
  obtain ⟨hC, hGr, hU, hSL, hDL, hRu, hSs, hDD⟩ := id hR; have hn6 := hC.2.1; have hu5 := hU.2.1
  refine aw_aload_n dd_ra_give_0 rfl 0 rfl ?_
  refine aw_iload_n dd_ra_give_1 rfl 1 rfl ?_
  rcases bl_c (rb_i (ga_u A) x) with h1 | h1
  · refine aw_cVx mm_ra_checkUser 0 0 _ 0 [_] _ (wc_ra_checkUserF G κ μ o rest (by omega) hU.1 h1) dd_ra_give_2 cv_ra_143 my_ra_checkUser np_ra_checkUser rfl rfl rfl (by decide) rfl rfl (Nat.le_of_ble_eq_true rfl) (Nat.le_of_ble_eq_true rfl) (fun k9 => ?_)
    rw [ab_give, if_pos (show (rb_i (ga_u A) x && rb_i (ga_u A) y && rb_i (ga_n A) z) = false by rw [h1]; rfl)]
    exact aw_out (fun _ h9 => nomatch h9) ⟨_, _, rfl, hR.app _, Or.inr ⟨0, 8, rfl, rfl, rfl⟩⟩
  · refine aw_cVv mm_ra_checkUser 1 6 _ 0 [_] _ (wc_ra_checkUserT G κ μ o rest (by omega) hU.1 h1) dd_ra_give_2 cv_ra_143 my_ra_checkUser np_ra_checkUser rfl rfl rfl (by decide) rfl rfl (Nat.le_of_ble_eq_true rfl) (Nat.le_of_ble_eq_true rfl) ?_
    refine aw_aload_n dd_ra_give_5 rfl 0 rfl ?_
    refine aw_iload_n dd_ra_give_6 rfl 2 rfl ?_
    rcases bl_c (rb_i (ga_u A) y) with h2 | h2
    · refine aw_cVx mm_ra_checkUser 0 0 _ 0 [_] _ (wc_ra_checkUserF G κ μ o rest (by omega) hU.1 h2) dd_ra_give_7 cv_ra_143 my_ra_checkUser np_ra_checkUser rfl rfl rfl (by decide) rfl rfl (Nat.le_of_ble_eq_true rfl) (Nat.le_of_ble_eq_true rfl) (fun k9 => ?_)
      rw [ab_give, if_pos (show (rb_i (ga_u A) x && rb_i (ga_u A) y && rb_i (ga_n A) z) = false by rw [h1, h2]; rfl)]
      exact aw_out (fun _ h9 => nomatch h9) ⟨_, _, rfl, hR.app _, Or.inr ⟨0, 8, rfl, rfl, rfl⟩⟩
    · refine aw_cVv mm_ra_checkUser 1 6 _ 0 [_] _ (wc_ra_checkUserT G κ μ o rest (by omega) hU.1 h2) dd_ra_give_7 cv_ra_143 my_ra_checkUser np_ra_checkUser rfl rfl rfl (by decide) rfl rfl (Nat.le_of_ble_eq_true rfl) (Nat.le_of_ble_eq_true rfl) ?_
      refine aw_aload_n dd_ra_give_10 rfl 0 rfl ?_
      refine aw_iload_n dd_ra_give_11 rfl 3 rfl ?_
      rcases bl_c (rb_i (ga_n A) z) with h3 | h3
      · refine aw_cVx mm_ra_checkRole 0 0 _ 0 [_] _ (wc_ra_checkRoleF G κ μ o rest (by omega) hC.1 h3) dd_ra_give_12 cv_ra_60 my_ra_checkRole np_ra_checkRole rfl rfl rfl (by decide) rfl rfl (Nat.le_of_ble_eq_true rfl) (Nat.le_of_ble_eq_true rfl) (fun k9 => ?_)
        rw [ab_give, if_pos (show (rb_i (ga_u A) x && rb_i (ga_u A) y && rb_i (ga_n A) z) = false by rw [h1, h2, h3]; rfl)]
        exact aw_out (fun _ h9 => nomatch h9) ⟨_, _, rfl, hR.app _, Or.inr ⟨0, 8, rfl, rfl, rfl⟩⟩
      · rw [ab_give, if_neg (show ¬ (rb_i (ga_u A) x && rb_i (ga_u A) y && rb_i (ga_n A) z) = false by rw [h1, h2, h3]; decide)]
        obtain ⟨i, hi, rfl⟩ := rb_n (by omega) h1
        obtain ⟨j, hj, rfl⟩ := rb_n (by omega) h2
        obtain ⟨k, hk, rfl⟩ := rb_n (by omega) h3
        rw [iN_n (by omega), iN_n (by omega), iN_n (by omega)]
        refine aw_cVv mm_ra_checkRole 1 6 _ 0 [_] _ (wc_ra_checkRoleT G κ μ o rest (by omega) hC.1 h3) dd_ra_give_12 cv_ra_60 my_ra_checkRole np_ra_checkRole rfl rfl rfl (by decide) rfl rfl (Nat.le_of_ble_eq_true rfl) (Nat.le_of_ble_eq_true rfl) ?_
        refine aw_aload_n dd_ra_give_15 rfl 0 rfl ?_
        refine aw_iconst (v := (zb_i true)) dd_ra_give_16 (by decide) ?_
        refine aw_iload_n dd_ra_give_17 rfl 1 rfl ?_
        refine aw_iload_n dd_ra_give_18 rfl 2 rfl ?_
        refine aw_iload_n dd_ra_give_19 rfl 3 rfl ?_
        rcases bl_c (pr_l (ga_r A) true (ga_l A (ga_a A i)) (ga_l A (ga_a A j)) k) with h4 | h4
        · rw [if_pos h4]
          refine aw_cVx mm_ra_checkLeave 0 0 _ 0 [_, _, _, _] _ (wc_ra_checkLeaveF G κ μ o rest hR true hi hj hk h4) dd_ra_give_20 cv_ra_152 my_ra_checkLeave np_ra_checkLeave rfl rfl rfl (by decide) rfl rfl (Nat.le_of_ble_eq_true rfl) (Nat.le_of_ble_eq_true rfl) (fun k9 => ?_)
          exact aw_out (fun _ h9 => nomatch h9) ⟨_, _, rfl, hR.app _, Or.inr ⟨1, 10, rfl, rfl, rfl⟩⟩
        · rw [if_neg (bt_ne h4)]
          refine aw_cVv mm_ra_checkLeave 1 6 _ 0 [_, _, _, _] _ (wc_ra_checkLeaveT G κ μ o rest hR true hi hj hk h4) dd_ra_give_20 cv_ra_152 my_ra_checkLeave np_ra_checkLeave rfl rfl rfl (by decide) rfl rfl (Nat.le_of_ble_eq_true rfl) (Nat.le_of_ble_eq_true rfl) ?_
          refine aw_aload_n dd_ra_give_23 rfl 0 rfl ?_
          refine aw_iload_n dd_ra_give_24 rfl 2 rfl ?_
          refine aw_iload_n dd_ra_give_25 rfl 3 rfl ?_
          rcases bl_c (pk_l (ga_s A) (ga_l A (ga_a A j ||| 1 <<< k))) with hp | hp
          · rw [ab_put, if_pos hp]
            refine aw_cVx mm_ra_addAssignment 0 0 _ 0 [_, _] _ (wc_ra_addAssignmentF G κ μ o rest hR hj hk hp) dd_ra_give_26 cv_ra_146 my_ra_addAssignment np_ra_addAssignment rfl rfl rfl (by decide) rfl rfl (Nat.le_of_ble_eq_true rfl) (Nat.le_of_ble_eq_true rfl) (fun k9 => ?_)
            exact aw_out (fun _ h9 => nomatch h9) ⟨_, _, rfl, hR.app _, Or.inr ⟨2, 7, rfl, rfl, rfl⟩⟩
          · rw [ab_put, if_neg (bt_ne hp)]
            refine aw_cVi mm_ra_addAssignment 1 6 _ 0 [_, _] _ (wc_ra_addAssignmentT G κ μ o rest hR hj hk hp) dd_ra_give_26 cv_ra_146 my_ra_addAssignment np_ra_addAssignment rfl rfl rfl (by decide) rfl rfl (Nat.le_of_ble_eq_true rfl) (Nat.le_of_ble_eq_true rfl) ?_
            exact aw_zret dd_ra_give_29 rfl (zb_01 _) ⟨_, _, rfl, ⟨hC, hGr, ⟨hU.1, hU.2.1, up_e hU.2.2.1, up_b hU.2.2.2 (bt_or (n := 6) (hU.2.2.2 j) (bt_1 (by omega)))⟩, hSL, hDL, hRu, hSs, hDD⟩, Or.inl ⟨rfl, rfl⟩⟩
theorem wc_ra_take (G : ag_T) (κ : ck_T) (μ : cm_T) (o : Nat → Int64) (rest : List va_E) {A : aa_T} (hR : rk_R G κ rest A) (x y z : Int32) : aw_w G mm_ra_take 7 117 1 6 0 (lv_args 0 [.ref (G.1 + 0), .int x, .int y, .int z]) [] (hp_f G κ μ o rest) (qc_R G μ o [8, 10] (ab_take A x y z)) := by
  obtain ⟨hC, hGr, hU, hSL, hDL, hRu, hSs, hDD⟩ := id hR; have hn6 := hC.2.1; have hu5 := hU.2.1
  refine aw_aload_n dd_ra_take_0 rfl 0 rfl ?_
  refine aw_iload_n dd_ra_take_1 rfl 1 rfl ?_
  rcases bl_c (rb_i (ga_u A) x) with h1 | h1
  · refine aw_cVx mm_ra_checkUser 0 0 _ 0 [_] _ (wc_ra_checkUserF G κ μ o rest (by omega) hU.1 h1) dd_ra_take_2 cv_ra_143 my_ra_checkUser np_ra_checkUser rfl rfl rfl (by decide) rfl rfl (Nat.le_of_ble_eq_true rfl) (Nat.le_of_ble_eq_true rfl) (fun k9 => ?_)
    rw [ab_take, if_pos (show (rb_i (ga_u A) x && rb_i (ga_u A) y && rb_i (ga_n A) z) = false by rw [h1]; rfl)]
    exact aw_out (fun _ h9 => nomatch h9) ⟨_, _, rfl, hR.app _, Or.inr ⟨0, 8, rfl, rfl, rfl⟩⟩
  · refine aw_cVv mm_ra_checkUser 1 6 _ 0 [_] _ (wc_ra_checkUserT G κ μ o rest (by omega) hU.1 h1) dd_ra_take_2 cv_ra_143 my_ra_checkUser np_ra_checkUser rfl rfl rfl (by decide) rfl rfl (Nat.le_of_ble_eq_true rfl) (Nat.le_of_ble_eq_true rfl) ?_
    refine aw_aload_n dd_ra_take_5 rfl 0 rfl ?_
    refine aw_iload_n dd_ra_take_6 rfl 2 rfl ?_
    rcases bl_c (rb_i (ga_u A) y) with h2 | h2
    · refine aw_cVx mm_ra_checkUser 0 0 _ 0 [_] _ (wc_ra_checkUserF G κ μ o rest (by omega) hU.1 h2) dd_ra_take_7 cv_ra_143 my_ra_checkUser np_ra_checkUser rfl rfl rfl (by decide) rfl rfl (Nat.le_of_ble_eq_true rfl) (Nat.le_of_ble_eq_true rfl) (fun k9 => ?_)
      rw [ab_take, if_pos (show (rb_i (ga_u A) x && rb_i (ga_u A) y && rb_i (ga_n A) z) = false by rw [h1, h2]; rfl)]
      exact aw_out (fun _ h9 => nomatch h9) ⟨_, _, rfl, hR.app _, Or.inr ⟨0, 8, rfl, rfl, rfl⟩⟩
    · refine aw_cVv mm_ra_checkUser 1 6 _ 0 [_] _ (wc_ra_checkUserT G κ μ o rest (by omega) hU.1 h2) dd_ra_take_7 cv_ra_143 my_ra_checkUser np_ra_checkUser rfl rfl rfl (by decide) rfl rfl (Nat.le_of_ble_eq_true rfl) (Nat.le_of_ble_eq_true rfl) ?_
      refine aw_aload_n dd_ra_take_10 rfl 0 rfl ?_
      refine aw_iload_n dd_ra_take_11 rfl 3 rfl ?_
      rcases bl_c (rb_i (ga_n A) z) with h3 | h3
      · refine aw_cVx mm_ra_checkRole 0 0 _ 0 [_] _ (wc_ra_checkRoleF G κ μ o rest (by omega) hC.1 h3) dd_ra_take_12 cv_ra_60 my_ra_checkRole np_ra_checkRole rfl rfl rfl (by decide) rfl rfl (Nat.le_of_ble_eq_true rfl) (Nat.le_of_ble_eq_true rfl) (fun k9 => ?_)
        rw [ab_take, if_pos (show (rb_i (ga_u A) x && rb_i (ga_u A) y && rb_i (ga_n A) z) = false by rw [h1, h2, h3]; rfl)]
        exact aw_out (fun _ h9 => nomatch h9) ⟨_, _, rfl, hR.app _, Or.inr ⟨0, 8, rfl, rfl, rfl⟩⟩
      · rw [ab_take, if_neg (show ¬ (rb_i (ga_u A) x && rb_i (ga_u A) y && rb_i (ga_n A) z) = false by rw [h1, h2, h3]; decide)]
        obtain ⟨i, hi, rfl⟩ := rb_n (by omega) h1
        obtain ⟨j, hj, rfl⟩ := rb_n (by omega) h2
        obtain ⟨k, hk, rfl⟩ := rb_n (by omega) h3
        rw [iN_n (by omega), iN_n (by omega), iN_n (by omega)]
        refine aw_cVv mm_ra_checkRole 1 6 _ 0 [_] _ (wc_ra_checkRoleT G κ μ o rest (by omega) hC.1 h3) dd_ra_take_12 cv_ra_60 my_ra_checkRole np_ra_checkRole rfl rfl rfl (by decide) rfl rfl (Nat.le_of_ble_eq_true rfl) (Nat.le_of_ble_eq_true rfl) ?_
        refine aw_aload_n dd_ra_take_15 rfl 0 rfl ?_
        refine aw_iconst (v := (zb_i false)) dd_ra_take_16 (by decide) ?_
        refine aw_iload_n dd_ra_take_17 rfl 1 rfl ?_
        refine aw_iload_n dd_ra_take_18 rfl 2 rfl ?_
        refine aw_iload_n dd_ra_take_19 rfl 3 rfl ?_
        rcases bl_c (pr_l (ga_r A) false (ga_l A (ga_a A i)) (ga_l A (ga_a A j)) k) with h4 | h4
        · rw [if_pos h4]
          refine aw_cVx mm_ra_checkLeave 0 0 _ 0 [_, _, _, _] _ (wc_ra_checkLeaveF G κ μ o rest hR false hi hj hk h4) dd_ra_take_20 cv_ra_152 my_ra_checkLeave np_ra_checkLeave rfl rfl rfl (by decide) rfl rfl (Nat.le_of_ble_eq_true rfl) (Nat.le_of_ble_eq_true rfl) (fun k9 => ?_)
          exact aw_out (fun _ h9 => nomatch h9) ⟨_, _, rfl, hR.app _, Or.inr ⟨1, 10, rfl, rfl, rfl⟩⟩
        · rw [if_neg (bt_ne h4)]
          refine aw_cVv mm_ra_checkLeave 1 6 _ 0 [_, _, _, _] _ (wc_ra_checkLeaveT G κ μ o rest hR false hi hj hk h4) dd_ra_take_20 cv_ra_152 my_ra_checkLeave np_ra_checkLeave rfl rfl rfl (by decide) rfl rfl (Nat.le_of_ble_eq_true rfl) (Nat.le_of_ble_eq_true rfl) ?_
          refine aw_aload_n dd_ra_take_23 rfl 0 rfl ?_
          refine aw_iload_n dd_ra_take_24 rfl 2 rfl ?_
          refine aw_iload_n dd_ra_take_25 rfl 3 rfl ?_
          refine aw_cVe mm_ra_dropAssignment 1 6 _ 0 [_, _] _ (wc_ra_dropAssignment G κ μ o rest hR hj hk) dd_ra_take_26 cv_ra_149 my_ra_dropAssignment np_ra_dropAssignment rfl rfl rfl (by decide) rfl rfl (Nat.le_of_ble_eq_true rfl) (Nat.le_of_ble_eq_true rfl) (fun w9 h9 hq => ?_)
          obtain ⟨rfl, κ', rfl, hR'⟩ := hq
          exact aw_zret dd_ra_take_29 rfl (zb_01 _) ⟨_, _, rfl, hR', Or.inl ⟨rfl, rfl⟩⟩
theorem wc_ra_checkRoomForRuleT (G : ag_T) (κ : ck_T) (μ : cm_T) (o : Nat → Int64) (rest : List va_E) {rs : pr_T} (hRu : rk_U G κ rest rs) (h8 : rs.length < 8) : aw_w G mm_ra_checkRoomForRule 6 93 0 0 0 (lv_args 0 [.ref (G.1 + 0)]) [] (hp_f G κ μ o rest) (q_v (hp_f G κ μ o rest)) := by
  have hsz : κ.1 9 = nI rs.length := by obtain ⟨ps, -, h2, -⟩ := hRu.1; exact h2
  have hl8 : rs.length ≤ 8 := by obtain ⟨ps, -, -, h2, -⟩ := hRu.1; exact h2
  refine aw_aload_n dd_ra_checkRoomForRule_0 rfl 0 rfl ?_
  refine aw_getf _ 0 0 dd_ra_checkRoomForRule_1 fl_ra_12 rfl rfl ?_
  refine aw_getf _ 1 4 dd_ra_checkRoomForRule_4 fl_ra_206 rfl rfl ?_
  refine aw_cVi mm_al_size 0 0 _ 6 [] _ (wc_al_size2 G κ μ o rest) dd_ra_checkRoomForRule_7 cv_ra_106 my_al_size np_al_size rfl rfl rfl (by decide) rfl rfl (Nat.le_of_ble_eq_true rfl) (Nat.le_of_ble_eq_true rfl) ?_
  refine aw_top hsz ?_
  refine aw_bipush (v := (nI 8)) dd_ra_checkRoomForRule_10 (by decide) ?_
  refine aw_icmp_lt (tgt := 25) dd_ra_checkRoomForRule_12 (by decide) (fun _ => ?_) (fun h9 => absurd (nI_lt h8 (by decide)) h9)
  exact aw_vret dd_ra_checkRoomForRule_25 rfl ⟨rfl, rfl⟩
theorem wc_ra_checkRoomForRuleF (G : ag_T) (κ : ck_T) (μ : cm_T) (o : Nat → Int64) (rest : List va_E) {rs : pr_T} (hRu : rk_U G κ rest rs) (h8 : ¬ rs.length < 8) : aw_w G mm_ra_checkRoomForRule 6 93 1 6 0 (lv_args 0 [.ref (G.1 + 0)]) [] (hp_f G κ μ o rest) (q_x 7 (hp_f G κ μ o (rest ++ [.inr (7, [])]))) := by
  have hsz : κ.1 9 = nI rs.length := by obtain ⟨ps, -, h2, -⟩ := hRu.1; exact h2
  have hl8 : rs.length ≤ 8 := by obtain ⟨ps, -, -, h2, -⟩ := hRu.1; exact h2
  refine aw_aload_n dd_ra_checkRoomForRule_0 rfl 0 rfl ?_
  refine aw_getf _ 0 0 dd_ra_checkRoomForRule_1 fl_ra_12 rfl rfl ?_
  refine aw_getf _ 1 4 dd_ra_checkRoomForRule_4 fl_ra_206 rfl rfl ?_
  refine aw_cVi mm_al_size 1 6 _ 6 [] _ (wc_al_size2 G κ μ o rest) dd_ra_checkRoomForRule_7 cv_ra_106 my_al_size np_al_size rfl rfl rfl (by decide) rfl rfl (Nat.le_of_ble_eq_true rfl) (Nat.le_of_ble_eq_true rfl) ?_
  refine aw_top hsz ?_
  refine aw_bipush (v := (nI 8)) dd_ra_checkRoomForRule_10 (by decide) ?_
  refine aw_icmp_lt (tgt := 25) dd_ra_checkRoomForRule_12 (by decide) (fun h9 => absurd h9 (nI_nlt (by omega) (by omega))) (fun _ => ?_)
  exact aw_throw 7 th_ra_48_209 dd_ra_checkRoomForRule_15 dd_ra_checkRoomForRule_18 dd_ra_checkRoomForRule_19 dd_ra_checkRoomForRule_21 dd_ra_checkRoomForRule_24 (fun _ h9 => nomatch h9) (Nat.le_of_ble_eq_true rfl) (Nat.le_of_ble_eq_true rfl) (by decide) (by decide) ⟨rfl, rfl⟩
theorem cc_s {l : List va_E} {x y : va_E} : (l ++ [x]).set l.length y = l ++ [y] := by
  rw [List.set_append_right _ _ (Nat.le_refl _), Nat.sub_self]; rfl
theorem cc_g {l : List va_E} {x : va_E} : (l ++ [x])[l.length]? = some x := List.getElem?_concat_length
theorem wc_ru_init (G : ag_T) (κ : ck_T) (μ : cm_T) (o : Nat → Int64) (rest : List va_E) (x : Bool × Nat × Nat × Nat × Nat) : aw_w G mm_ru_init 1 24 0 0 0 (lv_args 0 [.ref (G.1 + (rest.length + 33)), .int (zb_i x.1), .int (nI x.2.1), .int (nI x.2.2.1), .int (nI x.2.2.2.1), .int (nI x.2.2.2.2)]) [] (hp_f G κ μ o (rest ++ [.inr (4, [.int 0, .int 0, .int 0, .int 0, .int 0])])) (q_v (hp_f G κ μ o (rest ++ [ob_u x]))) := by
  refine aw_aload_n dd_ru_init_0 rfl 0 rfl ?_
  refine aw_obj dd_ru_init_1 ob_ru_1 (Nat.le_of_ble_eq_true rfl) (Nat.le_of_ble_eq_true rfl) ?_
  refine aw_aload_n dd_ru_init_4 rfl 0 rfl ?_
  refine aw_iload_n dd_ru_init_5 rfl 1 rfl ?_
  refine aw_putF _ 4 0 dd_ru_init_6 fl_ru_7 ff_ru_0 rfl cc_g (by cases x.1 <;> rfl) (by cases x.1 <;> rfl) (Nat.le_of_ble_eq_true rfl) ?_
  rw [hs_r, cc_s]
  refine aw_aload_n dd_ru_init_9 rfl 0 rfl ?_
  refine aw_iload_n dd_ru_init_10 rfl 2 rfl ?_
  refine aw_putF _ 4 1 dd_ru_init_11 fl_ru_13 ff_ru_1 rfl cc_g (rfl) (rfl) (Nat.le_of_ble_eq_true rfl) ?_
  rw [hs_r, cc_s]
  refine aw_aload_n dd_ru_init_14 rfl 0 rfl ?_
  refine aw_iload_n dd_ru_init_15 rfl 3 rfl ?_
  refine aw_putF _ 4 2 dd_ru_init_16 fl_ru_17 ff_ru_2 rfl cc_g (rfl) (rfl) (Nat.le_of_ble_eq_true rfl) ?_
  rw [hs_r, cc_s]
  refine aw_aload_n dd_ru_init_19 rfl 0 rfl ?_
  refine aw_iload dd_ru_init_20 4 rfl ?_
  refine aw_putF _ 4 3 dd_ru_init_22 fl_ru_20 ff_ru_3 rfl cc_g (rfl) (rfl) (Nat.le_of_ble_eq_true rfl) ?_
  rw [hs_r, cc_s]
  refine aw_aload_n dd_ru_init_25 rfl 0 rfl ?_
  refine aw_iload dd_ru_init_26 5 rfl ?_
  refine aw_putF _ 4 4 dd_ru_init_28 fl_ru_23 ff_ru_4 rfl cc_g (rfl) (rfl) (Nat.le_of_ble_eq_true rfl) ?_
  rw [hs_r, cc_s]
  exact aw_vret dd_ru_init_31 rfl ⟨rfl, rfl⟩
theorem wc_li_init (G : ag_T) (κ : ck_T) (μ : cm_T) (o : Nat → Int64) (rest : List va_E) (l : Nat × Int32) : aw_w G mm_li_init 1 24 0 0 0 (lv_args 0 [.ref (G.1 + (rest.length + 33)), .int (nI l.1), .int l.2]) [] (hp_f G κ μ o (rest ++ [.inr (3, [.int 0, .int 0])])) (q_v (hp_f G κ μ o (rest ++ [ob_l l]))) := by
  refine aw_aload_n dd_li_init_0 rfl 0 rfl ?_
  refine aw_obj dd_li_init_1 ob_li_1 (Nat.le_of_ble_eq_true rfl) (Nat.le_of_ble_eq_true rfl) ?_
  refine aw_aload_n dd_li_init_4 rfl 0 rfl ?_
  refine aw_iload_n dd_li_init_5 rfl 1 rfl ?_
  refine aw_putF _ 3 0 dd_li_init_6 fl_li_7 ff_li_0 rfl cc_g (rfl) (rfl) (Nat.le_of_ble_eq_true rfl) ?_
  rw [hs_r, cc_s]
  refine aw_aload_n dd_li_init_9 rfl 0 rfl ?_
  refine aw_iload_n dd_li_init_10 rfl 2 rfl ?_
  refine aw_putF _ 3 1 dd_li_init_11 fl_li_13 ff_li_1 rfl cc_g (rfl) (rfl) (Nat.le_of_ble_eq_true rfl) ?_
  rw [hs_r, cc_s]
  exact aw_vret dd_li_init_14 rfl ⟨rfl, rfl⟩
theorem wc_po_addRule (G : ag_T) (κ : ck_T) (μ : cm_T) (o : Nat → Int64) (rest : List va_E) {A : aa_T} (hR : rk_R G κ rest A) {x : Bool × Nat × Nat × Nat × Nat} (hx : x.2.1 < 6 ∧ x.2.2.1 < 64 ∧ x.2.2.2.1 < 64 ∧ x.2.2.2.2 < 6) (h8 : (ga_r A).length < 8) {p : Nat} (hp : rest[p]? = some (ob_u x)) : aw_w G mm_po_addRule 5 108 1 10 0 (lv_args 0 [.ref (G.1 + 1), .ref (G.1 + (p + 33))]) [] (hp_f G κ μ o rest) (qe_i fun w h' => w = nI (ga_r A).length ∧ ∃ κ' rest', h' = hp_f G κ' μ o rest' ∧ rk_R G κ' rest' (sa_r A (ga_r A ++ [x]))) := by
  obtain ⟨hC, hGr, hU, hSL, hDL, hRu, hSs, hDD⟩ := id hR; have hn6 := hC.2.1; have hu5 := hU.2.1
  refine aw_aload_n dd_po_addRule_0 rfl 0 rfl ?_
  refine aw_getf _ 1 4 dd_po_addRule_1 fl_po_25 rfl rfl ?_
  refine aw_aload_n dd_po_addRule_4 rfl 1 rfl ?_
  refine aw_cVe mm_al_add1 0 0 _ 6 [_] _ (wc_al_add2 G κ μ o rest hRu.1 h8 hp ky_ru) dd_po_addRule_5 cv_po_36 my_al_add1 np_al_add1 rfl rfl rfl (by decide) rfl rfl (Nat.le_of_ble_eq_true rfl) (Nat.le_of_ble_eq_true rfl) (fun w9 h9 hq => ?_)
  obtain ⟨κ', rest', rfl, hA⟩ := hq
  have hR' := ad_RU hR h8 hx hp hA
  have hsz' : κ'.1 9 = nI ((ga_r A).length + 1) := hA.2.2.2.1
  refine aw_pop dd_po_addRule_8 rfl ?_
  refine aw_aload_n dd_po_addRule_9 rfl 0 rfl ?_
  refine aw_getf _ 1 4 dd_po_addRule_10 fl_po_25 rfl rfl ?_
  refine aw_cVi mm_al_size 0 0 _ 6 [] _ (wc_al_size2 G κ' μ o rest') dd_po_addRule_13 cv_po_40 my_al_size np_al_size rfl rfl rfl (by decide) rfl rfl (Nat.le_of_ble_eq_true rfl) (Nat.le_of_ble_eq_true rfl) ?_
  refine aw_top hsz' ?_
  refine aw_iconst (v := (nI 1)) dd_po_addRule_16 (by decide) ?_
  refine aw_isub dd_po_addRule_17 ?_
  refine aw_top (nI_sub (by omega)) ?_
  rw [Nat.add_sub_cancel]
  exact aw_iret dd_po_addRule_18 rfl ⟨_, rfl, rfl, κ', rest', rfl, hR'⟩
theorem wc_ra_giveRule (G : ag_T) (κ : ck_T) (μ : cm_T) (o : Nat → Int64) (rest : List va_E) {A : aa_T} (hR : rk_R G κ rest A) (x y z w : Int32) : aw_w G mm_ra_giveRule 7 129 2 15 0 (lv_args 0 [.ref (G.1 + 0), .int x, .int y, .int z, .int w]) [] (hp_f G κ μ o rest) (qc_R G μ o [8, 9, 7] (ab_giveRule A x y z w)) := by
  obtain ⟨hC, hGr, hU, hSL, hDL, hRu, hSs, hDD⟩ := id hR; have hn6 := hC.2.1; have hu5 := hU.2.1
  refine aw_aload_n dd_ra_giveRule_0 rfl 0 rfl ?_
  refine aw_iload_n dd_ra_giveRule_1 rfl 1 rfl ?_
  rcases bl_c (rb_i (ga_n A) x) with h1 | h1
  · refine aw_cVx mm_ra_checkRole 1 9 _ 0 [_] _ (wc_ra_checkRoleF G κ μ o rest (by omega) hC.1 h1) dd_ra_giveRule_2 cv_ra_60 my_ra_checkRole np_ra_checkRole rfl rfl rfl (by decide) rfl rfl (Nat.le_of_ble_eq_true rfl) (Nat.le_of_ble_eq_true rfl) (fun k9 => ?_)
    rw [ab_giveRule, if_pos (show (rb_i (ga_n A) x && rb_i (ga_n A) w) = false by rw [h1]; rfl)]
    exact aw_out (fun _ h9 => nomatch h9) ⟨_, _, rfl, hR.app _, Or.inr ⟨0, 8, rfl, rfl, rfl⟩⟩
  · refine aw_cVv mm_ra_checkRole 2 15 _ 0 [_] _ (wc_ra_checkRoleT G κ μ o rest (by omega) hC.1 h1) dd_ra_giveRule_2 cv_ra_60 my_ra_checkRole np_ra_checkRole rfl rfl rfl (by decide) rfl rfl (Nat.le_of_ble_eq_true rfl) (Nat.le_of_ble_eq_true rfl) ?_
    refine aw_aload_n dd_ra_giveRule_5 rfl 0 rfl ?_
    refine aw_iload dd_ra_giveRule_6 4 rfl ?_
    rcases bl_c (rb_i (ga_n A) w) with h2 | h2
    · refine aw_cVx mm_ra_checkRole 1 9 _ 0 [_] _ (wc_ra_checkRoleF G κ μ o rest (by omega) hC.1 h2) dd_ra_giveRule_8 cv_ra_60 my_ra_checkRole np_ra_checkRole rfl rfl rfl (by decide) rfl rfl (Nat.le_of_ble_eq_true rfl) (Nat.le_of_ble_eq_true rfl) (fun k9 => ?_)
      rw [ab_giveRule, if_pos (show (rb_i (ga_n A) x && rb_i (ga_n A) w) = false by rw [h1, h2]; rfl)]
      exact aw_out (fun _ h9 => nomatch h9) ⟨_, _, rfl, hR.app _, Or.inr ⟨0, 8, rfl, rfl, rfl⟩⟩
    · rw [ab_giveRule, if_neg (show ¬ (rb_i (ga_n A) x && rb_i (ga_n A) w) = false by rw [h1, h2]; decide)]
      refine aw_cVv mm_ra_checkRole 2 15 _ 0 [_] _ (wc_ra_checkRoleT G κ μ o rest (by omega) hC.1 h2) dd_ra_giveRule_8 cv_ra_60 my_ra_checkRole np_ra_checkRole rfl rfl rfl (by decide) rfl rfl (Nat.le_of_ble_eq_true rfl) (Nat.le_of_ble_eq_true rfl) ?_
      refine aw_iload_n dd_ra_giveRule_11 rfl 2 rfl ?_
      rcases bl_c (st_i y) with h3 | h3
      · refine aw_cSx mm_ra_checkRoleSet 1 9 [_] _ (wc_ra_checkRoleSetF G _ h3) dd_ra_giveRule_12 cs_ra_96 my_ra_checkRoleSet np_ra_checkRoleSet rfl (by decide) rfl rfl (Nat.le_of_ble_eq_true rfl) (Nat.le_of_ble_eq_true rfl) (fun k9 => ?_)
        rw [if_pos (show (st_i y && st_i z) = false by rw [h3]; rfl)]
        exact aw_out (fun _ h9 => nomatch h9) ⟨_, _, rfl, hR.app _, Or.inr ⟨1, 9, rfl, rfl, rfl⟩⟩
      · refine aw_cSv mm_ra_checkRoleSet 2 15 [_] _ (wc_ra_checkRoleSetT G _ h3) dd_ra_giveRule_12 cs_ra_96 my_ra_checkRoleSet np_ra_checkRoleSet rfl (by decide) rfl rfl (Nat.le_of_ble_eq_true rfl) (Nat.le_of_ble_eq_true rfl) ?_
        refine aw_iload_n dd_ra_giveRule_15 rfl 3 rfl ?_
        rcases bl_c (st_i z) with h4 | h4
        · refine aw_cSx mm_ra_checkRoleSet 1 9 [_] _ (wc_ra_checkRoleSetF G _ h4) dd_ra_giveRule_16 cs_ra_96 my_ra_checkRoleSet np_ra_checkRoleSet rfl (by decide) rfl rfl (Nat.le_of_ble_eq_true rfl) (Nat.le_of_ble_eq_true rfl) (fun k9 => ?_)
          rw [if_pos (show (st_i y && st_i z) = false by rw [h3, h4]; rfl)]
          exact aw_out (fun _ h9 => nomatch h9) ⟨_, _, rfl, hR.app _, Or.inr ⟨1, 9, rfl, rfl, rfl⟩⟩
        · rw [if_neg (show ¬ (st_i y && st_i z) = false by rw [h3, h4]; decide)]
          refine aw_cSv mm_ra_checkRoleSet 2 15 [_] _ (wc_ra_checkRoleSetT G _ h4) dd_ra_giveRule_16 cs_ra_96 my_ra_checkRoleSet np_ra_checkRoleSet rfl (by decide) rfl rfl (Nat.le_of_ble_eq_true rfl) (Nat.le_of_ble_eq_true rfl) ?_
          refine aw_aload_n dd_ra_giveRule_19 rfl 0 rfl ?_
          by_cases h8 : (ga_r A).length < 8
          · rw [if_neg (show ¬ ¬ (ga_r A).length < 8 from fun h9 => h9 h8)]
            obtain ⟨a, ha, rfl⟩ := rb_n (by omega) h1
            obtain ⟨b, hb, rfl⟩ := rb_n (by omega) h2
            obtain ⟨c, hc, rfl⟩ := st_n h3
            obtain ⟨d, hd, rfl⟩ := st_n h4
            rw [iN_n (by omega), iN_n (by omega), iN_n (by omega), iN_n (by omega)]
            refine aw_cVv mm_ra_checkRoomForRule 2 15 _ 0 [] _ (wc_ra_checkRoomForRuleT G κ μ o rest hRu h8) dd_ra_giveRule_20 cv_ra_131 my_ra_checkRoomForRule np_ra_checkRoomForRule rfl rfl rfl (by decide) rfl rfl (Nat.le_of_ble_eq_true rfl) (Nat.le_of_ble_eq_true rfl) ?_
            refine aw_aload_n dd_ra_giveRule_23 rfl 0 rfl ?_
            refine aw_getf _ 0 0 dd_ra_giveRule_24 fl_ra_12 rfl rfl ?_
            refine aw_new 4 5 (kc' := 1) (ks' := 10) (fs := [.int 0, .int 0, .int 0, .int 0, .int 0]) dd_ra_giveRule_27 nl_ra_134 (by decide) rfl rfl ?_
            rw [hp_l, hp_a]
            refine aw_dup dd_ra_giveRule_30 rfl ?_
            refine aw_iconst (v := (zb_i true)) dd_ra_giveRule_31 (by decide) ?_
            refine aw_iload_n dd_ra_giveRule_32 rfl 1 rfl ?_
            refine aw_iload_n dd_ra_giveRule_33 rfl 2 rfl ?_
            refine aw_iload_n dd_ra_giveRule_34 rfl 3 rfl ?_
            refine aw_iload dd_ra_giveRule_35 4 rfl ?_
            refine aw_cIv mm_ru_init 1 10 _ [_, _, _, _, _] _ (wc_ru_init G κ μ o rest (true, a, c, d, b)) dd_ra_giveRule_37 ci_ra_136 my_ru_init np_ru_init rfl (by decide) rfl rfl (Nat.le_of_ble_eq_true rfl) (Nat.le_of_ble_eq_true rfl) ?_
            refine aw_cVe mm_po_addRule 0 0 _ 1 [_] _ (wc_po_addRule G κ μ o (rest ++ [ob_u (true, a, c, d, b)]) (hR.app _) ⟨show a < 6 by omega, hc, hd, show b < 6 by omega⟩ h8 cc_g) dd_ra_giveRule_40 cv_ra_139 my_po_addRule np_po_addRule rfl rfl rfl (by decide) rfl rfl (Nat.le_of_ble_eq_true rfl) (Nat.le_of_ble_eq_true rfl) (fun w9 h9 hq => ?_)
            obtain ⟨rfl, κ', rest', rfl, hR'⟩ := hq
            exact aw_iret dd_ra_giveRule_43 rfl ⟨_, _, rfl, hR', Or.inl ⟨rfl, rfl⟩⟩
          · rw [if_pos h8]
            refine aw_cVx mm_ra_checkRoomForRule 1 9 _ 0 [] _ (wc_ra_checkRoomForRuleF G κ μ o rest hRu h8) dd_ra_giveRule_20 cv_ra_131 my_ra_checkRoomForRule np_ra_checkRoomForRule rfl rfl rfl (by decide) rfl rfl (Nat.le_of_ble_eq_true rfl) (Nat.le_of_ble_eq_true rfl) (fun k9 => ?_)
            exact aw_out (fun _ h9 => nomatch h9) ⟨_, _, rfl, hR.app _, Or.inr ⟨2, 7, rfl, rfl, rfl⟩⟩
theorem wc_ra_takeRule (G : ag_T) (κ : ck_T) (μ : cm_T) (o : Nat → Int64) (rest : List va_E) {A : aa_T} (hR : rk_R G κ rest A) (x y : Int32) : aw_w G mm_ra_takeRule 7 129 2 15 0 (lv_args 0 [.ref (G.1 + 0), .int x, .int y]) [] (hp_f G κ μ o rest) (qc_R G μ o [8, 7] (ab_takeRule A x y)) := by
  obtain ⟨hC, hGr, hU, hSL, hDL, hRu, hSs, hDD⟩ := id hR; have hn6 := hC.2.1; have hu5 := hU.2.1
  refine aw_aload_n dd_ra_takeRule_0 rfl 0 rfl ?_
  refine aw_iload_n dd_ra_takeRule_1 rfl 1 rfl ?_
  rcases bl_c (rb_i (ga_n A) x) with h1 | h1
  · refine aw_cVx mm_ra_checkRole 1 9 _ 0 [_] _ (wc_ra_checkRoleF G κ μ o rest (by omega) hC.1 h1) dd_ra_takeRule_2 cv_ra_60 my_ra_checkRole np_ra_checkRole rfl rfl rfl (by decide) rfl rfl (Nat.le_of_ble_eq_true rfl) (Nat.le_of_ble_eq_true rfl) (fun k9 => ?_)
    rw [ab_takeRule, if_pos (show (rb_i (ga_n A) x && rb_i (ga_n A) y) = false by rw [h1]; rfl)]
    exact aw_out (fun _ h9 => nomatch h9) ⟨_, _, rfl, hR.app _, Or.inr ⟨0, 8, rfl, rfl, rfl⟩⟩
  · refine aw_cVv mm_ra_checkRole 2 15 _ 0 [_] _ (wc_ra_checkRoleT G κ μ o rest (by omega) hC.1 h1) dd_ra_takeRule_2 cv_ra_60 my_ra_checkRole np_ra_checkRole rfl rfl rfl (by decide) rfl rfl (Nat.le_of_ble_eq_true rfl) (Nat.le_of_ble_eq_true rfl) ?_
    refine aw_aload_n dd_ra_takeRule_5 rfl 0 rfl ?_
    refine aw_iload_n dd_ra_takeRule_6 rfl 2 rfl ?_
    rcases bl_c (rb_i (ga_n A) y) with h2 | h2
    · refine aw_cVx mm_ra_checkRole 1 9 _ 0 [_] _ (wc_ra_checkRoleF G κ μ o rest (by omega) hC.1 h2) dd_ra_takeRule_7 cv_ra_60 my_ra_checkRole np_ra_checkRole rfl rfl rfl (by decide) rfl rfl (Nat.le_of_ble_eq_true rfl) (Nat.le_of_ble_eq_true rfl) (fun k9 => ?_)
      rw [ab_takeRule, if_pos (show (rb_i (ga_n A) x && rb_i (ga_n A) y) = false by rw [h1, h2]; rfl)]
      exact aw_out (fun _ h9 => nomatch h9) ⟨_, _, rfl, hR.app _, Or.inr ⟨0, 8, rfl, rfl, rfl⟩⟩
    · rw [ab_takeRule, if_neg (show ¬ (rb_i (ga_n A) x && rb_i (ga_n A) y) = false by rw [h1, h2]; decide)]
      refine aw_cVv mm_ra_checkRole 2 15 _ 0 [_] _ (wc_ra_checkRoleT G κ μ o rest (by omega) hC.1 h2) dd_ra_takeRule_7 cv_ra_60 my_ra_checkRole np_ra_checkRole rfl rfl rfl (by decide) rfl rfl (Nat.le_of_ble_eq_true rfl) (Nat.le_of_ble_eq_true rfl) ?_
      refine aw_aload_n dd_ra_takeRule_10 rfl 0 rfl ?_
      by_cases h8 : (ga_r A).length < 8
      · rw [if_neg (show ¬ ¬ (ga_r A).length < 8 from fun h9 => h9 h8)]
        obtain ⟨a, ha, rfl⟩ := rb_n (by omega) h1
        obtain ⟨b, hb, rfl⟩ := rb_n (by omega) h2
        rw [iN_n (by omega), iN_n (by omega)]
        refine aw_cVv mm_ra_checkRoomForRule 2 15 _ 0 [] _ (wc_ra_checkRoomForRuleT G κ μ o rest hRu h8) dd_ra_takeRule_11 cv_ra_131 my_ra_checkRoomForRule np_ra_checkRoomForRule rfl rfl rfl (by decide) rfl rfl (Nat.le_of_ble_eq_true rfl) (Nat.le_of_ble_eq_true rfl) ?_
        refine aw_aload_n dd_ra_takeRule_14 rfl 0 rfl ?_
        refine aw_getf _ 0 0 dd_ra_takeRule_15 fl_ra_12 rfl rfl ?_
        refine aw_new 4 5 (kc' := 1) (ks' := 10) (fs := [.int 0, .int 0, .int 0, .int 0, .int 0]) dd_ra_takeRule_18 nl_ra_134 (by decide) rfl rfl ?_
        rw [hp_l, hp_a]
        refine aw_dup dd_ra_takeRule_21 rfl ?_
        refine aw_iconst (v := (zb_i false)) dd_ra_takeRule_22 (by decide) ?_
        refine aw_iload_n dd_ra_takeRule_23 rfl 1 rfl ?_
        refine aw_iconst (v := (nI 0)) dd_ra_takeRule_24 (by decide) ?_
        refine aw_iconst (v := (nI 0)) dd_ra_takeRule_25 (by decide) ?_
        refine aw_iload_n dd_ra_takeRule_26 rfl 2 rfl ?_
        refine aw_cIv mm_ru_init 1 10 _ [_, _, _, _, _] _ (wc_ru_init G κ μ o rest (false, a, 0, 0, b)) dd_ra_takeRule_27 ci_ra_136 my_ru_init np_ru_init rfl (by decide) rfl rfl (Nat.le_of_ble_eq_true rfl) (Nat.le_of_ble_eq_true rfl) ?_
        refine aw_cVe mm_po_addRule 0 0 _ 1 [_] _ (wc_po_addRule G κ μ o (rest ++ [ob_u (false, a, 0, 0, b)]) (hR.app _) ⟨show a < 6 by omega, show 0 < 64 by decide, show 0 < 64 by decide, show b < 6 by omega⟩ h8 cc_g) dd_ra_takeRule_30 cv_ra_139 my_po_addRule np_po_addRule rfl rfl rfl (by decide) rfl rfl (Nat.le_of_ble_eq_true rfl) (Nat.le_of_ble_eq_true rfl) (fun w9 h9 hq => ?_)
        obtain ⟨rfl, κ', rest', rfl, hR'⟩ := hq
        exact aw_iret dd_ra_takeRule_33 rfl ⟨_, _, rfl, hR', Or.inl ⟨rfl, rfl⟩⟩
      · rw [if_pos h8]
        refine aw_cVx mm_ra_checkRoomForRule 1 9 _ 0 [] _ (wc_ra_checkRoomForRuleF G κ μ o rest hRu h8) dd_ra_takeRule_11 cv_ra_131 my_ra_checkRoomForRule np_ra_checkRoomForRule rfl rfl rfl (by decide) rfl rfl (Nat.le_of_ble_eq_true rfl) (Nat.le_of_ble_eq_true rfl) (fun k9 => ?_)
        exact aw_out (fun _ h9 => nomatch h9) ⟨_, _, rfl, hR.app _, Or.inr ⟨1, 7, rfl, rfl, rfl⟩⟩
