/-! ===== the class: calls ===== -/
theorem bl_c (b : Bool) : b = false ∨ b = true := by cases b; exact Or.inl rfl; exact Or.inr rfl
theorem up_k {f : Nat → Int32} {g : Nat → Nat} {m j x : Nat} (h : ∀ r, r < m → f r = nI (g r)) : ∀ r, r < m → upd f j (nI x) r = nI (up_f g j x r) := up_e h
theorem kw_a (κ : ck_T) (k : Nat) (f : Nat → Int32) (r : Nat) (x : Int32) : kk_a (κ.1, va_up κ.2.1 k f, κ.2.2) k r x = (κ.1, va_up κ.2.1 k (upd f r x), κ.2.2) := by
  unfold kk_a
  refine Prod.ext rfl (Prod.ext (funext fun i => ?_) rfl)
  unfold va_up
  by_cases h : i = k <;> simp [h]
theorem kw_0 (κ : ck_T) (k : Nat) : (κ.1, va_up κ.2.1 k (κ.2.1 k), κ.2.2) = κ := by
  refine Prod.ext rfl (Prod.ext (funext fun i => ?_) rfl)
  unfold va_up
  by_cases h : i = k <;> simp [h]
theorem sk_a {κ : ck_T} {so : Nat → Option Nat} {sa : Nat → Nat} {j x : Nat} (hS : rk_s κ so sa) (hx : x < 64) {κ' : ck_T} (e5 : κ'.2.1 5 = κ.2.1 5 := by rfl) (e6 : κ'.2.1 6 = upd (κ.2.1 6) j (nI x) := by rfl) : rk_s κ' so (up_f sa j x) := by
  refine ⟨fun s hs => ?_, hS.2.1, up_b hS.2.2 hx⟩
  rw [e5, e6]
  obtain ⟨h1, h2⟩ := hS.1 s hs
  refine ⟨h1, ?_⟩
  unfold upd up_f
  split
  · rfl
  · exact h2
theorem sk_c {κ : ck_T} {so : Nat → Option Nat} {sa : Nat → Nat} {j : Nat} (hS : rk_s κ so sa) {κ' : ck_T} (e5 : κ'.2.1 5 = upd (κ.2.1 5) j (-1) := by rfl) (e6 : κ'.2.1 6 = upd (κ.2.1 6) j 0 := by rfl) : rk_s κ' (up_f so j none) (up_f sa j 0) := by
  refine ⟨fun s hs => ?_, fun s v hv => ?_, up_b hS.2.2 (by decide)⟩
  · rw [e5, e6]
    unfold upd up_f
    by_cases e : s = j
    · subst e; rw [if_pos rfl, if_pos rfl, if_pos rfl, if_pos rfl]; exact ⟨rfl, rfl⟩
    · rw [if_neg e, if_neg e, if_neg e, if_neg e]; exact hS.1 s hs
  · unfold up_f at hv
    split at hv
    · cases hv
    · exact hS.2.1 s v hv
theorem sk_o {κ : ck_T} {so : Nat → Option Nat} {sa : Nat → Nat} {j v : Nat} (hS : rk_s κ so sa) (hv5 : v < 5) (h0 : sa j = 0) {κ' : ck_T} (e5 : κ'.2.1 5 = upd (κ.2.1 5) j (nI v) := by rfl) (e6 : κ'.2.1 6 = κ.2.1 6 := by rfl) : rk_s κ' (up_f so j (some v)) (up_f sa j 0) := by
  refine ⟨fun s hs => ?_, fun s w hw => ?_, up_b hS.2.2 (by decide)⟩
  · rw [e5, e6]
    obtain ⟨h1, h2⟩ := hS.1 s hs
    unfold upd up_f
    by_cases e : s = j
    · subst e; rw [if_pos rfl, if_pos rfl, if_pos rfl, h2, h0]; exact ⟨rfl, rfl⟩
    · rw [if_neg e, if_neg e, if_neg e]; exact ⟨h1, h2⟩
  · unfold up_f at hw
    split at hw
    · cases hw; exact hv5
    · exact hS.2.1 s w hw
theorem wc_ra_role (G : ag_T) (κ : ck_T) (μ : cm_T) (o : Nat → Int64) (rest : List va_E) {A : aa_T} (hR : rk_R G κ rest A) (hW : wa_W A) : aw_w G mm_ra_role 6 93 1 6 0 (lv_args 0 [.ref (G.1 + 0)]) [] (hp_f G κ μ o rest) (qc_R G μ o [7] (ab_role A)) := by
  obtain ⟨hC, hGr, hU, hSL, hDL, hRu, hSs, hDD⟩ := id hR; have hn6 := hC.2.1; have hu5 := hU.2.1
  refine aw_aload_n dd_ra_role_0 rfl 0 rfl ?_
  refine aw_getf _ 0 0 dd_ra_role_1 fl_ra_12 rfl rfl ?_
  refine aw_getf _ 1 0 dd_ra_role_4 fl_ra_44 rfl rfl ?_
  refine aw_top (hC.1) ?_
  refine aw_bipush (v := (nI 6)) dd_ra_role_7 (by decide) ?_
  refine aw_icmp_lt (tgt := 22) dd_ra_role_9 (by decide) (fun h1 => ?_) (fun h1 => ?_)
  · rw [nI_ltI (by omega) (by decide)] at h1
    rw [ab_role, if_pos h1]
    refine aw_aload_n dd_ra_role_22 rfl 0 rfl ?_
    refine aw_getf _ 0 0 dd_ra_role_23 fl_ra_12 rfl rfl ?_
    refine aw_getf _ 1 0 dd_ra_role_26 fl_ra_44 rfl rfl ?_
    refine aw_top (hC.1) ?_
    refine aw_istore_n (lv' := [(1, _), (0, _)]) dd_ra_role_29 rfl (by decide) rfl ?_
    refine aw_aload_n dd_ra_role_30 rfl 1 rfl ?_
    refine aw_getf _ 0 0 dd_ra_role_31 fl_ra_12 rfl rfl ?_
    refine aw_iload_n dd_ra_role_34 rfl 0 rfl ?_
    refine aw_iconst (v := 1) dd_ra_role_35 (by decide) ?_
    refine aw_iadd dd_ra_role_36 ?_
    refine aw_top (nI_1 _) ?_
    refine aw_putf _ 1 0 dd_ra_role_37 fl_ra_44 nf_po_0 rfl (rfl) (rfl) (Nat.le_of_ble_eq_true rfl) ?_
    refine aw_h (hs_ks0 G _ _ _ _ _) ?_
    refine aw_iload_n dd_ra_role_40 rfl 0 rfl ?_
    exact aw_iret dd_ra_role_41 rfl ⟨_, _, rfl, ⟨⟨rfl, by show ga_n A + 1 ≤ 6; omega, fun s hs => by (show κ.2.1 0 s = nI (pc_f (ga_b A) s (ga_n A + 1)); rw [pc_sn (hW.1 _ (Nat.le_refl _)).1]; exact hC.2.2.1 s hs), hC.2.2.2⟩, hGr, hU, hSL, hDL, hRu, hSs, hDD⟩, Or.inl ⟨rfl, rfl⟩⟩
  · rw [nI_ltI (by omega) (by decide)] at h1
    rw [ab_role, if_neg h1]
    exact aw_throw 7 th_ra_48_50 dd_ra_role_12 dd_ra_role_15 dd_ra_role_16 dd_ra_role_18 dd_ra_role_21 (fun _ h9 => nomatch h9) (Nat.le_of_ble_eq_true rfl) (Nat.le_of_ble_eq_true rfl) (by decide) (by decide) ⟨_, _, rfl, hR.app _, Or.inr ⟨0, 7, rfl, rfl, rfl⟩⟩
theorem wc_ra_user (G : ag_T) (κ : ck_T) (μ : cm_T) (o : Nat → Int64) (rest : List va_E) {A : aa_T} (hR : rk_R G κ rest A) : aw_w G mm_ra_user 6 93 1 6 0 (lv_args 0 [.ref (G.1 + 0)]) [] (hp_f G κ μ o rest) (qc_R G μ o [7] (ab_user A)) := by
  obtain ⟨hC, hGr, hU, hSL, hDL, hRu, hSs, hDD⟩ := id hR; have hn6 := hC.2.1; have hu5 := hU.2.1
  refine aw_aload_n dd_ra_user_0 rfl 0 rfl ?_
  refine aw_getf _ 0 6 dd_ra_user_1 fl_ra_55 rfl rfl ?_
  refine aw_top (hU.1) ?_
  refine aw_iconst (v := (nI 5)) dd_ra_user_4 (by decide) ?_
  refine aw_icmp_lt (tgt := 18) dd_ra_user_5 (by decide) (fun h1 => ?_) (fun h1 => ?_)
  · rw [nI_ltI (by omega) (by decide)] at h1
    rw [ab_user, if_pos h1]
    refine aw_aload_n dd_ra_user_18 rfl 0 rfl ?_
    refine aw_getf _ 0 6 dd_ra_user_19 fl_ra_55 rfl rfl ?_
    refine aw_top (hU.1) ?_
    refine aw_istore_n (lv' := [(1, _), (0, _)]) dd_ra_user_22 rfl (by decide) rfl ?_
    refine aw_aload_n dd_ra_user_23 rfl 1 rfl ?_
    refine aw_iload_n dd_ra_user_24 rfl 0 rfl ?_
    refine aw_iconst (v := 1) dd_ra_user_25 (by decide) ?_
    refine aw_iadd dd_ra_user_26 ?_
    refine aw_top (nI_1 _) ?_
    refine aw_putf _ 0 6 dd_ra_user_27 fl_ra_55 nf_ra_6 rfl (rfl) (rfl) (Nat.le_of_ble_eq_true rfl) ?_
    refine aw_h (hs_ks3 G _ _ _ _ _) ?_
    refine aw_iload_n dd_ra_user_30 rfl 0 rfl ?_
    exact aw_iret dd_ra_user_31 rfl ⟨_, _, rfl, ⟨hC, hGr, ⟨rfl, by show ga_u A + 1 ≤ 5; omega, hU.2.2⟩, hSL, hDL, hRu, hSs, hDD⟩, Or.inl ⟨rfl, rfl⟩⟩
  · rw [nI_ltI (by omega) (by decide)] at h1
    rw [ab_user, if_neg h1]
    exact aw_throw 7 th_ra_48_58 dd_ra_user_8 dd_ra_user_11 dd_ra_user_12 dd_ra_user_14 dd_ra_user_17 (fun _ h9 => nomatch h9) (Nat.le_of_ble_eq_true rfl) (Nat.le_of_ble_eq_true rfl) (by decide) (by decide) ⟨_, _, rfl, hR.app _, Or.inr ⟨0, 7, rfl, rfl, rfl⟩⟩
theorem wc_ra_grant (G : ag_T) (κ : ck_T) (μ : cm_T) (o : Nat → Int64) (rest : List va_E) {A : aa_T} (hR : rk_R G κ rest A) (x y : Int32) : aw_w G mm_ra_grant 7 114 1 6 0 (lv_args 0 [.ref (G.1 + 0), .int x, .int y]) [] (hp_f G κ μ o rest) (qc_R G μ o [8] (ab_grant A x y)) := by
  obtain ⟨hC, hGr, hU, hSL, hDL, hRu, hSs, hDD⟩ := id hR; have hn6 := hC.2.1; have hu5 := hU.2.1
  refine aw_aload_n dd_ra_grant_0 rfl 0 rfl ?_
  refine aw_iload_n dd_ra_grant_1 rfl 1 rfl ?_
  rcases bl_c (rb_i (ga_n A) x) with h1 | h1
  · refine aw_cVx mm_ra_checkRole 0 0 _ 0 [_] _ (wc_ra_checkRoleF G κ μ o rest (by omega) hC.1 h1) dd_ra_grant_2 cv_ra_60 my_ra_checkRole np_ra_checkRole rfl rfl rfl (by decide) rfl rfl (Nat.le_of_ble_eq_true rfl) (Nat.le_of_ble_eq_true rfl) (fun k9 => ?_)
    rw [ab_grant, if_pos (show (rb_i (ga_n A) x && pm_i y) = false by rw [h1]; rfl)]
    exact aw_out (fun _ h9 => nomatch h9) ⟨_, _, rfl, hR.app _, Or.inr ⟨0, 8, rfl, rfl, rfl⟩⟩
  · refine aw_cVv mm_ra_checkRole 1 6 _ 0 [_] _ (wc_ra_checkRoleT G κ μ o rest (by omega) hC.1 h1) dd_ra_grant_2 cv_ra_60 my_ra_checkRole np_ra_checkRole rfl rfl rfl (by decide) rfl rfl (Nat.le_of_ble_eq_true rfl) (Nat.le_of_ble_eq_true rfl) ?_
    refine aw_iload_n dd_ra_grant_5 rfl 2 rfl ?_
    rcases bl_c (pm_i y) with h2 | h2
    · refine aw_cSx mm_ra_checkPermission 0 0 [_] _ (wc_ra_checkPermissionF G _ h2) dd_ra_grant_6 cs_ra_88 my_ra_checkPermission np_ra_checkPermission rfl (by decide) rfl rfl (Nat.le_of_ble_eq_true rfl) (Nat.le_of_ble_eq_true rfl) (fun k9 => ?_)
      rw [ab_grant, if_pos (show (rb_i (ga_n A) x && pm_i y) = false by rw [h1, h2]; rfl)]
      exact aw_out (fun _ h9 => nomatch h9) ⟨_, _, rfl, hR.app _, Or.inr ⟨0, 8, rfl, rfl, rfl⟩⟩
    · rw [ab_grant, if_neg (show ¬ (rb_i (ga_n A) x && pm_i y) = false by rw [h1, h2]; decide)]
      obtain ⟨j, hj, rfl⟩ := rb_n (by omega) h1
      obtain ⟨q, hq, rfl⟩ := pm_n h2
      rw [iN_n (by omega), iN_n (by omega)]
      refine aw_cSv mm_ra_checkPermission 1 6 [_] _ (wc_ra_checkPermissionT G _ h2) dd_ra_grant_6 cs_ra_88 my_ra_checkPermission np_ra_checkPermission rfl (by decide) rfl rfl (Nat.le_of_ble_eq_true rfl) (Nat.le_of_ble_eq_true rfl) ?_
      refine aw_join (tgt := 27) (v := zb_i (!(ga_g A j).testBit q)) ?_ (fun kj9 => ?_)
      · refine aw_istore_n (lv' := [(3, _), (0, _), (1, _), (2, _)]) dd_ra_grant_27 rfl (by decide) rfl ?_
        refine aw_aload_n dd_ra_grant_28 rfl 1 rfl ?_
        refine aw_getf _ 0 3 dd_ra_grant_29 fl_ra_29 rfl rfl ?_
        refine aw_iload_n dd_ra_grant_32 rfl 2 rfl ?_
        refine aw_dup2 dd_ra_grant_33 rfl rfl ?_
        refine aw_iaN _ (j) dd_ra_grant_34 rfl (by omega) (by decide) ?_
        refine aw_top (hGr.1 j (by omega)) ?_
        refine aw_iconst (v := (nI 1)) dd_ra_grant_35 (by decide) ?_
        refine aw_iload_n dd_ra_grant_36 rfl 3 rfl ?_
        refine aw_ishl dd_ra_grant_37 ?_
        refine aw_top (nI_shl 1 (by omega)) ?_
        refine aw_ior dd_ra_grant_38 ?_
        refine aw_top (nI_or _ _) ?_
        refine aw_isN _ (j) dd_ra_grant_39 rfl (by omega) (by decide) ?_
        refine aw_h (hs_ka4 G _ _ _ _ _ _) ?_
        refine aw_iload_n dd_ra_grant_40 rfl 0 rfl ?_
        exact aw_zret dd_ra_grant_41 rfl (zb_01 _) ⟨_, _, rfl, ⟨hC, ⟨up_e hGr.1, up_b hGr.2 (bt_or (n := 31) (hGr.2 j) (bt_1 (by omega)))⟩, hU, hSL, hDL, hRu, hSs, hDD⟩, Or.inl ⟨rfl, rfl⟩⟩
      · refine aw_aload_n dd_ra_grant_9 rfl 0 rfl ?_
        refine aw_getf _ 0 3 dd_ra_grant_10 fl_ra_29 rfl rfl ?_
        refine aw_iload_n dd_ra_grant_13 rfl 1 rfl ?_
        refine aw_iaN _ (j) dd_ra_grant_14 rfl (by omega) (by decide) ?_
        refine aw_top (hGr.1 j (by omega)) ?_
        refine aw_iload_n dd_ra_grant_15 rfl 2 rfl ?_
        refine aw_cSi mm_ra_has 1 6 [_, _] _ (wc_ra_has G _ (hGr.2 j) (by omega)) dd_ra_grant_16 cs_ra_91 my_ra_has np_ra_has rfl (by decide) rfl rfl (Nat.le_of_ble_eq_true rfl) (Nat.le_of_ble_eq_true rfl) ?_
        refine aw_if_ne (tgt := 26) dd_ra_grant_19 (by decide) (fun h3 => ?_) (fun h3 => ?_)
        · refine aw_iconst (v := 0) dd_ra_grant_26 (by decide) ?_
          exact aw_top (by first | (have h9 := zb_e0 h3; simp [zb_i, h9]; done) | (have h9 := zb_n0 h3; simp [zb_i, h9])) kj9
        · refine aw_iconst (v := 1) dd_ra_grant_22 (by decide) ?_
          refine aw_goto (tgt := 27) dd_ra_grant_23 (by decide) ?_
          exact aw_top (by first | (have h9 := zb_e0 h3; simp [zb_i, h9]; done) | (have h9 := zb_n0 h3; simp [zb_i, h9])) kj9
theorem wc_ra_roles (G : ag_T) (κ : ck_T) (μ : cm_T) (o : Nat → Int64) (rest : List va_E) {A : aa_T} (hR : rk_R G κ rest A) (x : Int32) (d : Bool) : aw_w G mm_ra_roles 7 114 1 6 0 (lv_args 0 [.ref (G.1 + 0), .int x, .int (zb_i d)]) [] (hp_f G κ μ o rest) (qc_R G μ o [8] (ab_roles A x d)) := by
  obtain ⟨hC, hGr, hU, hSL, hDL, hRu, hSs, hDD⟩ := id hR; have hn6 := hC.2.1; have hu5 := hU.2.1
  refine aw_aload_n dd_ra_roles_0 rfl 0 rfl ?_
  refine aw_iload_n dd_ra_roles_1 rfl 1 rfl ?_
  rcases bl_c (rb_i (ga_u A) x) with h1 | h1
  · refine aw_cVx mm_ra_checkUser 0 0 _ 0 [_] _ (wc_ra_checkUserF G κ μ o rest (by omega) hU.1 h1) dd_ra_roles_2 cv_ra_143 my_ra_checkUser np_ra_checkUser rfl rfl rfl (by decide) rfl rfl (Nat.le_of_ble_eq_true rfl) (Nat.le_of_ble_eq_true rfl) (fun k9 => ?_)
    rw [ab_roles, if_pos h1]
    exact aw_out (fun _ h9 => nomatch h9) ⟨_, _, rfl, hR.app _, Or.inr ⟨0, 8, rfl, rfl, rfl⟩⟩
  · rw [ab_roles, if_neg (bt_ne h1)]
    obtain ⟨j, hj, rfl⟩ := rb_n (by omega) h1
    rw [iN_n (by omega)]
    refine aw_cVv mm_ra_checkUser 1 6 _ 0 [_] _ (wc_ra_checkUserT G κ μ o rest (by omega) hU.1 h1) dd_ra_roles_2 cv_ra_143 my_ra_checkUser np_ra_checkUser rfl rfl rfl (by decide) rfl rfl (Nat.le_of_ble_eq_true rfl) (Nat.le_of_ble_eq_true rfl) ?_
    refine aw_iload_n dd_ra_roles_5 rfl 2 rfl ?_
    refine aw_if_eq (tgt := 17) dd_ra_roles_6 (by decide) (fun h3 => ?_) (fun h3 => ?_)
    · have h3 := zb_e0 h3
      subst h3
      refine aw_aload_n dd_ra_roles_17 rfl 0 rfl ?_
      refine aw_getf _ 0 2 dd_ra_roles_18 fl_ra_25 rfl rfl ?_
      refine aw_iload_n dd_ra_roles_21 rfl 1 rfl ?_
      refine aw_iaN _ (j) dd_ra_roles_22 rfl (by omega) (by decide) ?_
      refine aw_top (hU.2.2.1 j (by omega)) ?_
      exact aw_iret dd_ra_roles_23 rfl ⟨_, _, rfl, hR, Or.inl ⟨rfl, rfl⟩⟩
    · have h3 := zb_n0 h3
      subst h3
      refine aw_aload_n dd_ra_roles_9 rfl 0 rfl ?_
      refine aw_iload_n dd_ra_roles_10 rfl 1 rfl ?_
      refine aw_cVi mm_ra_authorizedRoles 1 6 _ 0 [_] _ (wc_ra_authorizedRoles G κ μ o rest hC hU (by omega)) dd_ra_roles_11 cv_ra_73 my_ra_authorizedRoles np_ra_authorizedRoles rfl rfl rfl (by decide) rfl rfl (Nat.le_of_ble_eq_true rfl) (Nat.le_of_ble_eq_true rfl) ?_
      refine aw_goto (tgt := 23) dd_ra_roles_14 (by decide) ?_
      exact aw_iret dd_ra_roles_23 rfl ⟨_, _, rfl, hR, Or.inl ⟨rfl, rfl⟩⟩
theorem wc_ra_close (G : ag_T) (κ : ck_T) (μ : cm_T) (o : Nat → Int64) (rest : List va_E) {A : aa_T} (hR : rk_R G κ rest A) (x : Int32) : aw_w G mm_ra_close 7 114 1 6 0 (lv_args 0 [.ref (G.1 + 0), .int x]) [] (hp_f G κ μ o rest) (qc_V G μ o [8] (ab_close A x)) := by
  obtain ⟨hC, hGr, hU, hSL, hDL, hRu, hSs, hDD⟩ := id hR; have hn6 := hC.2.1; have hu5 := hU.2.1
  refine aw_aload_n dd_ra_close_0 rfl 0 rfl ?_
  refine aw_iload_n dd_ra_close_1 rfl 1 rfl ?_
  rcases bl_c (se_i A x) with h1 | h1
  · refine aw_cVx mm_ra_checkSession 0 0 _ 0 [_] _ (wc_ra_checkSessionF G κ μ o rest hSs h1) dd_ra_close_2 cv_ra_158 my_ra_checkSession np_ra_checkSession rfl rfl rfl (by decide) rfl rfl (Nat.le_of_ble_eq_true rfl) (Nat.le_of_ble_eq_true rfl) (fun k9 => ?_)
    rw [ab_close, if_pos h1]
    exact aw_out (fun _ h9 => nomatch h9) ⟨_, _, rfl, hR.app _, Or.inr ⟨0, 8, rfl, rfl, rfl⟩⟩
  · obtain ⟨j, v, hj, rfl, hv⟩ := se_t h1
    rw [ab_close, if_neg (bt_ne h1), iN_n (by omega)]
    refine aw_cVv mm_ra_checkSession 1 6 _ 0 [_] _ (wc_ra_checkSessionT G κ μ o rest hSs h1) dd_ra_close_2 cv_ra_158 my_ra_checkSession np_ra_checkSession rfl rfl rfl (by decide) rfl rfl (Nat.le_of_ble_eq_true rfl) (Nat.le_of_ble_eq_true rfl) ?_
    refine aw_aload_n dd_ra_close_5 rfl 0 rfl ?_
    refine aw_getf _ 0 4 dd_ra_close_6 fl_ra_32 rfl rfl ?_
    refine aw_iload_n dd_ra_close_9 rfl 1 rfl ?_
    refine aw_iconst (v := (-1)) dd_ra_close_10 (by decide) ?_
    refine aw_isN _ (j) dd_ra_close_11 rfl (hj) (by decide) ?_
    refine aw_h (hs_ka5 G _ _ _ _ _ _) ?_
    refine aw_aload_n dd_ra_close_12 rfl 0 rfl ?_
    refine aw_getf _ 0 5 dd_ra_close_13 fl_ra_35 rfl rfl ?_
    refine aw_iload_n dd_ra_close_16 rfl 1 rfl ?_
    refine aw_iconst (v := 0) dd_ra_close_17 (by decide) ?_
    refine aw_isN _ (j) dd_ra_close_18 rfl (hj) (by decide) ?_
    refine aw_h (hs_ka6 G _ _ _ _ _ _) ?_
    exact aw_vret dd_ra_close_19 rfl ⟨_, _, rfl, ⟨hC, hGr, hU, hSL, hDL, hRu, sk_c hSs, hDD⟩, Or.inl ⟨rfl, rfl⟩⟩
theorem wc_ra_active (G : ag_T) (κ : ck_T) (μ : cm_T) (o : Nat → Int64) (rest : List va_E) {A : aa_T} (hR : rk_R G κ rest A) (x : Int32) : aw_w G mm_ra_active 7 114 1 6 0 (lv_args 0 [.ref (G.1 + 0), .int x]) [] (hp_f G κ μ o rest) (qc_R G μ o [8] (ab_active A x)) := by
  obtain ⟨hC, hGr, hU, hSL, hDL, hRu, hSs, hDD⟩ := id hR; have hn6 := hC.2.1; have hu5 := hU.2.1
  refine aw_aload_n dd_ra_active_0 rfl 0 rfl ?_
  refine aw_iload_n dd_ra_active_1 rfl 1 rfl ?_
  rcases bl_c (se_i A x) with h1 | h1
  · refine aw_cVx mm_ra_checkSession 0 0 _ 0 [_] _ (wc_ra_checkSessionF G κ μ o rest hSs h1) dd_ra_active_2 cv_ra_158 my_ra_checkSession np_ra_checkSession rfl rfl rfl (by decide) rfl rfl (Nat.le_of_ble_eq_true rfl) (Nat.le_of_ble_eq_true rfl) (fun k9 => ?_)
    rw [ab_active, if_pos h1]
    exact aw_out (fun _ h9 => nomatch h9) ⟨_, _, rfl, hR.app _, Or.inr ⟨0, 8, rfl, rfl, rfl⟩⟩
  · obtain ⟨j, v, hj, rfl, hv⟩ := se_t h1
    rw [ab_active, if_neg (bt_ne h1), iN_n (by omega)]
    refine aw_cVv mm_ra_checkSession 1 6 _ 0 [_] _ (wc_ra_checkSessionT G κ μ o rest hSs h1) dd_ra_active_2 cv_ra_158 my_ra_checkSession np_ra_checkSession rfl rfl rfl (by decide) rfl rfl (Nat.le_of_ble_eq_true rfl) (Nat.le_of_ble_eq_true rfl) ?_
    refine aw_aload_n dd_ra_active_5 rfl 0 rfl ?_
    refine aw_getf _ 0 5 dd_ra_active_6 fl_ra_35 rfl rfl ?_
    refine aw_iload_n dd_ra_active_9 rfl 1 rfl ?_
    refine aw_iaN _ (j) dd_ra_active_10 rfl (hj) (by decide) ?_
    refine aw_top (hSs.1 j hj).2 ?_
    exact aw_iret dd_ra_active_11 rfl ⟨_, _, rfl, hR, Or.inl ⟨rfl, rfl⟩⟩
theorem wc_ra_rest (G : ag_T) (κ : ck_T) (μ : cm_T) (o : Nat → Int64) (rest : List va_E) {A : aa_T} (hR : rk_R G κ rest A) (x y : Int32) : aw_w G mm_ra_rest 7 114 1 6 0 (lv_args 0 [.ref (G.1 + 0), .int x, .int y]) [] (hp_f G κ μ o rest) (qc_R G μ o [8] (ab_rest A x y)) := by
  obtain ⟨hC, hGr, hU, hSL, hDL, hRu, hSs, hDD⟩ := id hR; have hn6 := hC.2.1; have hu5 := hU.2.1
  refine aw_aload_n dd_ra_rest_0 rfl 0 rfl ?_
  refine aw_iload_n dd_ra_rest_1 rfl 1 rfl ?_
  rcases bl_c (se_i A x) with h1 | h1
  · refine aw_cVx mm_ra_checkSession 0 0 _ 0 [_] _ (wc_ra_checkSessionF G κ μ o rest hSs h1) dd_ra_rest_2 cv_ra_158 my_ra_checkSession np_ra_checkSession rfl rfl rfl (by decide) rfl rfl (Nat.le_of_ble_eq_true rfl) (Nat.le_of_ble_eq_true rfl) (fun k9 => ?_)
    rw [ab_rest, if_pos (show (se_i A x && rb_i (ga_n A) y) = false by rw [h1]; rfl)]
    exact aw_out (fun _ h9 => nomatch h9) ⟨_, _, rfl, hR.app _, Or.inr ⟨0, 8, rfl, rfl, rfl⟩⟩
  · refine aw_cVv mm_ra_checkSession 1 6 _ 0 [_] _ (wc_ra_checkSessionT G κ μ o rest hSs h1) dd_ra_rest_2 cv_ra_158 my_ra_checkSession np_ra_checkSession rfl rfl rfl (by decide) rfl rfl (Nat.le_of_ble_eq_true rfl) (Nat.le_of_ble_eq_true rfl) ?_
    refine aw_aload_n dd_ra_rest_5 rfl 0 rfl ?_
    refine aw_iload_n dd_ra_rest_6 rfl 2 rfl ?_
    rcases bl_c (rb_i (ga_n A) y) with h2 | h2
    · refine aw_cVx mm_ra_checkRole 0 0 _ 0 [_] _ (wc_ra_checkRoleF G κ μ o rest (by omega) hC.1 h2) dd_ra_rest_7 cv_ra_60 my_ra_checkRole np_ra_checkRole rfl rfl rfl (by decide) rfl rfl (Nat.le_of_ble_eq_true rfl) (Nat.le_of_ble_eq_true rfl) (fun k9 => ?_)
      rw [ab_rest, if_pos (show (se_i A x && rb_i (ga_n A) y) = false by rw [h1, h2]; rfl)]
      exact aw_out (fun _ h9 => nomatch h9) ⟨_, _, rfl, hR.app _, Or.inr ⟨0, 8, rfl, rfl, rfl⟩⟩
    · rw [ab_rest, if_neg (show ¬ (se_i A x && rb_i (ga_n A) y) = false by rw [h1, h2]; decide)]
      obtain ⟨j, v, hj, rfl, hv⟩ := se_t h1
      obtain ⟨k, hk, rfl⟩ := rb_n (by omega) h2
      rw [iN_n (by omega), iN_n (by omega)]
      refine aw_cVv mm_ra_checkRole 1 6 _ 0 [_] _ (wc_ra_checkRoleT G κ μ o rest (by omega) hC.1 h2) dd_ra_rest_7 cv_ra_60 my_ra_checkRole np_ra_checkRole rfl rfl rfl (by decide) rfl rfl (Nat.le_of_ble_eq_true rfl) (Nat.le_of_ble_eq_true rfl) ?_
      refine aw_aload_n dd_ra_rest_10 rfl 0 rfl ?_
      refine aw_getf _ 0 5 dd_ra_rest_11 fl_ra_35 rfl rfl ?_
      refine aw_iload_n dd_ra_rest_14 rfl 1 rfl ?_
      refine aw_iaN _ (j) dd_ra_rest_15 rfl (hj) (by decide) ?_
      refine aw_top (hSs.1 j hj).2 ?_
      refine aw_iload_n dd_ra_rest_16 rfl 2 rfl ?_
      refine aw_cSi mm_ra_has 1 6 [_, _] _ (wc_ra_has G _ (by have := hSs.2.2 j; omega) (by omega)) dd_ra_rest_17 cs_ra_91 my_ra_has np_ra_has rfl (by decide) rfl rfl (Nat.le_of_ble_eq_true rfl) (Nat.le_of_ble_eq_true rfl) ?_
      refine aw_istore_n (lv' := [(3, _), (0, _), (1, _), (2, _)]) dd_ra_rest_20 rfl (by decide) rfl ?_
      refine aw_aload_n dd_ra_rest_21 rfl 1 rfl ?_
      refine aw_getf _ 0 5 dd_ra_rest_22 fl_ra_35 rfl rfl ?_
      refine aw_iload_n dd_ra_rest_25 rfl 2 rfl ?_
      refine aw_dup2 dd_ra_rest_26 rfl rfl ?_
      refine aw_iaN _ (j) dd_ra_rest_27 rfl (hj) (by decide) ?_
      refine aw_top (hSs.1 j hj).2 ?_
      refine aw_iconst (v := 1) dd_ra_rest_28 (by decide) ?_
      refine aw_iload_n dd_ra_rest_29 rfl 3 rfl ?_
      refine aw_ishl dd_ra_rest_30 ?_
      refine aw_iconst (v := (-1)) dd_ra_rest_31 (by decide) ?_
      refine aw_ixor dd_ra_rest_32 ?_
      refine aw_iand dd_ra_rest_33 ?_
      refine aw_top (nI_clr _ (by omega)) ?_
      refine aw_isN _ (j) dd_ra_rest_34 rfl (hj) (by decide) ?_
      refine aw_h (hs_ka6 G _ _ _ _ _ _) ?_
      refine aw_iload_n dd_ra_rest_35 rfl 0 rfl ?_
      exact aw_zret dd_ra_rest_36 rfl (zb_01 _) ⟨_, _, rfl, ⟨hC, hGr, hU, hSL, hDL, hRu, sk_a hSs (bt_cl (n := 6) (hSs.2.2 j)), hDD⟩, Or.inl ⟨rfl, rfl⟩⟩
theorem wc_ra_activate (G : ag_T) (κ : ck_T) (μ : cm_T) (o : Nat → Int64) (rest : List va_E) {A : aa_T} (hR : rk_R G κ rest A) (x y : Int32) : aw_w G mm_ra_activate 7 114 1 6 0 (lv_args 0 [.ref (G.1 + 0), .int x, .int y]) [] (hp_f G κ μ o rest) (qc_R G μ o [8, 10, 7] (ab_activate A x y)) := by
  obtain ⟨hC, hGr, hU, hSL, hDL, hRu, hSs, hDD⟩ := id hR; have hn6 := hC.2.1; have hu5 := hU.2.1
  refine aw_aload_n dd_ra_activate_0 rfl 0 rfl ?_
  refine aw_iload_n dd_ra_activate_1 rfl 1 rfl ?_
  rcases bl_c (se_i A x) with h1 | h1
  · refine aw_cVx mm_ra_checkSession 0 0 _ 0 [_] _ (wc_ra_checkSessionF G κ μ o rest hSs h1) dd_ra_activate_2 cv_ra_158 my_ra_checkSession np_ra_checkSession rfl rfl rfl (by decide) rfl rfl (Nat.le_of_ble_eq_true rfl) (Nat.le_of_ble_eq_true rfl) (fun k9 => ?_)
    rw [ab_activate, if_pos (show (se_i A x && rb_i (ga_n A) y) = false by rw [h1]; rfl)]
    exact aw_out (fun _ h9 => nomatch h9) ⟨_, _, rfl, hR.app _, Or.inr ⟨0, 8, rfl, rfl, rfl⟩⟩
  · refine aw_cVv mm_ra_checkSession 1 6 _ 0 [_] _ (wc_ra_checkSessionT G κ μ o rest hSs h1) dd_ra_activate_2 cv_ra_158 my_ra_checkSession np_ra_checkSession rfl rfl rfl (by decide) rfl rfl (Nat.le_of_ble_eq_true rfl) (Nat.le_of_ble_eq_true rfl) ?_
    refine aw_aload_n dd_ra_activate_5 rfl 0 rfl ?_
    refine aw_iload_n dd_ra_activate_6 rfl 2 rfl ?_
    rcases bl_c (rb_i (ga_n A) y) with h2 | h2
    · refine aw_cVx mm_ra_checkRole 0 0 _ 0 [_] _ (wc_ra_checkRoleF G κ μ o rest (by omega) hC.1 h2) dd_ra_activate_7 cv_ra_60 my_ra_checkRole np_ra_checkRole rfl rfl rfl (by decide) rfl rfl (Nat.le_of_ble_eq_true rfl) (Nat.le_of_ble_eq_true rfl) (fun k9 => ?_)
      rw [ab_activate, if_pos (show (se_i A x && rb_i (ga_n A) y) = false by rw [h1, h2]; rfl)]
      exact aw_out (fun _ h9 => nomatch h9) ⟨_, _, rfl, hR.app _, Or.inr ⟨0, 8, rfl, rfl, rfl⟩⟩
    · rw [ab_activate, if_neg (show ¬ (se_i A x && rb_i (ga_n A) y) = false by rw [h1, h2]; decide)]
      obtain ⟨j, v, hj, rfl, hv⟩ := se_t h1
      obtain ⟨k, hk, rfl⟩ := rb_n (by omega) h2
      rw [iN_n (by omega), iN_n (by omega)]
      refine aw_cVv mm_ra_checkRole 1 6 _ 0 [_] _ (wc_ra_checkRoleT G κ μ o rest (by omega) hC.1 h2) dd_ra_activate_7 cv_ra_60 my_ra_checkRole np_ra_checkRole rfl rfl rfl (by decide) rfl rfl (Nat.le_of_ble_eq_true rfl) (Nat.le_of_ble_eq_true rfl) ?_
      refine aw_aload_n dd_ra_activate_10 rfl 0 rfl ?_
      refine aw_aload_n dd_ra_activate_11 rfl 0 rfl ?_
      refine aw_getf _ 0 4 dd_ra_activate_12 fl_ra_32 rfl rfl ?_
      refine aw_iload_n dd_ra_activate_15 rfl 1 rfl ?_
      refine aw_iaN _ (j) dd_ra_activate_16 rfl (hj) (by decide) ?_
      refine aw_top (y := nI v) (by rw [(hSs.1 j hj).1, hv]; rfl) ?_
      refine aw_cVi mm_ra_authorizedRoles 1 6 _ 0 [_] _ (wc_ra_authorizedRoles G κ μ o rest hC hU (hSs.2.1 j v hv)) dd_ra_activate_17 cv_ra_73 my_ra_authorizedRoles np_ra_authorizedRoles rfl rfl rfl (by decide) rfl rfl (Nat.le_of_ble_eq_true rfl) (Nat.le_of_ble_eq_true rfl) ?_
      refine aw_iload_n dd_ra_activate_20 rfl 2 rfl ?_
      refine aw_cSi mm_ra_has 1 6 [_, _] _ (wc_ra_has G _ (by have := pc_64 hC.2.2.2 (hU.2.2.2 v) (ga_n A); omega) (by omega)) dd_ra_activate_21 cs_ra_91 my_ra_has np_ra_has rfl (by decide) rfl rfl (Nat.le_of_ble_eq_true rfl) (Nat.le_of_ble_eq_true rfl) ?_
      refine aw_if_ne (tgt := 37) dd_ra_activate_24 (by decide) (fun h3 => ?_) (fun h3 => ?_)
      · have h3 := zb_n0 h3
        rw [rm_i A j hj v hv, if_neg (bt_ne h3)]
        have hs : ga_c A j ||| 1 <<< k < 64 := bt_or (n := 6) (hSs.2.2 j) (bt_1 (by omega))
        have hs9 := hSs.2.2 j
        refine aw_aload_n dd_ra_activate_37 rfl 0 rfl ?_
        refine aw_getf _ 0 5 dd_ra_activate_38 fl_ra_35 rfl rfl ?_
        refine aw_iload_n dd_ra_activate_41 rfl 1 rfl ?_
        refine aw_iaN _ (j) dd_ra_activate_42 rfl (hj) (by decide) ?_
        refine aw_top (hSs.1 j hj).2 ?_
        refine aw_iconst (v := (nI 1)) dd_ra_activate_43 (by decide) ?_
        refine aw_iload_n dd_ra_activate_44 rfl 2 rfl ?_
        refine aw_ishl dd_ra_activate_45 ?_
        refine aw_top (nI_shl 1 (by omega)) ?_
        refine aw_ior dd_ra_activate_46 ?_
        refine aw_top (nI_or _ _) ?_
        refine aw_istore_n (lv' := [(3, _), (0, _), (1, _), (2, _)]) dd_ra_activate_47 rfl (by decide) rfl ?_
        refine aw_aload_n dd_ra_activate_48 rfl 1 rfl ?_
        refine aw_getf _ 0 0 dd_ra_activate_49 fl_ra_12 rfl rfl ?_
        refine aw_getf _ 1 3 dd_ra_activate_52 fl_ra_99 rfl rfl ?_
        refine aw_iload_n dd_ra_activate_55 rfl 0 rfl ?_
        refine aw_cSi mm_ra_areKept 1 6 [_, _] _ (wc_ra_areKept1 G κ μ o rest hDL hs) dd_ra_activate_56 cs_ra_166 my_ra_areKept np_ra_areKept rfl (by decide) rfl rfl (Nat.le_of_ble_eq_true rfl) (Nat.le_of_ble_eq_true rfl) ?_
        refine aw_if_ne (tgt := 72) dd_ra_activate_59 (by decide) (fun h4 => ?_) (fun h4 => ?_)
        · have h4 := zb_n0 h4
          rw [if_neg (bt_ne h4)]
          refine aw_join (tgt := 87) (v := zb_i (decide (¬ ga_c A j ||| 1 <<< k = ga_c A j))) ?_ (fun kj72 => ?_)
          · refine aw_istore (lv' := [(4, _), (3, _), (0, _), (1, _), (2, _)]) dd_ra_activate_87 (by decide) rfl ?_
            refine aw_aload_n dd_ra_activate_89 rfl 2 rfl ?_
            refine aw_getf _ 0 5 dd_ra_activate_90 fl_ra_35 rfl rfl ?_
            refine aw_iload_n dd_ra_activate_93 rfl 3 rfl ?_
            refine aw_iload_n dd_ra_activate_94 rfl 1 rfl ?_
            refine aw_isN _ (j) dd_ra_activate_95 rfl (hj) (by decide) ?_
            refine aw_h (hs_ka6 G _ _ _ _ _ _) ?_
            refine aw_iload dd_ra_activate_96 0 rfl ?_
            exact aw_zret dd_ra_activate_98 rfl (zb_01 _) ⟨_, _, rfl, ⟨hC, hGr, hU, hSL, hDL, hRu, sk_a hSs hs, hDD⟩, Or.inl ⟨rfl, rfl⟩⟩
          · refine aw_iload_n dd_ra_activate_72 rfl 0 rfl ?_
            refine aw_aload_n dd_ra_activate_73 rfl 1 rfl ?_
            refine aw_getf _ 0 5 dd_ra_activate_74 fl_ra_35 rfl rfl ?_
            refine aw_iload_n dd_ra_activate_77 rfl 2 rfl ?_
            refine aw_iaN _ (j) dd_ra_activate_78 rfl (hj) (by decide) ?_
            refine aw_top (hSs.1 j hj).2 ?_
            refine aw_icmp_eq (tgt := 86) dd_ra_activate_79 (by decide) (fun h5 => ?_) (fun h5 => ?_)
            · refine aw_iconst (v := 0) dd_ra_activate_86 (by decide) ?_
              exact aw_top (by rw [nI_eq (by omega) (by omega)] at h5; simp [zb_i, h5]) kj72
            · refine aw_iconst (v := 1) dd_ra_activate_82 (by decide) ?_
              refine aw_goto (tgt := 87) dd_ra_activate_83 (by decide) ?_
              exact aw_top (by rw [nI_eq (by omega) (by omega)] at h5; simp [zb_i, h5]) kj72
        · have h4 := zb_e0 h4
          rw [if_pos h4]
          exact aw_throw 7 th_ra_48_170 dd_ra_activate_62 dd_ra_activate_65 dd_ra_activate_66 dd_ra_activate_68 dd_ra_activate_71 (fun _ h9 => nomatch h9) (Nat.le_of_ble_eq_true rfl) (Nat.le_of_ble_eq_true rfl) (by decide) (by decide) ⟨_, _, rfl, hR.app _, Or.inr ⟨2, 7, rfl, rfl, rfl⟩⟩
      · have h3 := zb_e0 h3
        rw [rm_i A j hj v hv, if_pos h3]
        exact aw_throw 10 th_ra_161_163 dd_ra_activate_27 dd_ra_activate_30 dd_ra_activate_31 dd_ra_activate_33 dd_ra_activate_36 (fun _ h9 => nomatch h9) (Nat.le_of_ble_eq_true rfl) (Nat.le_of_ble_eq_true rfl) (by decide) (by decide) ⟨_, _, rfl, hR.app _, Or.inr ⟨1, 10, rfl, rfl, rfl⟩⟩
theorem wl_ra_may (G : ag_T) (κ : ck_T) (μ : cm_T) (o : Nat → Int64) (rest : List va_E) {A : aa_T} (hR : rk_R G κ rest A) {j q : Nat} (hj : j < 4) (hq : q < 31) : ∀ (k r : Nat), r + k = ga_n A → pn_k (fun i => (pc_f (ga_b A) (ga_c A j) (ga_n A)).testBit i && (ga_g A i).testBit q) r = false → aw_w G mm_ra_may 7 114 1 6 27 [(4, .int (nI r)), (3, .int (nI (pc_f (ga_b A) (ga_c A j) (ga_n A)))), (0, .ref (G.1 + 0)), (1, .int (nI j)), (2, .int (nI q))] [] (hp_f G κ μ o rest) (q_i (zb_i (pn_k (fun i => (pc_f (ga_b A) (ga_c A j) (ga_n A)).testBit i && (ga_g A i).testBit q) (ga_n A))) (hp_f G κ μ o rest)) := by
  obtain ⟨hC, hGr, hU, hSL, hDL, hRu, hSs, hDD⟩ := id hR; have hn6 := hC.2.1; have hu5 := hU.2.1
  have hA := pc_64 hC.2.2.2 (hSs.2.2 j) (ga_n A)
  intro k
  induction k with
  | zero =>
    intro r hr hk
    have e : r = ga_n A := by omega
    subst e
    rw [hk]
    refine aw_iload dd_ra_may_27 0 rfl ?_
    refine aw_aload_n dd_ra_may_29 rfl 2 rfl ?_
    refine aw_getf _ 0 0 dd_ra_may_30 fl_ra_12 rfl rfl ?_
    refine aw_getf _ 1 0 dd_ra_may_33 fl_ra_44 rfl rfl ?_
    refine aw_top (hC.1) ?_
    refine aw_icmp_ge (tgt := 70) dd_ra_may_36 (by decide) (fun _ => ?_) (fun h9 => absurd (nI_le (Nat.le_refl _) (by omega)) h9)
    refine aw_iconst (v := 0) dd_ra_may_70 (by decide) ?_
    exact aw_zret dd_ra_may_71 rfl (Or.inl rfl) ⟨rfl, rfl⟩
  | succ k ih =>
    intro r hr hk
    have hyes : ((pc_f (ga_b A) (ga_c A j) (ga_n A)).testBit r && (ga_g A r).testBit q) = true → ∀ m, r < m → pn_k (fun i => (pc_f (ga_b A) (ga_c A j) (ga_n A)).testBit i && (ga_g A i).testBit q) m = true := by
      intro h9 m
      induction m with
      | zero => intro h; omega
      | succ m im =>
        intro h
        unfold pn_k
        by_cases e : m = r
        · subst e; rw [h9, Bool.or_true]
        · rw [im (by omega), Bool.true_or]
    refine aw_iload dd_ra_may_27 0 rfl ?_
    refine aw_aload_n dd_ra_may_29 rfl 2 rfl ?_
    refine aw_getf _ 0 0 dd_ra_may_30 fl_ra_12 rfl rfl ?_
    refine aw_getf _ 1 0 dd_ra_may_33 fl_ra_44 rfl rfl ?_
    refine aw_top (hC.1) ?_
    refine aw_icmp_ge (tgt := 70) dd_ra_may_36 (by decide) (fun h9 => absurd h9 (nI_ge (by omega) (by omega))) (fun _ => ?_)
    refine aw_iload_n dd_ra_may_39 rfl 1 rfl ?_
    refine aw_iload dd_ra_may_40 0 rfl ?_
    refine aw_cSi mm_ra_has 1 6 [_, _] _ (wc_ra_has G _ (by omega) (by omega)) dd_ra_may_42 cs_ra_91 my_ra_has np_ra_has rfl (by decide) rfl rfl (Nat.le_of_ble_eq_true rfl) (Nat.le_of_ble_eq_true rfl) ?_
    refine aw_if_eq (tgt := 64) dd_ra_may_45 (by decide) (fun h1 => ?_) (fun h1 => ?_)
    · have h1 := zb_e0 h1
      refine aw_iinc (v := nI (r + 1)) (lv' := [(4, _), (3, _), (0, _), (1, _), (2, _)]) dd_ra_may_64 0 rfl (nI_1 _) (by decide) rfl ?_
      refine aw_goto (tgt := 27) dd_ra_may_67 (by decide) ?_
      refine ih (r + 1) (by omega) ?_
      unfold pn_k
      rw [hk]
      first | (rw [h1]; rfl) | (rw [h2, Bool.and_false]; rfl)
    · have h1 := zb_n0 h1
      refine aw_aload_n dd_ra_may_48 rfl 2 rfl ?_
      refine aw_getf _ 0 3 dd_ra_may_49 fl_ra_29 rfl rfl ?_
      refine aw_iload dd_ra_may_52 0 rfl ?_
      refine aw_iaN _ (r) dd_ra_may_54 rfl (by omega) (by decide) ?_
      refine aw_top (hGr.1 r (by omega)) ?_
      refine aw_iload_n dd_ra_may_55 rfl 4 rfl ?_
      refine aw_cSi mm_ra_has 1 6 [_, _] _ (wc_ra_has G _ (hGr.2 r) (by omega)) dd_ra_may_56 cs_ra_91 my_ra_has np_ra_has rfl (by decide) rfl rfl (Nat.le_of_ble_eq_true rfl) (Nat.le_of_ble_eq_true rfl) ?_
      refine aw_if_eq (tgt := 64) dd_ra_may_59 (by decide) (fun h2 => ?_) (fun h2 => ?_)
      · have h2 := zb_e0 h2
        refine aw_iinc (v := nI (r + 1)) (lv' := [(4, _), (3, _), (0, _), (1, _), (2, _)]) dd_ra_may_64 0 rfl (nI_1 _) (by decide) rfl ?_
        refine aw_goto (tgt := 27) dd_ra_may_67 (by decide) ?_
        refine ih (r + 1) (by omega) ?_
        unfold pn_k
        rw [hk]
        first | (rw [h1]; rfl) | (rw [h2, Bool.and_false]; rfl)
      · have h2 := zb_n0 h2
        rw [hyes (by rw [h1, h2]; rfl) (ga_n A) (by omega)]
        refine aw_iconst (v := 1) dd_ra_may_62 (by decide) ?_
        exact aw_zret dd_ra_may_63 rfl (Or.inr rfl) ⟨rfl, rfl⟩
theorem wc_ra_may (G : ag_T) (κ : ck_T) (μ : cm_T) (o : Nat → Int64) (rest : List va_E) {A : aa_T} (hR : rk_R G κ rest A) (x y : Int32) : aw_w G mm_ra_may 7 114 1 6 0 (lv_args 0 [.ref (G.1 + 0), .int x, .int y]) [] (hp_f G κ μ o rest) (qc_R G μ o [8] (ab_may A x y)) := by
  obtain ⟨hC, hGr, hU, hSL, hDL, hRu, hSs, hDD⟩ := id hR; have hn6 := hC.2.1; have hu5 := hU.2.1
  refine aw_aload_n dd_ra_may_0 rfl 0 rfl ?_
  refine aw_iload_n dd_ra_may_1 rfl 1 rfl ?_
  rcases bl_c (se_i A x) with h1 | h1
  · refine aw_cVx mm_ra_checkSession 0 0 _ 0 [_] _ (wc_ra_checkSessionF G κ μ o rest hSs h1) dd_ra_may_2 cv_ra_158 my_ra_checkSession np_ra_checkSession rfl rfl rfl (by decide) rfl rfl (Nat.le_of_ble_eq_true rfl) (Nat.le_of_ble_eq_true rfl) (fun k9 => ?_)
    rw [ab_may, if_pos (show (se_i A x && pm_i y) = false by rw [h1]; rfl)]
    exact aw_out (fun _ h9 => nomatch h9) ⟨_, _, rfl, hR.app _, Or.inr ⟨0, 8, rfl, rfl, rfl⟩⟩
  · refine aw_cVv mm_ra_checkSession 1 6 _ 0 [_] _ (wc_ra_checkSessionT G κ μ o rest hSs h1) dd_ra_may_2 cv_ra_158 my_ra_checkSession np_ra_checkSession rfl rfl rfl (by decide) rfl rfl (Nat.le_of_ble_eq_true rfl) (Nat.le_of_ble_eq_true rfl) ?_
    refine aw_iload_n dd_ra_may_5 rfl 2 rfl ?_
    rcases bl_c (pm_i y) with h2 | h2
    · refine aw_cSx mm_ra_checkPermission 0 0 [_] _ (wc_ra_checkPermissionF G _ h2) dd_ra_may_6 cs_ra_88 my_ra_checkPermission np_ra_checkPermission rfl (by decide) rfl rfl (Nat.le_of_ble_eq_true rfl) (Nat.le_of_ble_eq_true rfl) (fun k9 => ?_)
      rw [ab_may, if_pos (show (se_i A x && pm_i y) = false by rw [h1, h2]; rfl)]
      exact aw_out (fun _ h9 => nomatch h9) ⟨_, _, rfl, hR.app _, Or.inr ⟨0, 8, rfl, rfl, rfl⟩⟩
    · rw [ab_may, if_neg (show ¬ (se_i A x && pm_i y) = false by rw [h1, h2]; decide)]
      obtain ⟨j, v, hj, rfl, hv⟩ := se_t h1
      obtain ⟨q, hq, rfl⟩ := pm_n h2
      rw [iN_n (by omega), iN_n (by omega)]
      refine aw_cSv mm_ra_checkPermission 1 6 [_] _ (wc_ra_checkPermissionT G _ h2) dd_ra_may_6 cs_ra_88 my_ra_checkPermission np_ra_checkPermission rfl (by decide) rfl rfl (Nat.le_of_ble_eq_true rfl) (Nat.le_of_ble_eq_true rfl) ?_
      refine aw_aload_n dd_ra_may_9 rfl 0 rfl ?_
      refine aw_getf _ 0 0 dd_ra_may_10 fl_ra_12 rfl rfl ?_
      refine aw_getf _ 1 1 dd_ra_may_13 fl_ra_172 rfl rfl ?_
      refine aw_aload_n dd_ra_may_16 rfl 0 rfl ?_
      refine aw_getf _ 0 5 dd_ra_may_17 fl_ra_35 rfl rfl ?_
      refine aw_iload_n dd_ra_may_20 rfl 1 rfl ?_
      refine aw_iaN _ (j) dd_ra_may_21 rfl (hj) (by decide) ?_
      refine aw_top (hSs.1 j hj).2 ?_
      refine aw_iaN _ (ga_c A j) dd_ra_may_22 rfl (hSs.2.2 j) (by decide) ?_
      refine aw_top (hC.2.2.1 _ (hSs.2.2 j)) ?_
      refine aw_istore_n (lv' := [(3, _), (0, _), (1, _), (2, _)]) dd_ra_may_23 rfl (by decide) rfl ?_
      refine aw_iconst (v := (nI 0)) dd_ra_may_24 (by decide) ?_
      refine aw_istore (lv' := [(4, _), (3, _), (0, _), (1, _), (2, _)]) dd_ra_may_25 (by decide) rfl ?_
      refine aw_mono ?_ (wl_ra_may G κ μ o rest hR hj hq (ga_n A) 0 (Nat.zero_add _) rfl)
      rintro o9 h9 ⟨rfl, rfl⟩
      exact ⟨_, _, rfl, hR, Or.inl ⟨rfl, rfl⟩⟩
theorem wl_ra_open (G : ag_T) (κ : ck_T) (μ : cm_T) (o : Nat → Int64) (rest : List va_E) {A : aa_T} (hR : rk_R G κ rest A) (hW : wa_W A) {v : Nat} (hv : v < ga_u A) : ∀ (k r : Nat), r + k = 4 → (∀ s, s < r → (ga_o A s).isSome = true) → aw_w G mm_ra_open 7 114 1 6 7 [(2, .int (nI r)), (0, .ref (G.1 + 0)), (1, .int (nI v))] [] (hp_f G κ μ o rest) (qc_R G μ o [8, 7] (ab_open A (nI v))) := by
  obtain ⟨hC, hGr, hU, hSL, hDL, hRu, hSs, hDD⟩ := id hR; have hn6 := hC.2.1; have hu5 := hU.2.1
  have hrb := rb_t (n := ga_u A) (by omega) hv
  intro k
  induction k with
  | zero =>
    intro r hr hs
    have e : r = 4 := by omega
    subst e
    have e9 := fr_4 hs (fun h9 => absurd h9 (by decide)) (by decide)
    rw [ab_open, if_neg (bt_ne hrb), if_pos (by rw [e9]; decide)]
    refine aw_iload_n dd_ra_open_7 rfl 0 rfl ?_
    refine aw_iconst (v := (nI 4)) dd_ra_open_8 (by decide) ?_
    refine aw_icmp_ge (tgt := 37) dd_ra_open_9 (by decide) (fun _ => ?_) (fun h9 => absurd (nI_le (Nat.le_refl _) (by decide)) h9)
    exact aw_throw 7 th_ra_48_156 dd_ra_open_37 dd_ra_open_40 dd_ra_open_41 dd_ra_open_43 dd_ra_open_46 (fun _ h9 => nomatch h9) (Nat.le_of_ble_eq_true rfl) (Nat.le_of_ble_eq_true rfl) (by decide) (by decide) ⟨_, _, rfl, hR.app _, Or.inr ⟨1, 7, rfl, rfl, rfl⟩⟩
  | succ k ih =>
    intro r hr hs
    have h5 := (hSs.1 r (by omega)).1
    refine aw_iload_n dd_ra_open_7 rfl 0 rfl ?_
    refine aw_iconst (v := (nI 4)) dd_ra_open_8 (by decide) ?_
    refine aw_icmp_ge (tgt := 37) dd_ra_open_9 (by decide) (fun h9 => absurd h9 (nI_ge (by omega) (by decide))) (fun _ => ?_)
    refine aw_aload_n dd_ra_open_12 rfl 1 rfl ?_
    refine aw_getf _ 0 4 dd_ra_open_13 fl_ra_32 rfl rfl ?_
    refine aw_iload_n dd_ra_open_16 rfl 0 rfl ?_
    refine aw_iaN _ (r) dd_ra_open_17 rfl (by omega) (by decide) ?_
    refine aw_top h5 ?_
    refine aw_iconst (v := (-1)) dd_ra_open_18 (by decide) ?_
    refine aw_icmp_ne (tgt := 31) dd_ra_open_19 (by decide) (fun h1 => ?_) (fun h1 => ?_)
    · have hsome : (ga_o A r).isSome = true := by
        cases ho : ga_o A r with
        | none => (rw [ho] at h1; exact absurd rfl h1)
        | some w => rfl
      refine aw_iinc (v := nI (r + 1)) (lv' := [(2, _), (0, _), (1, _)]) dd_ra_open_31 0 rfl (nI_1 _) (by decide) rfl ?_
      refine aw_goto (tgt := 7) dd_ra_open_34 (by decide) ?_
      refine ih (r + 1) (by omega) (fun s h9 => ?_)
      by_cases e : s = r
      · subst e; exact hsome
      · exact hs s (by omega)
    · have hnone : ga_o A r = none := by
        cases ho : ga_o A r with
        | none => rfl
        | some w =>
          rw [ho] at h1
          have h8 := nI_pos (n := w) (by have := hSs.2.1 r w ho; omega)
          rw [show nI w = -1 from h1] at h8
          exact absurd (by decide) h8
      have e9 := fr_4 hs (fun _ => hnone) (by omega)
      rw [ab_open, if_neg (bt_ne hrb), e9, if_neg (show ¬ ¬ r < 4 from fun h9 => h9 (by omega)), iN_n (by omega)]
      refine aw_aload_n dd_ra_open_22 rfl 1 rfl ?_
      refine aw_getf _ 0 4 dd_ra_open_23 fl_ra_32 rfl rfl ?_
      refine aw_iload_n dd_ra_open_26 rfl 0 rfl ?_
      refine aw_iload_n dd_ra_open_27 rfl 2 rfl ?_
      refine aw_isN _ (r) dd_ra_open_28 rfl (by omega) (by decide) ?_
      refine aw_h (hs_ka5 G _ _ _ _ _ _) ?_
      refine aw_iload_n dd_ra_open_29 rfl 0 rfl ?_
      exact aw_iret dd_ra_open_30 rfl ⟨_, _, rfl, ⟨hC, hGr, hU, hSL, hDL, hRu, sk_o hSs (by omega) ((hW.2.2.2.2.2.2.2.1 r).1 hnone), hDD⟩, Or.inl ⟨rfl, rfl⟩⟩
theorem wc_ra_open (G : ag_T) (κ : ck_T) (μ : cm_T) (o : Nat → Int64) (rest : List va_E) {A : aa_T} (hR : rk_R G κ rest A) (hW : wa_W A) (x : Int32) : aw_w G mm_ra_open 7 114 1 6 0 (lv_args 0 [.ref (G.1 + 0), .int x]) [] (hp_f G κ μ o rest) (qc_R G μ o [8, 7] (ab_open A x)) := by
  obtain ⟨hC, hGr, hU, hSL, hDL, hRu, hSs, hDD⟩ := id hR; have hn6 := hC.2.1; have hu5 := hU.2.1
  refine aw_aload_n dd_ra_open_0 rfl 0 rfl ?_
  refine aw_iload_n dd_ra_open_1 rfl 1 rfl ?_
  rcases bl_c (rb_i (ga_u A) x) with h1 | h1
  · refine aw_cVx mm_ra_checkUser 0 0 _ 0 [_] _ (wc_ra_checkUserF G κ μ o rest (by omega) hU.1 h1) dd_ra_open_2 cv_ra_143 my_ra_checkUser np_ra_checkUser rfl rfl rfl (by decide) rfl rfl (Nat.le_of_ble_eq_true rfl) (Nat.le_of_ble_eq_true rfl) (fun k9 => ?_)
    rw [ab_open, if_pos h1]
    exact aw_out (fun _ h9 => nomatch h9) ⟨_, _, rfl, hR.app _, Or.inr ⟨0, 8, rfl, rfl, rfl⟩⟩
  · obtain ⟨j, hj, rfl⟩ := rb_n (by omega) h1
    refine aw_cVv mm_ra_checkUser 1 6 _ 0 [_] _ (wc_ra_checkUserT G κ μ o rest (by omega) hU.1 h1) dd_ra_open_2 cv_ra_143 my_ra_checkUser np_ra_checkUser rfl rfl rfl (by decide) rfl rfl (Nat.le_of_ble_eq_true rfl) (Nat.le_of_ble_eq_true rfl) ?_
    refine aw_iconst (v := (nI 0)) dd_ra_open_5 (by decide) ?_
    refine aw_istore_n (lv' := [(2, _), (0, _), (1, _)]) dd_ra_open_6 rfl (by decide) rfl ?_
    exact wl_ra_open G κ μ o rest hR hW hj 4 0 rfl (fun s h9 => absurd h9 (Nat.not_lt_zero s))
