/-! ===== the class: helpers ===== -/
theorem wc_ra_has (G : ag_T) (h : List va_E)  {s m : Nat} (hs : s < 2 ^ 31) (hm : m < 32) : aw_w G mm_ra_has 0 0 0 0 0 (lv_args 0 [.int (nI s), .int (nI m)]) [] h (q_i (zb_i (s.testBit m)) h) := by
  refine aw_iload_n dd_ra_has_0 rfl 0 rfl ?_
  refine aw_iload_n dd_ra_has_1 rfl 1 rfl ?_
  refine aw_ishr dd_ra_has_2 ?_
  refine aw_iconst (v := 1) dd_ra_has_3 (by decide) ?_
  refine aw_iand dd_ra_has_4 ?_
  refine aw_top (nI_bit hs hm) ?_
  refine aw_iconst (v := 1) dd_ra_has_5 (by decide) ?_
  refine aw_icmp_ne (tgt := 13) dd_ra_has_6 (by decide) (fun h1 => ?_) (fun h1 => ?_)
  · refine aw_iconst (v := 0) dd_ra_has_13 (by decide) ?_
    exact aw_zret dd_ra_has_14 rfl (by first | exact Or.inl rfl | exact Or.inr rfl) ⟨by simp only [zb_q1] at h1; simp [zb_i, h1], rfl⟩
  · refine aw_iconst (v := 1) dd_ra_has_9 (by decide) ?_
    refine aw_goto (tgt := 14) dd_ra_has_10 (by decide) ?_
    exact aw_zret dd_ra_has_14 rfl (by first | exact Or.inl rfl | exact Or.inr rfl) ⟨by simp only [zb_q1] at h1; simp [zb_i, h1], rfl⟩
theorem wc_ra_authorizedRoles (G : ag_T) (κ : ck_T) (μ : cm_T) (o : Nat → Int64) (rest : List va_E) {n : Nat} {bel : Nat → Nat} (hC : rk_c κ n bel) {u : Nat} {asg : Nat → Nat} (hU : rk_u κ u asg) {v : Nat} (hv : v < 5) : aw_w G mm_ra_authorizedRoles 0 0 0 0 0 (lv_args 0 [.ref (G.1 + 0), .int (nI v)]) [] (hp_f G κ μ o rest) (q_i (nI (pc_f bel (asg v) n)) (hp_f G κ μ o rest)) := by
  refine aw_aload_n dd_ra_authorizedRoles_0 rfl 0 rfl ?_
  refine aw_getf _ 0 0 dd_ra_authorizedRoles_1 fl_ra_12 rfl rfl ?_
  refine aw_getf _ 1 1 dd_ra_authorizedRoles_4 fl_ra_172 rfl rfl ?_
  refine aw_aload_n dd_ra_authorizedRoles_7 rfl 0 rfl ?_
  refine aw_getf _ 0 2 dd_ra_authorizedRoles_8 fl_ra_25 rfl rfl ?_
  refine aw_iload_n dd_ra_authorizedRoles_11 rfl 1 rfl ?_
  refine aw_iaN _ (v) dd_ra_authorizedRoles_12 rfl (hv) (by decide) ?_
  refine aw_top (hU.2.2.1 v hv) ?_
  refine aw_iaN _ (asg v) dd_ra_authorizedRoles_13 rfl (hU.2.2.2 v) (by decide) ?_
  refine aw_top (hC.2.2.1 _ (hU.2.2.2 v)) ?_
  exact aw_iret dd_ra_authorizedRoles_14 rfl ⟨rfl, rfl⟩
theorem wc_ra_checkRoleT (G : ag_T) (κ : ck_T) (μ : cm_T) (o : Nat → Int64) (rest : List va_E) {n : Nat} (h31 : n < 2 ^ 31) (hn : κ.1 0 = nI n) {x : Int32} (hx : rb_i n x = true) : aw_w G mm_ra_checkRole 6 93 0 0 0 (lv_args 0 [.ref (G.1 + 0), .int x]) [] (hp_f G κ μ o rest) (q_v (hp_f G κ μ o rest)) := by
  obtain ⟨j, hj, rfl⟩ := rb_n h31 hx
  refine aw_iload_n dd_ra_checkRole_0 rfl 1 rfl ?_
  refine aw_if_lt (tgt := 15) dd_ra_checkRole_1 (by decide) (fun h9 => absurd h9 (nI_pos (by omega))) (fun _ => ?_)
  refine aw_iload_n dd_ra_checkRole_4 rfl 1 rfl ?_
  refine aw_aload_n dd_ra_checkRole_5 rfl 0 rfl ?_
  refine aw_getf _ 0 0 dd_ra_checkRole_6 fl_ra_12 rfl rfl ?_
  refine aw_getf _ 1 0 dd_ra_checkRole_9 fl_ra_44 rfl rfl ?_
  refine aw_top (hn) ?_
  refine aw_icmp_lt (tgt := 25) dd_ra_checkRole_12 (by decide) (fun _ => ?_) (fun h9 => absurd (nI_lt hj h31) h9)
  exact aw_vret dd_ra_checkRole_25 rfl ⟨rfl, rfl⟩
theorem wc_ra_checkRoleF (G : ag_T) (κ : ck_T) (μ : cm_T) (o : Nat → Int64) (rest : List va_E) {n : Nat} (h31 : n < 2 ^ 31) (hn : κ.1 0 = nI n) {x : Int32} (hx : rb_i n x = false) : aw_w G mm_ra_checkRole 6 93 1 6 0 (lv_args 0 [.ref (G.1 + 0), .int x]) [] (hp_f G κ μ o rest) (q_x 8 (hp_f G κ μ o (rest ++ [.inr (8, [])]))) := by
  refine aw_iload_n dd_ra_checkRole_0 rfl 1 rfl ?_
  refine aw_if_lt (tgt := 15) dd_ra_checkRole_1 (by decide) (fun h1 => ?_) (fun h1 => ?_)
  · exact aw_throw 8 th_ra_195_197 dd_ra_checkRole_15 dd_ra_checkRole_18 dd_ra_checkRole_19 dd_ra_checkRole_21 dd_ra_checkRole_24 (fun _ h9 => nomatch h9) (Nat.le_of_ble_eq_true rfl) (Nat.le_of_ble_eq_true rfl) (by decide) (by decide) ⟨rfl, rfl⟩
  · refine aw_iload_n dd_ra_checkRole_4 rfl 1 rfl ?_
    refine aw_aload_n dd_ra_checkRole_5 rfl 0 rfl ?_
    refine aw_getf _ 0 0 dd_ra_checkRole_6 fl_ra_12 rfl rfl ?_
    refine aw_getf _ 1 0 dd_ra_checkRole_9 fl_ra_44 rfl rfl ?_
    refine aw_top (hn) ?_
    refine aw_icmp_lt (tgt := 25) dd_ra_checkRole_12 (by decide) (fun h9 => absurd h9 (fun h9 => by unfold rb_i at hx; rw [decide_eq_false_iff_not] at hx; exact hx ⟨h1, fun h8 => absurd h9 (Int32.not_lt.mpr h8)⟩)) (fun _ => ?_)
    exact aw_throw 8 th_ra_195_197 dd_ra_checkRole_15 dd_ra_checkRole_18 dd_ra_checkRole_19 dd_ra_checkRole_21 dd_ra_checkRole_24 (fun _ h9 => nomatch h9) (Nat.le_of_ble_eq_true rfl) (Nat.le_of_ble_eq_true rfl) (by decide) (by decide) ⟨rfl, rfl⟩
theorem wc_ra_checkUserT (G : ag_T) (κ : ck_T) (μ : cm_T) (o : Nat → Int64) (rest : List va_E) {u : Nat} (h31 : u < 2 ^ 31) (hn : κ.1 3 = nI u) {x : Int32} (hx : rb_i u x = true) : aw_w G mm_ra_checkUser 6 93 0 0 0 (lv_args 0 [.ref (G.1 + 0), .int x]) [] (hp_f G κ μ o rest) (q_v (hp_f G κ μ o rest)) := by
  obtain ⟨j, hj, rfl⟩ := rb_n h31 hx
  refine aw_iload_n dd_ra_checkUser_0 rfl 1 rfl ?_
  refine aw_if_lt (tgt := 12) dd_ra_checkUser_1 (by decide) (fun h9 => absurd h9 (nI_pos (by omega))) (fun _ => ?_)
  refine aw_iload_n dd_ra_checkUser_4 rfl 1 rfl ?_
  refine aw_aload_n dd_ra_checkUser_5 rfl 0 rfl ?_
  refine aw_getf _ 0 6 dd_ra_checkUser_6 fl_ra_55 rfl rfl ?_
  refine aw_top (hn) ?_
  refine aw_icmp_lt (tgt := 22) dd_ra_checkUser_9 (by decide) (fun _ => ?_) (fun h9 => absurd (nI_lt hj h31) h9)
  exact aw_vret dd_ra_checkUser_22 rfl ⟨rfl, rfl⟩
theorem wc_ra_checkUserF (G : ag_T) (κ : ck_T) (μ : cm_T) (o : Nat → Int64) (rest : List va_E) {u : Nat} (h31 : u < 2 ^ 31) (hn : κ.1 3 = nI u) {x : Int32} (hx : rb_i u x = false) : aw_w G mm_ra_checkUser 6 93 1 6 0 (lv_args 0 [.ref (G.1 + 0), .int x]) [] (hp_f G κ μ o rest) (q_x 8 (hp_f G κ μ o (rest ++ [.inr (8, [])]))) := by
  refine aw_iload_n dd_ra_checkUser_0 rfl 1 rfl ?_
  refine aw_if_lt (tgt := 12) dd_ra_checkUser_1 (by decide) (fun h1 => ?_) (fun h1 => ?_)
  · exact aw_throw 8 th_ra_195_200 dd_ra_checkUser_12 dd_ra_checkUser_15 dd_ra_checkUser_16 dd_ra_checkUser_18 dd_ra_checkUser_21 (fun _ h9 => nomatch h9) (Nat.le_of_ble_eq_true rfl) (Nat.le_of_ble_eq_true rfl) (by decide) (by decide) ⟨rfl, rfl⟩
  · refine aw_iload_n dd_ra_checkUser_4 rfl 1 rfl ?_
    refine aw_aload_n dd_ra_checkUser_5 rfl 0 rfl ?_
    refine aw_getf _ 0 6 dd_ra_checkUser_6 fl_ra_55 rfl rfl ?_
    refine aw_top (hn) ?_
    refine aw_icmp_lt (tgt := 22) dd_ra_checkUser_9 (by decide) (fun h9 => absurd h9 (fun h9 => by unfold rb_i at hx; rw [decide_eq_false_iff_not] at hx; exact hx ⟨h1, fun h8 => absurd h9 (Int32.not_lt.mpr h8)⟩)) (fun _ => ?_)
    exact aw_throw 8 th_ra_195_200 dd_ra_checkUser_12 dd_ra_checkUser_15 dd_ra_checkUser_16 dd_ra_checkUser_18 dd_ra_checkUser_21 (fun _ h9 => nomatch h9) (Nat.le_of_ble_eq_true rfl) (Nat.le_of_ble_eq_true rfl) (by decide) (by decide) ⟨rfl, rfl⟩
theorem wc_ra_checkSessionT (G : ag_T) (κ : ck_T) (μ : cm_T) (o : Nat → Int64) (rest : List va_E) {A : aa_T} (hS : rk_s κ (ga_o A) (ga_c A)) {x : Int32} (hx : se_i A x = true) : aw_w G mm_ra_checkSession 6 93 0 0 0 (lv_args 0 [.ref (G.1 + 0), .int x]) [] (hp_f G κ μ o rest) (q_v (hp_f G κ μ o rest)) := by
  obtain ⟨j, v, hj, rfl, hv⟩ := se_t hx
  have hv5 := hS.2.1 j v hv
  refine aw_iload_n dd_ra_checkSession_0 rfl 1 rfl ?_
  refine aw_if_lt (tgt := 19) dd_ra_checkSession_1 (by decide) (fun h9 => absurd h9 (nI_pos (by omega))) (fun _ => ?_)
  refine aw_iload_n dd_ra_checkSession_4 rfl 1 rfl ?_
  refine aw_iconst (v := (nI 4)) dd_ra_checkSession_5 (by decide) ?_
  refine aw_icmp_ge (tgt := 19) dd_ra_checkSession_6 (by decide) (fun h9 => absurd h9 (nI_ge hj (by decide))) (fun _ => ?_)
  refine aw_aload_n dd_ra_checkSession_9 rfl 0 rfl ?_
  refine aw_getf _ 0 4 dd_ra_checkSession_10 fl_ra_32 rfl rfl ?_
  refine aw_iload_n dd_ra_checkSession_13 rfl 1 rfl ?_
  refine aw_iaN _ (j) dd_ra_checkSession_14 rfl (hj) (by decide) ?_
  refine aw_top (y := nI v) (by rw [(hS.1 j hj).1, hv]; rfl) ?_
  refine aw_iconst (v := (-1)) dd_ra_checkSession_15 (by decide) ?_
  refine aw_icmp_ne (tgt := 29) dd_ra_checkSession_16 (by decide) (fun _ => ?_) (fun h9 => absurd h9 (fun h9 => by have h8 := nI_pos (n := v) (by omega); rw [h9] at h8; exact h8 (by decide)))
  exact aw_vret dd_ra_checkSession_29 rfl ⟨rfl, rfl⟩
theorem wc_ra_checkSessionF (G : ag_T) (κ : ck_T) (μ : cm_T) (o : Nat → Int64) (rest : List va_E) {A : aa_T} (hS : rk_s κ (ga_o A) (ga_c A)) {x : Int32} (hx : se_i A x = false) : aw_w G mm_ra_checkSession 6 93 1 6 0 (lv_args 0 [.ref (G.1 + 0), .int x]) [] (hp_f G κ μ o rest) (q_x 8 (hp_f G κ μ o (rest ++ [.inr (8, [])]))) := by
  refine aw_iload_n dd_ra_checkSession_0 rfl 1 rfl ?_
  refine aw_if_lt (tgt := 19) dd_ra_checkSession_1 (by decide) (fun h1 => ?_) (fun h1 => ?_)
  · exact aw_throw 8 th_ra_195_202 dd_ra_checkSession_19 dd_ra_checkSession_22 dd_ra_checkSession_23 dd_ra_checkSession_25 dd_ra_checkSession_28 (fun _ h9 => nomatch h9) (Nat.le_of_ble_eq_true rfl) (Nat.le_of_ble_eq_true rfl) (by decide) (by decide) ⟨rfl, rfl⟩
  · refine aw_iload_n dd_ra_checkSession_4 rfl 1 rfl ?_
    refine aw_iconst (v := 4) dd_ra_checkSession_5 (by decide) ?_
    refine aw_icmp_ge (tgt := 19) dd_ra_checkSession_6 (by decide) (fun h2 => ?_) (fun h2 => ?_)
    · exact aw_throw 8 th_ra_195_202 dd_ra_checkSession_19 dd_ra_checkSession_22 dd_ra_checkSession_23 dd_ra_checkSession_25 dd_ra_checkSession_28 (fun _ h9 => nomatch h9) (Nat.le_of_ble_eq_true rfl) (Nat.le_of_ble_eq_true rfl) (by decide) (by decide) ⟨rfl, rfl⟩
    · obtain ⟨j, hj, rfl⟩ := se_n h1 h2
      have hnone : ga_o A j = none := by
        unfold se_i at hx
        rw [iN_n (by omega), show decide (¬ nI j < 0 ∧ ¬ 4 ≤ nI j) = true from decide_eq_true ⟨h1, h2⟩, Bool.true_and] at hx
        simpa using hx
      refine aw_aload_n dd_ra_checkSession_9 rfl 0 rfl ?_
      refine aw_getf _ 0 4 dd_ra_checkSession_10 fl_ra_32 rfl rfl ?_
      refine aw_iload_n dd_ra_checkSession_13 rfl 1 rfl ?_
      refine aw_iaN _ (j) dd_ra_checkSession_14 rfl (hj) (by decide) ?_
      refine aw_top (y := -1) (by rw [(hS.1 j hj).1, hnone]; rfl) ?_
      refine aw_iconst (v := (-1)) dd_ra_checkSession_15 (by decide) ?_
      refine aw_icmp_ne (tgt := 29) dd_ra_checkSession_16 (by decide) (fun h9 => absurd (rfl) h9) (fun _ => ?_)
      exact aw_throw 8 th_ra_195_202 dd_ra_checkSession_19 dd_ra_checkSession_22 dd_ra_checkSession_23 dd_ra_checkSession_25 dd_ra_checkSession_28 (fun _ h9 => nomatch h9) (Nat.le_of_ble_eq_true rfl) (Nat.le_of_ble_eq_true rfl) (by decide) (by decide) ⟨rfl, rfl⟩
theorem wc_ra_checkPermissionT (G : ag_T) (h : List va_E)  {x : Int32} (hx : pm_i x = true) : aw_w G mm_ra_checkPermission 6 93 0 0 0 (lv_args 0 [.int x]) [] h (q_v h) := by
  obtain ⟨j, hj, rfl⟩ := pm_n hx
  refine aw_iload_n dd_ra_checkPermission_0 rfl 0 rfl ?_
  refine aw_if_lt (tgt := 10) dd_ra_checkPermission_1 (by decide) (fun h9 => absurd h9 (nI_pos (by omega))) (fun _ => ?_)
  refine aw_iload_n dd_ra_checkPermission_4 rfl 0 rfl ?_
  refine aw_bipush (v := (nI 31)) dd_ra_checkPermission_5 (by decide) ?_
  refine aw_icmp_lt (tgt := 20) dd_ra_checkPermission_7 (by decide) (fun _ => ?_) (fun h9 => absurd (nI_lt hj (by decide)) h9)
  exact aw_vret dd_ra_checkPermission_20 rfl ⟨rfl, rfl⟩
theorem wc_ra_checkPermissionF (G : ag_T) (h : List va_E)  {x : Int32} (hx : pm_i x = false) : aw_w G mm_ra_checkPermission 6 93 1 6 0 (lv_args 0 [.int x]) [] h (q_x 8 (h ++ [.inr (8, [])])) := by
  refine aw_iload_n dd_ra_checkPermission_0 rfl 0 rfl ?_
  refine aw_if_lt (tgt := 10) dd_ra_checkPermission_1 (by decide) (fun h1 => ?_) (fun h1 => ?_)
  · exact aw_throw 8 th_ra_195_219 dd_ra_checkPermission_10 dd_ra_checkPermission_13 dd_ra_checkPermission_14 dd_ra_checkPermission_16 dd_ra_checkPermission_19 (fun _ h9 => nomatch h9) (Nat.le_of_ble_eq_true rfl) (Nat.le_of_ble_eq_true rfl) (by decide) (by decide) ⟨rfl, rfl⟩
  · obtain ⟨j, hj, rfl⟩ := nI_of h1
    have hb : 31 ≤ j := by
      unfold pm_i at hx
      rw [decide_eq_false_iff_not] at hx
      refine Nat.le_of_not_lt fun h9 => hx ⟨h1, ?_⟩
      exact nI_nlt (b := j) (a := 30) (by omega) (by decide)
    refine aw_iload_n dd_ra_checkPermission_4 rfl 0 rfl ?_
    refine aw_bipush (v := (nI 31)) dd_ra_checkPermission_5 (by decide) ?_
    refine aw_icmp_lt (tgt := 20) dd_ra_checkPermission_7 (by decide) (fun h9 => absurd h9 (nI_nlt hb hj)) (fun _ => ?_)
    exact aw_throw 8 th_ra_195_219 dd_ra_checkPermission_10 dd_ra_checkPermission_13 dd_ra_checkPermission_14 dd_ra_checkPermission_16 dd_ra_checkPermission_19 (fun _ h9 => nomatch h9) (Nat.le_of_ble_eq_true rfl) (Nat.le_of_ble_eq_true rfl) (by decide) (by decide) ⟨rfl, rfl⟩
theorem wc_ra_checkRoleSetT (G : ag_T) (h : List va_E)  {x : Int32} (hx : st_i x = true) : aw_w G mm_ra_checkRoleSet 6 93 0 0 0 (lv_args 0 [.int x]) [] h (q_v h) := by
  obtain ⟨j, hj, rfl⟩ := st_n hx
  refine aw_iload_n dd_ra_checkRoleSet_0 rfl 0 rfl ?_
  refine aw_if_lt (tgt := 10) dd_ra_checkRoleSet_1 (by decide) (fun h9 => absurd h9 (nI_pos (by omega))) (fun _ => ?_)
  refine aw_iload_n dd_ra_checkRoleSet_4 rfl 0 rfl ?_
  refine aw_bipush (v := (nI 64)) dd_ra_checkRoleSet_5 (by decide) ?_
  refine aw_icmp_lt (tgt := 20) dd_ra_checkRoleSet_7 (by decide) (fun _ => ?_) (fun h9 => absurd (nI_lt hj (by decide)) h9)
  exact aw_vret dd_ra_checkRoleSet_20 rfl ⟨rfl, rfl⟩
theorem wc_ra_checkRoleSetF (G : ag_T) (h : List va_E)  {x : Int32} (hx : st_i x = false) : aw_w G mm_ra_checkRoleSet 6 93 1 6 0 (lv_args 0 [.int x]) [] h (q_x 9 (h ++ [.inr (9, [])])) := by
  refine aw_iload_n dd_ra_checkRoleSet_0 rfl 0 rfl ?_
  refine aw_if_lt (tgt := 10) dd_ra_checkRoleSet_1 (by decide) (fun h1 => ?_) (fun h1 => ?_)
  · exact aw_throw 9 th_ra_68_221 dd_ra_checkRoleSet_10 dd_ra_checkRoleSet_13 dd_ra_checkRoleSet_14 dd_ra_checkRoleSet_16 dd_ra_checkRoleSet_19 (fun _ h9 => nomatch h9) (Nat.le_of_ble_eq_true rfl) (Nat.le_of_ble_eq_true rfl) (by decide) (by decide) ⟨rfl, rfl⟩
  · obtain ⟨j, hj, rfl⟩ := nI_of h1
    have hb : 64 ≤ j := by
      unfold st_i at hx
      rw [decide_eq_false_iff_not] at hx
      refine Nat.le_of_not_lt fun h9 => hx ⟨h1, ?_⟩
      exact nI_nlt (b := j) (a := 63) (by omega) (by decide)
    refine aw_iload_n dd_ra_checkRoleSet_4 rfl 0 rfl ?_
    refine aw_bipush (v := (nI 64)) dd_ra_checkRoleSet_5 (by decide) ?_
    refine aw_icmp_lt (tgt := 20) dd_ra_checkRoleSet_7 (by decide) (fun h9 => absurd h9 (nI_nlt hb hj)) (fun _ => ?_)
    exact aw_throw 9 th_ra_68_221 dd_ra_checkRoleSet_10 dd_ra_checkRoleSet_13 dd_ra_checkRoleSet_14 dd_ra_checkRoleSet_16 dd_ra_checkRoleSet_19 (fun _ h9 => nomatch h9) (Nat.le_of_ble_eq_true rfl) (Nat.le_of_ble_eq_true rfl) (by decide) (by decide) ⟨rfl, rfl⟩
theorem wc_li_isKept (G : ag_T) (κ : ck_T) (μ : cm_T) (o : Nat → Int64) (rest : List va_E) {l : Nat × Int32} {p s : Nat} (hp : rest[p]? = some (ob_l l)) (hs : s < 64) : aw_w G mm_li_isKept 1 20 0 0 0 (lv_args 0 [.ref (G.1 + (p + 33)), .int (nI s)]) [] (hp_f G κ μ o rest) (q_i (zb_i (pk_1 l s)) (hp_f G κ μ o rest)) := by
  refine aw_iload_n dd_li_isKept_0 rfl 1 rfl ?_
  refine aw_aload_n dd_li_isKept_1 rfl 0 rfl ?_
  refine aw_getf _ 3 0 dd_li_isKept_2 fl_li_7 hp rfl ?_
  refine aw_iand dd_li_isKept_5 ?_
  refine aw_top (nI_and _ _) ?_
  refine aw_cSi mm_ig_bitCount 0 0 [_] _ (wc_ig_bitCount G _ (bt_and (n := 6) hs)) dd_li_isKept_6 cs_li_16 my_ig_bitCount np_ig_bitCount rfl (by decide) rfl rfl (Nat.le_of_ble_eq_true rfl) (Nat.le_of_ble_eq_true rfl) ?_
  refine aw_aload_n dd_li_isKept_9 rfl 0 rfl ?_
  refine aw_getf _ 3 1 dd_li_isKept_10 fl_li_13 hp rfl ?_
  refine aw_icmp_ge (tgt := 20) dd_li_isKept_13 (by decide) (fun h1 => ?_) (fun h1 => ?_)
  · refine aw_iconst (v := 0) dd_li_isKept_20 (by decide) ?_
    exact aw_zret dd_li_isKept_21 rfl (by first | exact Or.inl rfl | exact Or.inr rfl) ⟨by unfold pk_1; first | (simp [zb_i, h1]; done) | (simp [zb_i, Int32.not_le.mp h1]), rfl⟩
  · refine aw_iconst (v := 1) dd_li_isKept_16 (by decide) ?_
    refine aw_goto (tgt := 21) dd_li_isKept_17 (by decide) ?_
    exact aw_zret dd_li_isKept_21 rfl (by first | exact Or.inl rfl | exact Or.inr rfl) ⟨by unfold pk_1; first | (simp [zb_i, h1]; done) | (simp [zb_i, Int32.not_le.mp h1]), rfl⟩
theorem wc_ru_isFor (G : ag_T) (κ : ck_T) (μ : cm_T) (o : Nat → Int64) (rest : List va_E) {x : Bool × Nat × Nat × Nat × Nat} {p : Nat} (hp : rest[p]? = some (ob_u x)) (hx : x.2.1 < 6 ∧ x.2.2.1 < 64 ∧ x.2.2.2.1 < 64 ∧ x.2.2.2.2 < 6) (g : Bool) {c : Nat} (hc : c < 6) : aw_w G mm_ru_isFor 0 0 0 0 0 (lv_args 0 [.ref (G.1 + (p + 33)), .int (zb_i g), .int (nI c)]) [] (hp_f G κ μ o rest) (q_i (zb_i (decide (x.1 = g) && decide (x.2.2.2.2 = c))) (hp_f G κ μ o rest)) := by
  refine aw_aload_n dd_ru_isFor_0 rfl 0 rfl ?_
  refine aw_getf _ 4 0 dd_ru_isFor_1 fl_ru_7 hp rfl ?_
  refine aw_iload_n dd_ru_isFor_4 rfl 1 rfl ?_
  refine aw_icmp_ne (tgt := 20) dd_ru_isFor_5 (by decide) (fun h1 => ?_) (fun h1 => ?_)
  · refine aw_iconst (v := 0) dd_ru_isFor_20 (by decide) ?_
    exact aw_zret dd_ru_isFor_21 rfl (by first | exact Or.inl rfl | exact Or.inr rfl) ⟨by (try rw [nI_eq (by omega) (by omega)] at h2); rw [zb_inj] at h1; first | (simp [zb_i, h1, h2]; done) | (simp [zb_i, h1]; done), rfl⟩
  · refine aw_aload_n dd_ru_isFor_8 rfl 0 rfl ?_
    refine aw_getf _ 4 4 dd_ru_isFor_9 fl_ru_23 hp rfl ?_
    refine aw_iload_n dd_ru_isFor_12 rfl 2 rfl ?_
    refine aw_icmp_ne (tgt := 20) dd_ru_isFor_13 (by decide) (fun h2 => ?_) (fun h2 => ?_)
    · refine aw_iconst (v := 0) dd_ru_isFor_20 (by decide) ?_
      exact aw_zret dd_ru_isFor_21 rfl (by first | exact Or.inl rfl | exact Or.inr rfl) ⟨by (try rw [nI_eq (by omega) (by omega)] at h2); rw [zb_inj] at h1; first | (simp [zb_i, h1, h2]; done) | (simp [zb_i, h1]; done), rfl⟩
    · refine aw_iconst (v := 1) dd_ru_isFor_16 (by decide) ?_
      refine aw_goto (tgt := 21) dd_ru_isFor_17 (by decide) ?_
      exact aw_zret dd_ru_isFor_21 rfl (by first | exact Or.inl rfl | exact Or.inr rfl) ⟨by (try rw [nI_eq (by omega) (by omega)] at h2); rw [zb_inj] at h1; first | (simp [zb_i, h1, h2]; done) | (simp [zb_i, h1]; done), rfl⟩
theorem wc_ru_allows (G : ag_T) (κ : ck_T) (μ : cm_T) (o : Nat → Int64) (rest : List va_E) {x : Bool × Nat × Nat × Nat × Nat} {p : Nat} (hp : rest[p]? = some (ob_u x)) (hx : x.2.1 < 6 ∧ x.2.2.1 < 64 ∧ x.2.2.2.1 < 64 ∧ x.2.2.2.2 < 6) {a b : Nat} (ha : a < 64) (hb : b < 64) : aw_w G mm_ru_allows 1 21 0 0 0 (lv_args 0 [.ref (G.1 + (p + 33)), .int (nI a), .int (nI b)]) [] (hp_f G κ μ o rest) (q_i (zb_i (a.testBit x.2.1 && (decide (b &&& x.2.2.1 = x.2.2.1) && decide (b &&& x.2.2.2.1 = 0)))) (hp_f G κ μ o rest)) := by
  have hb1 : b &&& x.2.2.1 < 2 ^ 31 := Nat.lt_of_lt_of_le (bt_and (n := 6) hb) (by decide)
  have hb2 : b &&& x.2.2.2.1 < 2 ^ 31 := Nat.lt_of_lt_of_le (bt_and (n := 6) hb) (by decide)
  refine aw_iload_n dd_ru_allows_0 rfl 1 rfl ?_
  refine aw_aload_n dd_ru_allows_1 rfl 0 rfl ?_
  refine aw_getf _ 4 1 dd_ru_allows_2 fl_ru_13 hp rfl ?_
  refine aw_cNi mm_ra_has 0 0 "RoleAnalyser" [_, _] _ (wc_ra_has G _ (by omega) (by omega)) dd_ru_allows_5 cs_ru_26 my_ra_has np_ra_has rfl (by decide) rfl rfl (Nat.le_of_ble_eq_true rfl) (Nat.le_of_ble_eq_true rfl) ?_
  refine aw_if_eq (tgt := 37) dd_ru_allows_8 (by decide) (fun h1 => ?_) (fun h1 => ?_)
  · have h1 := zb_e0 h1
    refine aw_iconst (v := 0) dd_ru_allows_37 (by decide) ?_
    exact aw_zret dd_ru_allows_38 rfl (by first | exact Or.inl rfl | exact Or.inr rfl) ⟨by first | (simp [zb_i, h1, h2, h3]; done) | (simp [zb_i, h1, h2]; done) | (simp [zb_i, h1]; done), rfl⟩
  · have h1 := zb_n0 h1
    refine aw_iload_n dd_ru_allows_11 rfl 2 rfl ?_
    refine aw_aload_n dd_ru_allows_12 rfl 0 rfl ?_
    refine aw_getf _ 4 2 dd_ru_allows_13 fl_ru_17 hp rfl ?_
    refine aw_iand dd_ru_allows_16 ?_
    refine aw_top (nI_and _ _) ?_
    refine aw_aload_n dd_ru_allows_17 rfl 0 rfl ?_
    refine aw_getf _ 4 2 dd_ru_allows_18 fl_ru_17 hp rfl ?_
    refine aw_icmp_ne (tgt := 37) dd_ru_allows_21 (by decide) (fun h2 => ?_) (fun h2 => ?_)
    · rw [nI_eq hb1 (by omega)] at h2
      refine aw_iconst (v := 0) dd_ru_allows_37 (by decide) ?_
      exact aw_zret dd_ru_allows_38 rfl (by first | exact Or.inl rfl | exact Or.inr rfl) ⟨by first | (simp [zb_i, h1, h2, h3]; done) | (simp [zb_i, h1, h2]; done) | (simp [zb_i, h1]; done), rfl⟩
    · rw [nI_eq hb1 (by omega)] at h2
      refine aw_iload_n dd_ru_allows_24 rfl 2 rfl ?_
      refine aw_aload_n dd_ru_allows_25 rfl 0 rfl ?_
      refine aw_getf _ 4 3 dd_ru_allows_26 fl_ru_20 hp rfl ?_
      refine aw_iand dd_ru_allows_29 ?_
      refine aw_top (nI_and _ _) ?_
      refine aw_if_ne (tgt := 37) dd_ru_allows_30 (by decide) (fun h3 => ?_) (fun h3 => ?_)
      · rw [← nI_0, nI_eq hb2 (by decide)] at h3
        refine aw_iconst (v := 0) dd_ru_allows_37 (by decide) ?_
        exact aw_zret dd_ru_allows_38 rfl (by first | exact Or.inl rfl | exact Or.inr rfl) ⟨by first | (simp [zb_i, h1, h2, h3]; done) | (simp [zb_i, h1, h2]; done) | (simp [zb_i, h1]; done), rfl⟩
      · rw [← nI_0, nI_eq hb2 (by decide)] at h3
        refine aw_iconst (v := 1) dd_ru_allows_33 (by decide) ?_
        refine aw_goto (tgt := 38) dd_ru_allows_34 (by decide) ?_
        exact aw_zret dd_ru_allows_38 rfl (by first | exact Or.inl rfl | exact Or.inr rfl) ⟨by first | (simp [zb_i, h1, h2, h3]; done) | (simp [zb_i, h1, h2]; done) | (simp [zb_i, h1]; done), rfl⟩
theorem wl_ra_areKept0 (G : ag_T) (κ : ck_T) (μ : cm_T) (o : Nat → Int64) (rest : List va_E) {ls : pl_T} (hL : rk_L G κ rest 0 ls) {s : Nat} (hs : s < 64) : ∀ (k r : Nat), r + k = ls.length → pk_l (ls.take r) s = true → aw_w G mm_ra_areKept 3 64 0 0 2 [(2, .int (nI r)), (0, .ref (G.1 + 3)), (1, .int (nI s))] [] (hp_f G κ μ o rest) (q_i (zb_i (pk_l ls s)) (hp_f G κ μ o rest)) := by
  have hsz : κ.1 5 = nI ls.length := by obtain ⟨ps, -, h2, -⟩ := hL.1; exact h2
  have hl4 := hL.2.1
  intro k
  induction k with
  | zero =>
    intro r hr hk
    have e : r = ls.length := by omega
    subst e
    rw [List.take_length] at hk
    rw [hk]
    refine aw_iload_n dd_ra_areKept_2 rfl 0 rfl ?_
    refine aw_aload_n dd_ra_areKept_3 rfl 1 rfl ?_
    refine aw_cVi mm_al_size 0 0 _ 6 [] _ (wc_al_size0 G κ μ o rest) dd_ra_areKept_4 cv_ra_106 my_al_size np_al_size rfl rfl rfl (by decide) rfl rfl (Nat.le_of_ble_eq_true rfl) (Nat.le_of_ble_eq_true rfl) ?_
    refine aw_top hsz ?_
    refine aw_icmp_ge (tgt := 33) dd_ra_areKept_7 (by decide) (fun _ => ?_) (fun h9 => absurd (nI_le (Nat.le_refl _) (by omega)) h9)
    refine aw_iconst (v := 1) dd_ra_areKept_33 (by decide) ?_
    exact aw_zret dd_ra_areKept_34 rfl (Or.inr rfl) ⟨rfl, rfl⟩
  | succ k ih =>
    intro r hr hk
    obtain ⟨l, hl⟩ := tk_g (ls := ls) (k := r) (by omega)
    obtain ⟨j, p, a, g1, g2, g3, g4, -⟩ := rk_g1 hL.1 hl
    refine aw_iload_n dd_ra_areKept_2 rfl 0 rfl ?_
    refine aw_aload_n dd_ra_areKept_3 rfl 1 rfl ?_
    refine aw_cVi mm_al_size 0 0 _ 6 [] _ (wc_al_size0 G κ μ o rest) dd_ra_areKept_4 cv_ra_106 my_al_size np_al_size rfl rfl rfl (by decide) rfl rfl (Nat.le_of_ble_eq_true rfl) (Nat.le_of_ble_eq_true rfl) ?_
    refine aw_top hsz ?_
    refine aw_icmp_ge (tgt := 33) dd_ra_areKept_7 (by decide) (fun h9 => absurd h9 (nI_ge (by omega) (by omega))) (fun _ => ?_)
    refine aw_aload_n dd_ra_areKept_10 rfl 1 rfl ?_
    refine aw_iload_n dd_ra_areKept_11 rfl 0 rfl ?_
    refine aw_cVr mm_al_get 0 0 _ 6 [_] _ (wc_al_get0 G κ μ o rest (n := ls.length) (by omega) (by omega) hsz g1 g2 g3) dd_ra_areKept_12 cv_ra_223 my_al_get np_al_get rfl rfl rfl (by decide) rfl rfl (Nat.le_of_ble_eq_true rfl) (Nat.le_of_ble_eq_true rfl) ?_
    refine aw_cast _ 3 dd_ra_areKept_15 kc_ra_114 (g4) kx_li ?_
    refine aw_iload_n dd_ra_areKept_18 rfl 2 rfl ?_
    refine aw_cVi mm_li_isKept 0 0 _ 3 [_] _ (wc_li_isKept G κ μ o rest g4 hs) dd_ra_areKept_19 cv_ra_191 my_li_isKept np_li_isKept g4 rfl rfl (by decide) rfl rfl (Nat.le_of_ble_eq_true rfl) (Nat.le_of_ble_eq_true rfl) ?_
    refine aw_if_ne (tgt := 27) dd_ra_areKept_22 (by decide) (fun h1 => ?_) (fun h1 => ?_)
    · refine aw_iinc (v := nI (r + 1)) (lv' := [(2, _), (0, _), (1, _)]) dd_ra_areKept_27 0 rfl (nI_1 _) (by decide) rfl ?_
      refine aw_goto (tgt := 2) dd_ra_areKept_30 (by decide) ?_
      refine ih (r + 1) (by omega) ?_
      rw [tk_k hl, hk, zb_n0 h1]
      rfl
    · have h9 : pk_l ls s = false := by
        cases h8 : pk_l ls s with
        | false => rfl
        | true => (unfold pk_l at h8; rw [List.all_eq_true] at h8; have h7 := h8 l (List.mem_of_getElem? hl); rw [h7] at h1; exact absurd h1 (by decide))
      rw [h9]
      refine aw_iconst (v := 0) dd_ra_areKept_25 (by decide) ?_
      exact aw_zret dd_ra_areKept_26 rfl (Or.inl rfl) ⟨rfl, rfl⟩
theorem wc_ra_areKept0 (G : ag_T) (κ : ck_T) (μ : cm_T) (o : Nat → Int64) (rest : List va_E) {ls : pl_T} (hL : rk_L G κ rest 0 ls) {s : Nat} (hs : s < 64) : aw_w G mm_ra_areKept 3 64 0 0 0 (lv_args 0 [.ref (G.1 + 3), .int (nI s)]) [] (hp_f G κ μ o rest) (q_i (zb_i (pk_l ls s)) (hp_f G κ μ o rest)) := by
  refine aw_iconst (v := (nI 0)) dd_ra_areKept_0 (by decide) ?_
  refine aw_istore_n (lv' := [(2, _), (0, _), (1, _)]) dd_ra_areKept_1 rfl (by decide) rfl ?_
  exact wl_ra_areKept0 G κ μ o rest hL hs ls.length 0 (Nat.zero_add _) rfl
theorem wl_ra_areKept1 (G : ag_T) (κ : ck_T) (μ : cm_T) (o : Nat → Int64) (rest : List va_E) {ls : pl_T} (hL : rk_L G κ rest 1 ls) {s : Nat} (hs : s < 64) : ∀ (k r : Nat), r + k = ls.length → pk_l (ls.take r) s = true → aw_w G mm_ra_areKept 3 64 0 0 2 [(2, .int (nI r)), (0, .ref (G.1 + 4)), (1, .int (nI s))] [] (hp_f G κ μ o rest) (q_i (zb_i (pk_l ls s)) (hp_f G κ μ o rest)) := by
  have hsz : κ.1 7 = nI ls.length := by obtain ⟨ps, -, h2, -⟩ := hL.1; exact h2
  have hl4 := hL.2.1
  intro k
  induction k with
  | zero =>
    intro r hr hk
    have e : r = ls.length := by omega
    subst e
    rw [List.take_length] at hk
    rw [hk]
    refine aw_iload_n dd_ra_areKept_2 rfl 0 rfl ?_
    refine aw_aload_n dd_ra_areKept_3 rfl 1 rfl ?_
    refine aw_cVi mm_al_size 0 0 _ 6 [] _ (wc_al_size1 G κ μ o rest) dd_ra_areKept_4 cv_ra_106 my_al_size np_al_size rfl rfl rfl (by decide) rfl rfl (Nat.le_of_ble_eq_true rfl) (Nat.le_of_ble_eq_true rfl) ?_
    refine aw_top hsz ?_
    refine aw_icmp_ge (tgt := 33) dd_ra_areKept_7 (by decide) (fun _ => ?_) (fun h9 => absurd (nI_le (Nat.le_refl _) (by omega)) h9)
    refine aw_iconst (v := 1) dd_ra_areKept_33 (by decide) ?_
    exact aw_zret dd_ra_areKept_34 rfl (Or.inr rfl) ⟨rfl, rfl⟩
  | succ k ih =>
    intro r hr hk
    obtain ⟨l, hl⟩ := tk_g (ls := ls) (k := r) (by omega)
    obtain ⟨j, p, a, g1, g2, g3, g4, -⟩ := rk_g1 hL.1 hl
    refine aw_iload_n dd_ra_areKept_2 rfl 0 rfl ?_
    refine aw_aload_n dd_ra_areKept_3 rfl 1 rfl ?_
    refine aw_cVi mm_al_size 0 0 _ 6 [] _ (wc_al_size1 G κ μ o rest) dd_ra_areKept_4 cv_ra_106 my_al_size np_al_size rfl rfl rfl (by decide) rfl rfl (Nat.le_of_ble_eq_true rfl) (Nat.le_of_ble_eq_true rfl) ?_
    refine aw_top hsz ?_
    refine aw_icmp_ge (tgt := 33) dd_ra_areKept_7 (by decide) (fun h9 => absurd h9 (nI_ge (by omega) (by omega))) (fun _ => ?_)
    refine aw_aload_n dd_ra_areKept_10 rfl 1 rfl ?_
    refine aw_iload_n dd_ra_areKept_11 rfl 0 rfl ?_
    refine aw_cVr mm_al_get 0 0 _ 6 [_] _ (wc_al_get1 G κ μ o rest (n := ls.length) (by omega) (by omega) hsz g1 g2 g3) dd_ra_areKept_12 cv_ra_223 my_al_get np_al_get rfl rfl rfl (by decide) rfl rfl (Nat.le_of_ble_eq_true rfl) (Nat.le_of_ble_eq_true rfl) ?_
    refine aw_cast _ 3 dd_ra_areKept_15 kc_ra_114 (g4) kx_li ?_
    refine aw_iload_n dd_ra_areKept_18 rfl 2 rfl ?_
    refine aw_cVi mm_li_isKept 0 0 _ 3 [_] _ (wc_li_isKept G κ μ o rest g4 hs) dd_ra_areKept_19 cv_ra_191 my_li_isKept np_li_isKept g4 rfl rfl (by decide) rfl rfl (Nat.le_of_ble_eq_true rfl) (Nat.le_of_ble_eq_true rfl) ?_
    refine aw_if_ne (tgt := 27) dd_ra_areKept_22 (by decide) (fun h1 => ?_) (fun h1 => ?_)
    · refine aw_iinc (v := nI (r + 1)) (lv' := [(2, _), (0, _), (1, _)]) dd_ra_areKept_27 0 rfl (nI_1 _) (by decide) rfl ?_
      refine aw_goto (tgt := 2) dd_ra_areKept_30 (by decide) ?_
      refine ih (r + 1) (by omega) ?_
      rw [tk_k hl, hk, zb_n0 h1]
      rfl
    · have h9 : pk_l ls s = false := by
        cases h8 : pk_l ls s with
        | false => rfl
        | true => (unfold pk_l at h8; rw [List.all_eq_true] at h8; have h7 := h8 l (List.mem_of_getElem? hl); rw [h7] at h1; exact absurd h1 (by decide))
      rw [h9]
      refine aw_iconst (v := 0) dd_ra_areKept_25 (by decide) ?_
      exact aw_zret dd_ra_areKept_26 rfl (Or.inl rfl) ⟨rfl, rfl⟩
theorem wc_ra_areKept1 (G : ag_T) (κ : ck_T) (μ : cm_T) (o : Nat → Int64) (rest : List va_E) {ls : pl_T} (hL : rk_L G κ rest 1 ls) {s : Nat} (hs : s < 64) : aw_w G mm_ra_areKept 3 64 0 0 0 (lv_args 0 [.ref (G.1 + 4), .int (nI s)]) [] (hp_f G κ μ o rest) (q_i (zb_i (pk_l ls s)) (hp_f G κ μ o rest)) := by
  refine aw_iconst (v := (nI 0)) dd_ra_areKept_0 (by decide) ?_
  refine aw_istore_n (lv' := [(2, _), (0, _), (1, _)]) dd_ra_areKept_1 rfl (by decide) rfl ?_
  exact wl_ra_areKept1 G κ μ o rest hL hs ls.length 0 (Nat.zero_add _) rfl
theorem wc_ra_checkStaticLimitsT (G : ag_T) (κ : ck_T) (μ : cm_T) (o : Nat → Int64) (rest : List va_E) {ls : pl_T} (hL : rk_L G κ rest 0 ls) {s : Nat} (hs : s < 64) (hk : pk_l ls s = true) : aw_w G mm_ra_checkStaticLimits 6 93 0 0 0 (lv_args 0 [.ref (G.1 + 0), .int (nI s)]) [] (hp_f G κ μ o rest) (q_v (hp_f G κ μ o rest)) := by
  refine aw_aload_n dd_ra_checkStaticLimits_0 rfl 0 rfl ?_
  refine aw_getf _ 0 0 dd_ra_checkStaticLimits_1 fl_ra_12 rfl rfl ?_
  refine aw_getf _ 1 2 dd_ra_checkStaticLimits_4 fl_ra_103 rfl rfl ?_
  refine aw_iload_n dd_ra_checkStaticLimits_7 rfl 1 rfl ?_
  refine aw_cSi mm_ra_areKept 0 0 [_, _] _ (wc_ra_areKept0 G κ μ o rest hL hs) dd_ra_checkStaticLimits_8 cs_ra_166 my_ra_areKept np_ra_areKept rfl (by decide) rfl rfl (Nat.le_of_ble_eq_true rfl) (Nat.le_of_ble_eq_true rfl) ?_
  refine aw_if_ne (tgt := 24) dd_ra_checkStaticLimits_11 (by decide) (fun _ => ?_) (fun h9 => absurd h9 (by rw [hk]; decide))
  exact aw_vret dd_ra_checkStaticLimits_24 rfl ⟨rfl, rfl⟩
theorem wc_ra_checkStaticLimitsF (G : ag_T) (κ : ck_T) (μ : cm_T) (o : Nat → Int64) (rest : List va_E) {ls : pl_T} (hL : rk_L G κ rest 0 ls) {s : Nat} (hs : s < 64) (hk : pk_l ls s = false) : aw_w G mm_ra_checkStaticLimits 6 93 1 6 0 (lv_args 0 [.ref (G.1 + 0), .int (nI s)]) [] (hp_f G κ μ o rest) (q_x 7 (hp_f G κ μ o (rest ++ [.inr (7, [])]))) := by
  refine aw_aload_n dd_ra_checkStaticLimits_0 rfl 0 rfl ?_
  refine aw_getf _ 0 0 dd_ra_checkStaticLimits_1 fl_ra_12 rfl rfl ?_
  refine aw_getf _ 1 2 dd_ra_checkStaticLimits_4 fl_ra_103 rfl rfl ?_
  refine aw_iload_n dd_ra_checkStaticLimits_7 rfl 1 rfl ?_
  refine aw_cSi mm_ra_areKept 1 6 [_, _] _ (wc_ra_areKept0 G κ μ o rest hL hs) dd_ra_checkStaticLimits_8 cs_ra_166 my_ra_areKept np_ra_areKept rfl (by decide) rfl rfl (Nat.le_of_ble_eq_true rfl) (Nat.le_of_ble_eq_true rfl) ?_
  refine aw_if_ne (tgt := 24) dd_ra_checkStaticLimits_11 (by decide) (fun h9 => absurd (by rw [hk]; rfl) h9) (fun _ => ?_)
  exact aw_throw 7 th_ra_48_211 dd_ra_checkStaticLimits_14 dd_ra_checkStaticLimits_17 dd_ra_checkStaticLimits_18 dd_ra_checkStaticLimits_20 dd_ra_checkStaticLimits_23 (fun _ h9 => nomatch h9) (Nat.le_of_ble_eq_true rfl) (Nat.le_of_ble_eq_true rfl) (by decide) (by decide) ⟨rfl, rfl⟩
theorem wl_po_isAllowed (G : ag_T) (κ : ck_T) (μ : cm_T) (o : Nat → Int64) (rest : List va_E) {rs : pr_T} (hR : rk_U G κ rest rs) (g : Bool) {a b c : Nat} (ha : a < 64) (hb : b < 64) (hc : c < 6) : ∀ (k r : Nat), r + k = rs.length → pr_l (rs.take r) g a b c = false → aw_w G mm_po_isAllowed 3 64 0 0 3 [(5, .int (nI r)), (0, .ref (G.1 + 1)), (1, .int (zb_i g)), (2, .int (nI a)), (3, .int (nI b)), (4, .int (nI c))] [] (hp_f G κ μ o rest) (q_i (zb_i (pr_l rs g a b c)) (hp_f G κ μ o rest)) := by
  have hsz : κ.1 9 = nI rs.length := by obtain ⟨ps, -, h2, -⟩ := hR.1; exact h2
  have hl8 : rs.length ≤ 8 := by obtain ⟨ps, -, -, h2, -⟩ := hR.1; exact h2
  intro k
  induction k with
  | zero =>
    intro r hr hk
    have e : r = rs.length := by omega
    subst e
    rw [List.take_length] at hk
    rw [hk]
    refine aw_iload dd_po_isAllowed_3 0 rfl ?_
    refine aw_aload_n dd_po_isAllowed_5 rfl 1 rfl ?_
    refine aw_getf _ 1 4 dd_po_isAllowed_6 fl_po_25 rfl rfl ?_
    refine aw_cVi mm_al_size 0 0 _ 6 [] _ (wc_al_size2 G κ μ o rest) dd_po_isAllowed_9 cv_po_40 my_al_size np_al_size rfl rfl rfl (by decide) rfl rfl (Nat.le_of_ble_eq_true rfl) (Nat.le_of_ble_eq_true rfl) ?_
    refine aw_top hsz ?_
    refine aw_icmp_ge (tgt := 58) dd_po_isAllowed_12 (by decide) (fun _ => ?_) (fun h9 => absurd (nI_le (Nat.le_refl _) (by omega)) h9)
    refine aw_iconst (v := 0) dd_po_isAllowed_58 (by decide) ?_
    exact aw_zret dd_po_isAllowed_59 rfl (Or.inl rfl) ⟨rfl, rfl⟩
  | succ k ih =>
    intro r hr hk
    obtain ⟨x, hl⟩ := tk_g (ls := rs) (k := r) (by omega)
    obtain ⟨j, p, q, g1, g2, g3, g4, -⟩ := rk_g1 hR.1 hl
    have hx := hR.2 x (List.mem_of_getElem? hl)
    have hyes : pr_1 x g a b c = true → pr_l rs g a b c = true := by
      intro h9
      unfold pr_l
      rw [List.any_eq_true]
      exact ⟨x, List.mem_of_getElem? hl, h9⟩
    refine aw_iload dd_po_isAllowed_3 0 rfl ?_
    refine aw_aload_n dd_po_isAllowed_5 rfl 1 rfl ?_
    refine aw_getf _ 1 4 dd_po_isAllowed_6 fl_po_25 rfl rfl ?_
    refine aw_cVi mm_al_size 0 0 _ 6 [] _ (wc_al_size2 G κ μ o rest) dd_po_isAllowed_9 cv_po_40 my_al_size np_al_size rfl rfl rfl (by decide) rfl rfl (Nat.le_of_ble_eq_true rfl) (Nat.le_of_ble_eq_true rfl) ?_
    refine aw_top hsz ?_
    refine aw_icmp_ge (tgt := 58) dd_po_isAllowed_12 (by decide) (fun h9 => absurd h9 (nI_ge (by omega) (by omega))) (fun _ => ?_)
    refine aw_aload_n dd_po_isAllowed_15 rfl 1 rfl ?_
    refine aw_getf _ 1 4 dd_po_isAllowed_16 fl_po_25 rfl rfl ?_
    refine aw_iload dd_po_isAllowed_19 0 rfl ?_
    refine aw_cVr mm_al_get 0 0 _ 6 [_] _ (wc_al_get2 G κ μ o rest (n := rs.length) (by omega) hl8 hsz g1 g2 g3) dd_po_isAllowed_21 cv_po_44 my_al_get np_al_get rfl rfl rfl (by decide) rfl rfl (Nat.le_of_ble_eq_true rfl) (Nat.le_of_ble_eq_true rfl) ?_
    refine aw_cast _ 4 dd_po_isAllowed_24 kc_po_48 (g4) kx_ru ?_
    refine aw_astore (lv' := [(6, _), (5, _), (0, _), (1, _), (2, _), (3, _), (4, _)]) dd_po_isAllowed_27 (by decide) rfl ?_
    refine aw_aload dd_po_isAllowed_29 0 rfl ?_
    refine aw_iload_n dd_po_isAllowed_31 rfl 3 rfl ?_
    refine aw_iload dd_po_isAllowed_32 6 rfl ?_
    refine aw_cVi mm_ru_isFor 0 0 _ 4 [_, _] _ (wc_ru_isFor G κ μ o rest g4 hx g hc) dd_po_isAllowed_34 cv_po_50 my_ru_isFor np_ru_isFor g4 rfl rfl (by decide) rfl rfl (Nat.le_of_ble_eq_true rfl) (Nat.le_of_ble_eq_true rfl) ?_
    refine aw_if_eq (tgt := 52) dd_po_isAllowed_37 (by decide) (fun h1 => ?_) (fun h1 => ?_)
    · have h1 := zb_e0 h1
      refine aw_iinc (v := nI (r + 1)) (lv' := [(5, _), (6, _), (0, _), (1, _), (2, _), (3, _), (4, _)]) dd_po_isAllowed_52 1 rfl (nI_1 _) (by decide) rfl ?_
      refine aw_goto (tgt := 3) dd_po_isAllowed_55 (by decide) ?_
      refine aw_lv [0, 2, 3, 4, 5, 6] rfl (ih (r + 1) (by omega) ?_)
      rw [tk_r hl, hk, Bool.false_or]
      unfold pr_1
      first | (rw [← Bool.and_assoc, h1]; rfl) | (rw [← Bool.and_assoc, h2, Bool.and_false])
    · have h1 := zb_n0 h1
      refine aw_aload dd_po_isAllowed_40 0 rfl ?_
      refine aw_iload_n dd_po_isAllowed_42 rfl 4 rfl ?_
      refine aw_iload_n dd_po_isAllowed_43 rfl 5 rfl ?_
      refine aw_cVi mm_ru_allows 0 0 _ 4 [_, _] _ (wc_ru_allows G κ μ o rest g4 hx ha hb) dd_po_isAllowed_44 cv_po_54 my_ru_allows np_ru_allows g4 rfl rfl (by decide) rfl rfl (Nat.le_of_ble_eq_true rfl) (Nat.le_of_ble_eq_true rfl) ?_
      refine aw_if_eq (tgt := 52) dd_po_isAllowed_47 (by decide) (fun h2 => ?_) (fun h2 => ?_)
      · have h2 := zb_e0 h2
        refine aw_iinc (v := nI (r + 1)) (lv' := [(5, _), (6, _), (0, _), (1, _), (2, _), (3, _), (4, _)]) dd_po_isAllowed_52 1 rfl (nI_1 _) (by decide) rfl ?_
        refine aw_goto (tgt := 3) dd_po_isAllowed_55 (by decide) ?_
        refine aw_lv [0, 2, 3, 4, 5, 6] rfl (ih (r + 1) (by omega) ?_)
        rw [tk_r hl, hk, Bool.false_or]
        unfold pr_1
        first | (rw [← Bool.and_assoc, h1]; rfl) | (rw [← Bool.and_assoc, h2, Bool.and_false])
      · have h2 := zb_n0 h2
        rw [hyes (by unfold pr_1; rw [← Bool.and_assoc, h1, h2]; rfl)]
        refine aw_iconst (v := 1) dd_po_isAllowed_50 (by decide) ?_
        exact aw_zret dd_po_isAllowed_51 rfl (Or.inr rfl) ⟨rfl, rfl⟩
theorem wc_po_isAllowed (G : ag_T) (κ : ck_T) (μ : cm_T) (o : Nat → Int64) (rest : List va_E) {rs : pr_T} (hR : rk_U G κ rest rs) (g : Bool) {a b c : Nat} (ha : a < 64) (hb : b < 64) (hc : c < 6) : aw_w G mm_po_isAllowed 3 64 0 0 0 (lv_args 0 [.ref (G.1 + 1), .int (zb_i g), .int (nI a), .int (nI b), .int (nI c)]) [] (hp_f G κ μ o rest) (q_i (zb_i (pr_l rs g a b c)) (hp_f G κ μ o rest)) := by
  refine aw_iconst (v := (nI 0)) dd_po_isAllowed_0 (by decide) ?_
  refine aw_istore (lv' := [(5, _), (0, _), (1, _), (2, _), (3, _), (4, _)]) dd_po_isAllowed_1 (by decide) rfl ?_
  exact wl_po_isAllowed G κ μ o rest hR g ha hb hc rs.length 0 (Nat.zero_add _) rfl
