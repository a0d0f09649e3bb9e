/-! ===== the law's helpers ===== -/
theorem ll_22 : Cond.classLink "RoleAnalyserLaw" 22 "java/lang/IndexOutOfBoundsException" ∈ aw_T := aw_m1 223 rfl rfl
theorem ll_24 : Cond.classLink "RoleAnalyserLaw" 24 "java/lang/IllegalArgumentException" ∈ aw_T := aw_m1 224 rfl rfl
theorem ll_13 : Cond.classLink "RoleAnalyserLaw" 13 "java/lang/IllegalStateException" ∈ aw_T := aw_m1 138 rfl rfl
theorem ll_51 : Cond.classLink "RoleAnalyserLaw" 51 "java/lang/UnsupportedOperationException" ∈ aw_T := aw_m3 23 rfl rfl
def lo_v : Bool → Int32 → Int64
  | false, v => v.toInt64
  | true, v => if v = 0 then 0 else 1
def ql_I (G : ag_T) (μ : cm_T) (b : Bool) (z : ar_T) : aq_T := qe_i fun w h' => w = z.1 ∧ ∃ κ' o' rest', h' = hp_f G κ' μ o' rest' ∧ rk_R G κ' rest' z.2.2 ∧ (z.1 = 0 → o' 0 = lo_v b z.2.1)
def ql_V (G : ag_T) (μ : cm_T) (z : ar_T) : aq_T := qe_i fun w h' => w = z.1 ∧ ∃ κ' o' rest', h' = hp_f G κ' μ o' rest' ∧ rk_R G κ' rest' z.2.2
theorem ou_0 (o : Nat → Int64) (v : Int64) : vp_updL o (nI 0).toNatClampNeg v 0 = v := by rw [nI_clamp (by decide)]; rfl
theorem wc_lw_role (G : ag_T) (κ : ck_T) (μ : cm_T) (o : Nat → Int64) (rest : List va_E) {A : aa_T} (hR : rk_R G κ rest A) (hW : wa_W A) : aw_w G mm_lw_role 7 114 1 6 0 (lv_args 0 [.ref (G.1 + 0), .ref (G.1 + 32)]) [] (hp_f G κ μ o rest) (ql_I G μ false (ab_role A)) := by
  refine aw_aload_n dd_lw_role_0 rfl 1 rfl ?_
  refine aw_iconst (v := (nI 0)) dd_lw_role_1 (by decide) ?_
  refine aw_aload_n dd_lw_role_2 rfl 0 rfl ?_
  refine aw_callV (kc' := 0) (ks' := 0) mm_ra_role _ 0 [] _ dd_lw_role_3 cv_lw_7 my_ra_role np_ra_role rfl rfl rfl (Nat.le_of_ble_eq_true rfl) rfl rfl (Nat.le_of_ble_eq_true rfl) (Nat.le_of_ble_eq_true rfl) (wc_ra_role G κ μ o rest hR hW) (fun v9 h9 hq => ?_) (fun k9 c9 h9 hq => ?_)
  · obtain ⟨κ', rest', rfl, hR', hE⟩ := hq
    rcases hE with ⟨hz, e⟩ | ⟨_, _, _, _, e⟩
    · cases e
      show aw_w _ _ _ _ _ _ _ _ (.int _ :: _) _ _
      refine aw_i2l dd_lw_role_6 rfl ?_
      refine aw_last 32 dd_lw_role_7 rfl (vp_in_nI (by decide) (by decide)) ?_
      rw [hs_o]
      refine aw_goto (tgt := 14) dd_lw_role_8 (by decide) ?_
      refine aw_iconst (v := 0) dd_lw_role_14 (by decide) ?_
      exact aw_iret dd_lw_role_15 rfl ⟨_, rfl, hz.symm, κ', _, rest', rfl, hR', fun _ => ou_0 _ _⟩
    · cases e
  · obtain ⟨κ', rest', rfl, hR', hE⟩ := hq
    rcases hE with ⟨_, e⟩ | ⟨i, c, hz, hxs, e⟩
    · cases e
    · cases e
      rcases i with _ | i
      · cases hxs
        refine aw_catch (E := "java/lang/IllegalStateException") [] ⟨0, 8, 11, 13⟩ [] rfl rfl (fun _ h9 => absurd h9 List.not_mem_nil) ⟨rfl, by decide, "java/lang/IllegalStateException", ll_13, List.mem_of_getElem? (i := 0) rfl⟩ ?_
        refine aw_astore_n (lv' := [(2, _), (0, _), (1, _)]) dd_lw_role_11 rfl (by decide) rfl ?_
        refine aw_iconst (v := 1) dd_lw_role_12 (by decide) ?_
        exact aw_iret dd_lw_role_13 rfl ⟨_, rfl, by rw [hz]; rfl, κ', o, rest', rfl, hR', fun h0 => absurd h0 (by rw [hz]; decide)⟩
      · cases hxs
theorem wc_lw_user (G : ag_T) (κ : ck_T) (μ : cm_T) (o : Nat → Int64) (rest : List va_E) {A : aa_T} (hR : rk_R G κ rest A) : aw_w G mm_lw_user 7 114 1 6 0 (lv_args 0 [.ref (G.1 + 0), .ref (G.1 + 32)]) [] (hp_f G κ μ o rest) (ql_I G μ false (ab_user A)) := by
  refine aw_aload_n dd_lw_user_0 rfl 1 rfl ?_
  refine aw_iconst (v := (nI 0)) dd_lw_user_1 (by decide) ?_
  refine aw_aload_n dd_lw_user_2 rfl 0 rfl ?_
  refine aw_callV (kc' := 0) (ks' := 0) mm_ra_user _ 0 [] _ dd_lw_user_3 cv_lw_15 my_ra_user np_ra_user rfl rfl rfl (Nat.le_of_ble_eq_true rfl) rfl rfl (Nat.le_of_ble_eq_true rfl) (Nat.le_of_ble_eq_true rfl) (wc_ra_user G κ μ o rest hR) (fun v9 h9 hq => ?_) (fun k9 c9 h9 hq => ?_)
  · obtain ⟨κ', rest', rfl, hR', hE⟩ := hq
    rcases hE with ⟨hz, e⟩ | ⟨_, _, _, _, e⟩
    · cases e
      show aw_w _ _ _ _ _ _ _ _ (.int _ :: _) _ _
      refine aw_i2l dd_lw_user_6 rfl ?_
      refine aw_last 32 dd_lw_user_7 rfl (vp_in_nI (by decide) (by decide)) ?_
      rw [hs_o]
      refine aw_goto (tgt := 14) dd_lw_user_8 (by decide) ?_
      refine aw_iconst (v := 0) dd_lw_user_14 (by decide) ?_
      exact aw_iret dd_lw_user_15 rfl ⟨_, rfl, hz.symm, κ', _, rest', rfl, hR', fun _ => ou_0 _ _⟩
    · cases e
  · obtain ⟨κ', rest', rfl, hR', hE⟩ := hq
    rcases hE with ⟨_, e⟩ | ⟨i, c, hz, hxs, e⟩
    · cases e
    · cases e
      rcases i with _ | i
      · cases hxs
        refine aw_catch (E := "java/lang/IllegalStateException") [] ⟨0, 8, 11, 13⟩ [] rfl rfl (fun _ h9 => absurd h9 List.not_mem_nil) ⟨rfl, by decide, "java/lang/IllegalStateException", ll_13, List.mem_of_getElem? (i := 0) rfl⟩ ?_
        refine aw_astore_n (lv' := [(2, _), (0, _), (1, _)]) dd_lw_user_11 rfl (by decide) rfl ?_
        refine aw_iconst (v := 1) dd_lw_user_12 (by decide) ?_
        exact aw_iret dd_lw_user_13 rfl ⟨_, rfl, by rw [hz]; rfl, κ', o, rest', rfl, hR', fun h0 => absurd h0 (by rw [hz]; decide)⟩
      · cases hxs
theorem wc_lw_above (G : ag_T) (κ : ck_T) (μ : cm_T) (o : Nat → Int64) (rest : List va_E) {A : aa_T} (hR : rk_R G κ rest A) (hW : wa_W A) (x : Int32) (y : Int32) : aw_w G mm_lw_above 8 137 1 6 0 (lv_args 0 [.ref (G.1 + 0), .int x, .int y, .ref (G.1 + 32)]) [] (hp_f G κ μ o rest) (ql_I G μ true (ab_above A x y)) := by
  refine aw_aload_n dd_lw_above_0 rfl 3 rfl ?_
  refine aw_iconst (v := (nI 0)) dd_lw_above_1 (by decide) ?_
  refine aw_aload_n dd_lw_above_2 rfl 0 rfl ?_
  refine aw_iload_n dd_lw_above_3 rfl 1 rfl ?_
  refine aw_iload_n dd_lw_above_4 rfl 2 rfl ?_
  refine aw_callV (kc' := 0) (ks' := 0) mm_ra_above _ 0 [_, _] _ dd_lw_above_5 cv_lw_18 my_ra_above np_ra_above rfl rfl rfl (Nat.le_of_ble_eq_true rfl) rfl rfl (Nat.le_of_ble_eq_true rfl) (Nat.le_of_ble_eq_true rfl) (wc_ra_above G κ μ o rest hR hW x y) (fun v9 h9 hq => ?_) (fun k9 c9 h9 hq => ?_)
  · obtain ⟨κ', rest', rfl, hR', hE⟩ := hq
    rcases hE with ⟨hz, e⟩ | ⟨_, _, _, _, e⟩
    · cases e
      show aw_w _ _ _ _ _ _ _ _ (.int _ :: _) _ _
      refine aw_if_eq (tgt := 15) dd_lw_above_8 (by decide) (fun hb => ?_) (fun hb => ?_)
      · refine aw_lconst (v := 0) dd_lw_above_15 (by decide) ?_
        refine aw_last 32 dd_lw_above_16 rfl (vp_in_nI (by decide) (by decide)) ?_
        rw [hs_o]
        refine aw_goto (tgt := 32) dd_lw_above_17 (by decide) ?_
        refine aw_iconst (v := 0) dd_lw_above_32 (by decide) ?_
        exact aw_iret dd_lw_above_33 rfl (by first | exact ⟨_, rfl, hz.symm, κ', _, rest', rfl, hR', fun _ => (ou_0 _ _).trans (if_pos hb).symm⟩ | exact ⟨_, rfl, hz.symm, κ', _, rest', rfl, hR', fun _ => (ou_0 _ _).trans (if_neg hb).symm⟩)
      · refine aw_lconst (v := 1) dd_lw_above_11 (by decide) ?_
        refine aw_goto (tgt := 16) dd_lw_above_12 (by decide) ?_
        refine aw_last 32 dd_lw_above_16 rfl (vp_in_nI (by decide) (by decide)) ?_
        rw [hs_o]
        refine aw_goto (tgt := 32) dd_lw_above_17 (by decide) ?_
        refine aw_iconst (v := 0) dd_lw_above_32 (by decide) ?_
        exact aw_iret dd_lw_above_33 rfl (by first | exact ⟨_, rfl, hz.symm, κ', _, rest', rfl, hR', fun _ => (ou_0 _ _).trans (if_pos hb).symm⟩ | exact ⟨_, rfl, hz.symm, κ', _, rest', rfl, hR', fun _ => (ou_0 _ _).trans (if_neg hb).symm⟩)
    · cases e
  · obtain ⟨κ', rest', rfl, hR', hE⟩ := hq
    rcases hE with ⟨_, e⟩ | ⟨i, c, hz, hxs, e⟩
    · cases e
    · cases e
      rcases i with _ | _ | _ | i
      · cases hxs
        refine aw_catch (E := "java/lang/IndexOutOfBoundsException") [] ⟨0, 17, 20, 22⟩ [⟨0, 17, 24, 24⟩, ⟨0, 17, 28, 13⟩] rfl rfl (fun _ h9 => absurd h9 List.not_mem_nil) ⟨rfl, by decide, "java/lang/IndexOutOfBoundsException", ll_22, List.mem_of_getElem? (i := 7) rfl⟩ ?_
        refine aw_astore (lv' := [(4, _), (0, _), (1, _), (2, _), (3, _)]) dd_lw_above_20 (by decide) rfl ?_
        refine aw_iconst (v := 1) dd_lw_above_22 (by decide) ?_
        exact aw_iret dd_lw_above_23 rfl ⟨_, rfl, by rw [hz]; rfl, κ', o, rest', rfl, hR', fun h0 => absurd h0 (by rw [hz]; decide)⟩
      · cases hxs
        refine aw_catch (E := "java/lang/IllegalArgumentException") [⟨0, 17, 20, 22⟩] ⟨0, 17, 24, 24⟩ [⟨0, 17, 28, 13⟩] rfl rfl (List.forall_mem_cons.mpr ⟨Or.inr ⟨by decide, "java/lang/IndexOutOfBoundsException", ll_22, List.mem_of_getElem? (i := 4) rfl⟩, fun _ h9 => absurd h9 List.not_mem_nil⟩) ⟨rfl, by decide, "java/lang/IllegalArgumentException", ll_24, List.mem_of_getElem? (i := 9) rfl⟩ ?_
        refine aw_astore (lv' := [(4, _), (0, _), (1, _), (2, _), (3, _)]) dd_lw_above_24 (by decide) rfl ?_
        refine aw_iconst (v := 2) dd_lw_above_26 (by decide) ?_
        exact aw_iret dd_lw_above_27 rfl ⟨_, rfl, by rw [hz]; rfl, κ', o, rest', rfl, hR', fun h0 => absurd h0 (by rw [hz]; decide)⟩
      · cases hxs
        refine aw_catch (E := "java/lang/IllegalStateException") [⟨0, 17, 20, 22⟩, ⟨0, 17, 24, 24⟩] ⟨0, 17, 28, 13⟩ [] rfl rfl (List.forall_mem_cons.mpr ⟨Or.inr ⟨by decide, "java/lang/IndexOutOfBoundsException", ll_22, List.mem_of_getElem? (i := 3) rfl⟩, List.forall_mem_cons.mpr ⟨Or.inr ⟨by decide, "java/lang/IllegalArgumentException", ll_24, List.mem_of_getElem? (i := 6) rfl⟩, fun _ h9 => absurd h9 List.not_mem_nil⟩⟩) ⟨rfl, by decide, "java/lang/IllegalStateException", ll_13, List.mem_of_getElem? (i := 0) rfl⟩ ?_
        refine aw_astore (lv' := [(4, _), (0, _), (1, _), (2, _), (3, _)]) dd_lw_above_28 (by decide) rfl ?_
        refine aw_iconst (v := 3) dd_lw_above_30 (by decide) ?_
        exact aw_iret dd_lw_above_31 rfl ⟨_, rfl, by rw [hz]; rfl, κ', o, rest', rfl, hR', fun h0 => absurd h0 (by rw [hz]; decide)⟩
      · cases hxs
theorem wc_lw_grant (G : ag_T) (κ : ck_T) (μ : cm_T) (o : Nat → Int64) (rest : List va_E) {A : aa_T} (hR : rk_R G κ rest A) (x : Int32) (y : Int32) : aw_w G mm_lw_grant 8 137 1 6 0 (lv_args 0 [.ref (G.1 + 0), .int x, .int y, .ref (G.1 + 32)]) [] (hp_f G κ μ o rest) (ql_I G μ true (ab_grant A x y)) := by
  refine aw_aload_n dd_lw_grant_0 rfl 3 rfl ?_
  refine aw_iconst (v := (nI 0)) dd_lw_grant_1 (by decide) ?_
  refine aw_aload_n dd_lw_grant_2 rfl 0 rfl ?_
  refine aw_iload_n dd_lw_grant_3 rfl 1 rfl ?_
  refine aw_iload_n dd_lw_grant_4 rfl 2 rfl ?_
  refine aw_callV (kc' := 0) (ks' := 0) mm_ra_grant _ 0 [_, _] _ dd_lw_grant_5 cv_lw_26 my_ra_grant np_ra_grant rfl rfl rfl (Nat.le_of_ble_eq_true rfl) rfl rfl (Nat.le_of_ble_eq_true rfl) (Nat.le_of_ble_eq_true rfl) (wc_ra_grant G κ μ o rest hR x y) (fun v9 h9 hq => ?_) (fun k9 c9 h9 hq => ?_)
  · obtain ⟨κ', rest', rfl, hR', hE⟩ := hq
    rcases hE with ⟨hz, e⟩ | ⟨_, _, _, _, e⟩
    · cases e
      show aw_w _ _ _ _ _ _ _ _ (.int _ :: _) _ _
      refine aw_if_eq (tgt := 15) dd_lw_grant_8 (by decide) (fun hb => ?_) (fun hb => ?_)
      · refine aw_lconst (v := 0) dd_lw_grant_15 (by decide) ?_
        refine aw_last 32 dd_lw_grant_16 rfl (vp_in_nI (by decide) (by decide)) ?_
        rw [hs_o]
        refine aw_goto (tgt := 24) dd_lw_grant_17 (by decide) ?_
        refine aw_iconst (v := 0) dd_lw_grant_24 (by decide) ?_
        exact aw_iret dd_lw_grant_25 rfl (by first | exact ⟨_, rfl, hz.symm, κ', _, rest', rfl, hR', fun _ => (ou_0 _ _).trans (if_pos hb).symm⟩ | exact ⟨_, rfl, hz.symm, κ', _, rest', rfl, hR', fun _ => (ou_0 _ _).trans (if_neg hb).symm⟩)
      · refine aw_lconst (v := 1) dd_lw_grant_11 (by decide) ?_
        refine aw_goto (tgt := 16) dd_lw_grant_12 (by decide) ?_
        refine aw_last 32 dd_lw_grant_16 rfl (vp_in_nI (by decide) (by decide)) ?_
        rw [hs_o]
        refine aw_goto (tgt := 24) dd_lw_grant_17 (by decide) ?_
        refine aw_iconst (v := 0) dd_lw_grant_24 (by decide) ?_
        exact aw_iret dd_lw_grant_25 rfl (by first | exact ⟨_, rfl, hz.symm, κ', _, rest', rfl, hR', fun _ => (ou_0 _ _).trans (if_pos hb).symm⟩ | exact ⟨_, rfl, hz.symm, κ', _, rest', rfl, hR', fun _ => (ou_0 _ _).trans (if_neg hb).symm⟩)
    · cases e
  · obtain ⟨κ', rest', rfl, hR', hE⟩ := hq
    rcases hE with ⟨_, e⟩ | ⟨i, c, hz, hxs, e⟩
    · cases e
    · cases e
      rcases i with _ | i
      · cases hxs
        refine aw_catch (E := "java/lang/IndexOutOfBoundsException") [] ⟨0, 17, 20, 22⟩ [] rfl rfl (fun _ h9 => absurd h9 List.not_mem_nil) ⟨rfl, by decide, "java/lang/IndexOutOfBoundsException", ll_22, List.mem_of_getElem? (i := 7) rfl⟩ ?_
        refine aw_astore (lv' := [(4, _), (0, _), (1, _), (2, _), (3, _)]) dd_lw_grant_20 (by decide) rfl ?_
        refine aw_iconst (v := 1) dd_lw_grant_22 (by decide) ?_
        exact aw_iret dd_lw_grant_23 rfl ⟨_, rfl, by rw [hz]; rfl, κ', o, rest', rfl, hR', fun h0 => absurd h0 (by rw [hz]; decide)⟩
      · cases hxs
theorem wc_lw_limit (G : ag_T) (κ : ck_T) (μ : cm_T) (o : Nat → Int64) (rest : List va_E) {A : aa_T} (hR : rk_R G κ rest A) (hW : wa_W A) (d : Bool) (y : Int32) (z : Int32) : aw_w G mm_lw_limit 8 138 2 16 0 (lv_args 0 [.ref (G.1 + 0), .int (zb_i d), .int y, .int z]) [] (hp_f G κ μ o rest) (ql_V G μ (ab_limit A d y z)) := by
  refine aw_aload_n dd_lw_limit_0 rfl 0 rfl ?_
  refine aw_iload_n dd_lw_limit_1 rfl 1 rfl ?_
  refine aw_iload_n dd_lw_limit_2 rfl 2 rfl ?_
  refine aw_iload_n dd_lw_limit_3 rfl 3 rfl ?_
  refine aw_callV (kc' := 0) (ks' := 0) mm_ra_limit _ 0 [_, _, _] _ dd_lw_limit_4 cv_lw_29 my_ra_limit np_ra_limit rfl rfl rfl (Nat.le_of_ble_eq_true rfl) rfl rfl (Nat.le_of_ble_eq_true rfl) (Nat.le_of_ble_eq_true rfl) (wc_ra_limit G κ μ o rest hR hW d y z) (fun v9 h9 hq => ?_) (fun k9 c9 h9 hq => ?_)
  · obtain ⟨κ', rest', rfl, hR', hE⟩ := hq
    rcases hE with ⟨hz, e⟩ | ⟨_, _, _, _, e⟩
    · cases e
      show aw_w _ _ _ _ _ _ _ _ [] _ _
      refine aw_goto (tgt := 18) dd_lw_limit_7 (by decide) ?_
      refine aw_iconst (v := 0) dd_lw_limit_18 (by decide) ?_
      exact aw_iret dd_lw_limit_19 rfl ⟨_, rfl, hz.symm, κ', o, rest', rfl, hR'⟩
    · cases e
  · obtain ⟨κ', rest', rfl, hR', hE⟩ := hq
    rcases hE with ⟨_, e⟩ | ⟨i, c, hz, hxs, e⟩
    · cases e
    · cases e
      rcases i with _ | _ | i
      · cases hxs
        refine aw_catch (E := "java/lang/IllegalArgumentException") [] ⟨0, 7, 10, 24⟩ [⟨0, 7, 14, 13⟩] rfl rfl (fun _ h9 => absurd h9 List.not_mem_nil) ⟨rfl, by decide, "java/lang/IllegalArgumentException", ll_24, List.mem_of_getElem? (i := 9) rfl⟩ ?_
        refine aw_astore (lv' := [(4, _), (0, _), (1, _), (2, _), (3, _)]) dd_lw_limit_10 (by decide) rfl ?_
        refine aw_iconst (v := 1) dd_lw_limit_12 (by decide) ?_
        exact aw_iret dd_lw_limit_13 rfl ⟨_, rfl, by rw [hz]; rfl, κ', o, rest', rfl, hR'⟩
      · cases hxs
        refine aw_catch (E := "java/lang/IllegalStateException") [⟨0, 7, 10, 24⟩] ⟨0, 7, 14, 13⟩ [] rfl rfl (List.forall_mem_cons.mpr ⟨Or.inr ⟨by decide, "java/lang/IllegalArgumentException", ll_24, List.mem_of_getElem? (i := 6) rfl⟩, fun _ h9 => absurd h9 List.not_mem_nil⟩) ⟨rfl, by decide, "java/lang/IllegalStateException", ll_13, List.mem_of_getElem? (i := 0) rfl⟩ ?_
        refine aw_astore (lv' := [(4, _), (0, _), (1, _), (2, _), (3, _)]) dd_lw_limit_14 (by decide) rfl ?_
        refine aw_iconst (v := 2) dd_lw_limit_16 (by decide) ?_
        exact aw_iret dd_lw_limit_17 rfl ⟨_, rfl, by rw [hz]; rfl, κ', o, rest', rfl, hR'⟩
      · cases hxs
theorem wc_lw_giveRule (G : ag_T) (κ : ck_T) (μ : cm_T) (o : Nat → Int64) (rest : List va_E) {A : aa_T} (hR : rk_R G κ rest A) (x : Int32) (y : Int32) (z : Int32) (w : Int32) : aw_w G mm_lw_giveRule 8 153 2 15 0 (lv_args 0 [.ref (G.1 + 0), .int x, .int y, .int z, .int w, .ref (G.1 + 32)]) [] (hp_f G κ μ o rest) (ql_I G μ false (ab_giveRule A x y z w)) := by
  refine aw_aload dd_lw_giveRule_0 5 rfl ?_
  refine aw_iconst (v := (nI 0)) dd_lw_giveRule_2 (by decide) ?_
  refine aw_aload_n dd_lw_giveRule_3 rfl 0 rfl ?_
  refine aw_iload_n dd_lw_giveRule_4 rfl 1 rfl ?_
  refine aw_iload_n dd_lw_giveRule_5 rfl 2 rfl ?_
  refine aw_iload_n dd_lw_giveRule_6 rfl 3 rfl ?_
  refine aw_iload dd_lw_giveRule_7 4 rfl ?_
  refine aw_callV (kc' := 0) (ks' := 0) mm_ra_giveRule _ 0 [_, _, _, _] _ dd_lw_giveRule_9 cv_lw_33 my_ra_giveRule np_ra_giveRule rfl rfl rfl (Nat.le_of_ble_eq_true rfl) rfl rfl (Nat.le_of_ble_eq_true rfl) (Nat.le_of_ble_eq_true rfl) (wc_ra_giveRule G κ μ o rest hR x y z w) (fun v9 h9 hq => ?_) (fun k9 c9 h9 hq => ?_)
  · obtain ⟨κ', rest', rfl, hR', hE⟩ := hq
    rcases hE with ⟨hz, e⟩ | ⟨_, _, _, _, e⟩
    · cases e
      show aw_w _ _ _ _ _ _ _ _ (.int _ :: _) _ _
      refine aw_i2l dd_lw_giveRule_12 rfl ?_
      refine aw_last 32 dd_lw_giveRule_13 rfl (vp_in_nI (by decide) (by decide)) ?_
      rw [hs_o]
      refine aw_goto (tgt := 29) dd_lw_giveRule_14 (by decide) ?_
      refine aw_iconst (v := 0) dd_lw_giveRule_29 (by decide) ?_
      exact aw_iret dd_lw_giveRule_30 rfl ⟨_, rfl, hz.symm, κ', _, rest', rfl, hR', fun _ => ou_0 _ _⟩
    · cases e
  · obtain ⟨κ', rest', rfl, hR', hE⟩ := hq
    rcases hE with ⟨_, e⟩ | ⟨i, c, hz, hxs, e⟩
    · cases e
    · cases e
      rcases i with _ | _ | _ | i
      · cases hxs
        refine aw_catch (E := "java/lang/IndexOutOfBoundsException") [] ⟨0, 14, 17, 22⟩ [⟨0, 14, 21, 24⟩, ⟨0, 14, 25, 13⟩] rfl rfl (fun _ h9 => absurd h9 List.not_mem_nil) ⟨rfl, by decide, "java/lang/IndexOutOfBoundsException", ll_22, List.mem_of_getElem? (i := 7) rfl⟩ ?_
        refine aw_astore (lv' := [(6, _), (0, _), (1, _), (2, _), (3, _), (4, _), (5, _)]) dd_lw_giveRule_17 (by decide) rfl ?_
        refine aw_iconst (v := 1) dd_lw_giveRule_19 (by decide) ?_
        exact aw_iret dd_lw_giveRule_20 rfl ⟨_, rfl, by rw [hz]; rfl, κ', o, rest', rfl, hR', fun h0 => absurd h0 (by rw [hz]; decide)⟩
      · cases hxs
        refine aw_catch (E := "java/lang/IllegalArgumentException") [⟨0, 14, 17, 22⟩] ⟨0, 14, 21, 24⟩ [⟨0, 14, 25, 13⟩] rfl rfl (List.forall_mem_cons.mpr ⟨Or.inr ⟨by decide, "java/lang/IndexOutOfBoundsException", ll_22, List.mem_of_getElem? (i := 4) rfl⟩, fun _ h9 => absurd h9 List.not_mem_nil⟩) ⟨rfl, by decide, "java/lang/IllegalArgumentException", ll_24, List.mem_of_getElem? (i := 9) rfl⟩ ?_
        refine aw_astore (lv' := [(6, _), (0, _), (1, _), (2, _), (3, _), (4, _), (5, _)]) dd_lw_giveRule_21 (by decide) rfl ?_
        refine aw_iconst (v := 2) dd_lw_giveRule_23 (by decide) ?_
        exact aw_iret dd_lw_giveRule_24 rfl ⟨_, rfl, by rw [hz]; rfl, κ', o, rest', rfl, hR', fun h0 => absurd h0 (by rw [hz]; decide)⟩
      · cases hxs
        refine aw_catch (E := "java/lang/IllegalStateException") [⟨0, 14, 17, 22⟩, ⟨0, 14, 21, 24⟩] ⟨0, 14, 25, 13⟩ [] rfl rfl (List.forall_mem_cons.mpr ⟨Or.inr ⟨by decide, "java/lang/IndexOutOfBoundsException", ll_22, List.mem_of_getElem? (i := 3) rfl⟩, List.forall_mem_cons.mpr ⟨Or.inr ⟨by decide, "java/lang/IllegalArgumentException", ll_24, List.mem_of_getElem? (i := 6) rfl⟩, fun _ h9 => absurd h9 List.not_mem_nil⟩⟩) ⟨rfl, by decide, "java/lang/IllegalStateException", ll_13, List.mem_of_getElem? (i := 0) rfl⟩ ?_
        refine aw_astore (lv' := [(6, _), (0, _), (1, _), (2, _), (3, _), (4, _), (5, _)]) dd_lw_giveRule_25 (by decide) rfl ?_
        refine aw_iconst (v := 3) dd_lw_giveRule_27 (by decide) ?_
        exact aw_iret dd_lw_giveRule_28 rfl ⟨_, rfl, by rw [hz]; rfl, κ', o, rest', rfl, hR', fun h0 => absurd h0 (by rw [hz]; decide)⟩
      · cases hxs
theorem wc_lw_takeRule (G : ag_T) (κ : ck_T) (μ : cm_T) (o : Nat → Int64) (rest : List va_E) {A : aa_T} (hR : rk_R G κ rest A) (x : Int32) (y : Int32) : aw_w G mm_lw_takeRule 8 151 2 15 0 (lv_args 0 [.ref (G.1 + 0), .int x, .int y, .ref (G.1 + 32)]) [] (hp_f G κ μ o rest) (ql_I G μ false (ab_takeRule A x y)) := by
  refine aw_aload_n dd_lw_takeRule_0 rfl 3 rfl ?_
  refine aw_iconst (v := (nI 0)) dd_lw_takeRule_1 (by decide) ?_
  refine aw_aload_n dd_lw_takeRule_2 rfl 0 rfl ?_
  refine aw_iload_n dd_lw_takeRule_3 rfl 1 rfl ?_
  refine aw_iload_n dd_lw_takeRule_4 rfl 2 rfl ?_
  refine aw_callV (kc' := 0) (ks' := 0) mm_ra_takeRule _ 0 [_, _] _ dd_lw_takeRule_5 cv_lw_37 my_ra_takeRule np_ra_takeRule rfl rfl rfl (Nat.le_of_ble_eq_true rfl) rfl rfl (Nat.le_of_ble_eq_true rfl) (Nat.le_of_ble_eq_true rfl) (wc_ra_takeRule G κ μ o rest hR x y) (fun v9 h9 hq => ?_) (fun k9 c9 h9 hq => ?_)
  · obtain ⟨κ', rest', rfl, hR', hE⟩ := hq
    rcases hE with ⟨hz, e⟩ | ⟨_, _, _, _, e⟩
    · cases e
      show aw_w _ _ _ _ _ _ _ _ (.int _ :: _) _ _
      refine aw_i2l dd_lw_takeRule_8 rfl ?_
      refine aw_last 32 dd_lw_takeRule_9 rfl (vp_in_nI (by decide) (by decide)) ?_
      rw [hs_o]
      refine aw_goto (tgt := 21) dd_lw_takeRule_10 (by decide) ?_
      refine aw_iconst (v := 0) dd_lw_takeRule_21 (by decide) ?_
      exact aw_iret dd_lw_takeRule_22 rfl ⟨_, rfl, hz.symm, κ', _, rest', rfl, hR', fun _ => ou_0 _ _⟩
    · cases e
  · obtain ⟨κ', rest', rfl, hR', hE⟩ := hq
    rcases hE with ⟨_, e⟩ | ⟨i, c, hz, hxs, e⟩
    · cases e
    · cases e
      rcases i with _ | _ | i
      · cases hxs
        refine aw_catch (E := "java/lang/IndexOutOfBoundsException") [] ⟨0, 10, 13, 22⟩ [⟨0, 10, 17, 13⟩] rfl rfl (fun _ h9 => absurd h9 List.not_mem_nil) ⟨rfl, by decide, "java/lang/IndexOutOfBoundsException", ll_22, List.mem_of_getElem? (i := 7) rfl⟩ ?_
        refine aw_astore (lv' := [(4, _), (0, _), (1, _), (2, _), (3, _)]) dd_lw_takeRule_13 (by decide) rfl ?_
        refine aw_iconst (v := 1) dd_lw_takeRule_15 (by decide) ?_
        exact aw_iret dd_lw_takeRule_16 rfl ⟨_, rfl, by rw [hz]; rfl, κ', o, rest', rfl, hR', fun h0 => absurd h0 (by rw [hz]; decide)⟩
      · cases hxs
        refine aw_catch (E := "java/lang/IllegalStateException") [⟨0, 10, 13, 22⟩] ⟨0, 10, 17, 13⟩ [] rfl rfl (List.forall_mem_cons.mpr ⟨Or.inr ⟨by decide, "java/lang/IndexOutOfBoundsException", ll_22, List.mem_of_getElem? (i := 3) rfl⟩, fun _ h9 => absurd h9 List.not_mem_nil⟩) ⟨rfl, by decide, "java/lang/IllegalStateException", ll_13, List.mem_of_getElem? (i := 0) rfl⟩ ?_
        refine aw_astore (lv' := [(4, _), (0, _), (1, _), (2, _), (3, _)]) dd_lw_takeRule_17 (by decide) rfl ?_
        refine aw_iconst (v := 2) dd_lw_takeRule_19 (by decide) ?_
        exact aw_iret dd_lw_takeRule_20 rfl ⟨_, rfl, by rw [hz]; rfl, κ', o, rest', rfl, hR', fun h0 => absurd h0 (by rw [hz]; decide)⟩
      · cases hxs
theorem wc_lw_assign (G : ag_T) (κ : ck_T) (μ : cm_T) (o : Nat → Int64) (rest : List va_E) {A : aa_T} (hR : rk_R G κ rest A) (x : Int32) (y : Int32) : aw_w G mm_lw_assign 9 160 1 6 0 (lv_args 0 [.ref (G.1 + 0), .int x, .int y, .ref (G.1 + 32)]) [] (hp_f G κ μ o rest) (ql_I G μ true (ab_assign A x y)) := by
  refine aw_aload_n dd_lw_assign_0 rfl 3 rfl ?_
  refine aw_iconst (v := (nI 0)) dd_lw_assign_1 (by decide) ?_
  refine aw_aload_n dd_lw_assign_2 rfl 0 rfl ?_
  refine aw_iload_n dd_lw_assign_3 rfl 1 rfl ?_
  refine aw_iload_n dd_lw_assign_4 rfl 2 rfl ?_
  refine aw_callV (kc' := 0) (ks' := 0) mm_ra_assign _ 0 [_, _] _ dd_lw_assign_5 cv_lw_41 my_ra_assign np_ra_assign rfl rfl rfl (Nat.le_of_ble_eq_true rfl) rfl rfl (Nat.le_of_ble_eq_true rfl) (Nat.le_of_ble_eq_true rfl) (wc_ra_assign G κ μ o rest hR x y) (fun v9 h9 hq => ?_) (fun k9 c9 h9 hq => ?_)
  · obtain ⟨κ', rest', rfl, hR', hE⟩ := hq
    rcases hE with ⟨hz, e⟩ | ⟨_, _, _, _, e⟩
    · cases e
      show aw_w _ _ _ _ _ _ _ _ (.int _ :: _) _ _
      refine aw_if_eq (tgt := 15) dd_lw_assign_8 (by decide) (fun hb => ?_) (fun hb => ?_)
      · refine aw_lconst (v := 0) dd_lw_assign_15 (by decide) ?_
        refine aw_last 32 dd_lw_assign_16 rfl (vp_in_nI (by decide) (by decide)) ?_
        rw [hs_o]
        refine aw_goto (tgt := 28) dd_lw_assign_17 (by decide) ?_
        refine aw_iconst (v := 0) dd_lw_assign_28 (by decide) ?_
        exact aw_iret dd_lw_assign_29 rfl (by first | exact ⟨_, rfl, hz.symm, κ', _, rest', rfl, hR', fun _ => (ou_0 _ _).trans (if_pos hb).symm⟩ | exact ⟨_, rfl, hz.symm, κ', _, rest', rfl, hR', fun _ => (ou_0 _ _).trans (if_neg hb).symm⟩)
      · refine aw_lconst (v := 1) dd_lw_assign_11 (by decide) ?_
        refine aw_goto (tgt := 16) dd_lw_assign_12 (by decide) ?_
        refine aw_last 32 dd_lw_assign_16 rfl (vp_in_nI (by decide) (by decide)) ?_
        rw [hs_o]
        refine aw_goto (tgt := 28) dd_lw_assign_17 (by decide) ?_
        refine aw_iconst (v := 0) dd_lw_assign_28 (by decide) ?_
        exact aw_iret dd_lw_assign_29 rfl (by first | exact ⟨_, rfl, hz.symm, κ', _, rest', rfl, hR', fun _ => (ou_0 _ _).trans (if_pos hb).symm⟩ | exact ⟨_, rfl, hz.symm, κ', _, rest', rfl, hR', fun _ => (ou_0 _ _).trans (if_neg hb).symm⟩)
    · cases e
  · obtain ⟨κ', rest', rfl, hR', hE⟩ := hq
    rcases hE with ⟨_, e⟩ | ⟨i, c, hz, hxs, e⟩
    · cases e
    · cases e
      rcases i with _ | _ | i
      · cases hxs
        refine aw_catch (E := "java/lang/IndexOutOfBoundsException") [] ⟨0, 17, 20, 22⟩ [⟨0, 17, 24, 13⟩] rfl rfl (fun _ h9 => absurd h9 List.not_mem_nil) ⟨rfl, by decide, "java/lang/IndexOutOfBoundsException", ll_22, List.mem_of_getElem? (i := 7) rfl⟩ ?_
        refine aw_astore (lv' := [(4, _), (0, _), (1, _), (2, _), (3, _)]) dd_lw_assign_20 (by decide) rfl ?_
        refine aw_iconst (v := 1) dd_lw_assign_22 (by decide) ?_
        exact aw_iret dd_lw_assign_23 rfl ⟨_, rfl, by rw [hz]; rfl, κ', o, rest', rfl, hR', fun h0 => absurd h0 (by rw [hz]; decide)⟩
      · cases hxs
        refine aw_catch (E := "java/lang/IllegalStateException") [⟨0, 17, 20, 22⟩] ⟨0, 17, 24, 13⟩ [] rfl rfl (List.forall_mem_cons.mpr ⟨Or.inr ⟨by decide, "java/lang/IndexOutOfBoundsException", ll_22, List.mem_of_getElem? (i := 3) rfl⟩, fun _ h9 => absurd h9 List.not_mem_nil⟩) ⟨rfl, by decide, "java/lang/IllegalStateException", ll_13, List.mem_of_getElem? (i := 0) rfl⟩ ?_
        refine aw_astore (lv' := [(4, _), (0, _), (1, _), (2, _), (3, _)]) dd_lw_assign_24 (by decide) rfl ?_
        refine aw_iconst (v := 2) dd_lw_assign_26 (by decide) ?_
        exact aw_iret dd_lw_assign_27 rfl ⟨_, rfl, by rw [hz]; rfl, κ', o, rest', rfl, hR', fun h0 => absurd h0 (by rw [hz]; decide)⟩
      · cases hxs
theorem wc_lw_remove (G : ag_T) (κ : ck_T) (μ : cm_T) (o : Nat → Int64) (rest : List va_E) {A : aa_T} (hR : rk_R G κ rest A) (x : Int32) (y : Int32) : aw_w G mm_lw_remove 8 136 1 6 0 (lv_args 0 [.ref (G.1 + 0), .int x, .int y, .ref (G.1 + 32)]) [] (hp_f G κ μ o rest) (ql_I G μ true (ab_remove A x y)) := by
  refine aw_aload_n dd_lw_remove_0 rfl 3 rfl ?_
  refine aw_iconst (v := (nI 0)) dd_lw_remove_1 (by decide) ?_
  refine aw_aload_n dd_lw_remove_2 rfl 0 rfl ?_
  refine aw_iload_n dd_lw_remove_3 rfl 1 rfl ?_
  refine aw_iload_n dd_lw_remove_4 rfl 2 rfl ?_
  refine aw_callV (kc' := 0) (ks' := 0) mm_ra_remove _ 0 [_, _] _ dd_lw_remove_5 cv_lw_44 my_ra_remove np_ra_remove rfl rfl rfl (Nat.le_of_ble_eq_true rfl) rfl rfl (Nat.le_of_ble_eq_true rfl) (Nat.le_of_ble_eq_true rfl) (wc_ra_remove G κ μ o rest hR x y) (fun v9 h9 hq => ?_) (fun k9 c9 h9 hq => ?_)
  · obtain ⟨κ', rest', rfl, hR', hE⟩ := hq
    rcases hE with ⟨hz, e⟩ | ⟨_, _, _, _, e⟩
    · cases e
      show aw_w _ _ _ _ _ _ _ _ (.int _ :: _) _ _
      refine aw_if_eq (tgt := 15) dd_lw_remove_8 (by decide) (fun hb => ?_) (fun hb => ?_)
      · refine aw_lconst (v := 0) dd_lw_remove_15 (by decide) ?_
        refine aw_last 32 dd_lw_remove_16 rfl (vp_in_nI (by decide) (by decide)) ?_
        rw [hs_o]
        refine aw_goto (tgt := 24) dd_lw_remove_17 (by decide) ?_
        refine aw_iconst (v := 0) dd_lw_remove_24 (by decide) ?_
        exact aw_iret dd_lw_remove_25 rfl (by first | exact ⟨_, rfl, hz.symm, κ', _, rest', rfl, hR', fun _ => (ou_0 _ _).trans (if_pos hb).symm⟩ | exact ⟨_, rfl, hz.symm, κ', _, rest', rfl, hR', fun _ => (ou_0 _ _).trans (if_neg hb).symm⟩)
      · refine aw_lconst (v := 1) dd_lw_remove_11 (by decide) ?_
        refine aw_goto (tgt := 16) dd_lw_remove_12 (by decide) ?_
        refine aw_last 32 dd_lw_remove_16 rfl (vp_in_nI (by decide) (by decide)) ?_
        rw [hs_o]
        refine aw_goto (tgt := 24) dd_lw_remove_17 (by decide) ?_
        refine aw_iconst (v := 0) dd_lw_remove_24 (by decide) ?_
        exact aw_iret dd_lw_remove_25 rfl (by first | exact ⟨_, rfl, hz.symm, κ', _, rest', rfl, hR', fun _ => (ou_0 _ _).trans (if_pos hb).symm⟩ | exact ⟨_, rfl, hz.symm, κ', _, rest', rfl, hR', fun _ => (ou_0 _ _).trans (if_neg hb).symm⟩)
    · cases e
  · obtain ⟨κ', rest', rfl, hR', hE⟩ := hq
    rcases hE with ⟨_, e⟩ | ⟨i, c, hz, hxs, e⟩
    · cases e
    · cases e
      rcases i with _ | i
      · cases hxs
        refine aw_catch (E := "java/lang/IndexOutOfBoundsException") [] ⟨0, 17, 20, 22⟩ [] rfl rfl (fun _ h9 => absurd h9 List.not_mem_nil) ⟨rfl, by decide, "java/lang/IndexOutOfBoundsException", ll_22, List.mem_of_getElem? (i := 7) rfl⟩ ?_
        refine aw_astore (lv' := [(4, _), (0, _), (1, _), (2, _), (3, _)]) dd_lw_remove_20 (by decide) rfl ?_
        refine aw_iconst (v := 1) dd_lw_remove_22 (by decide) ?_
        exact aw_iret dd_lw_remove_23 rfl ⟨_, rfl, by rw [hz]; rfl, κ', o, rest', rfl, hR', fun h0 => absurd h0 (by rw [hz]; decide)⟩
      · cases hxs
theorem wc_lw_give (G : ag_T) (κ : ck_T) (μ : cm_T) (o : Nat → Int64) (rest : List va_E) {A : aa_T} (hR : rk_R G κ rest A) (x : Int32) (y : Int32) (z : Int32) : aw_w G mm_lw_give 9 161 1 6 0 (lv_args 0 [.ref (G.1 + 0), .int x, .int y, .int z, .ref (G.1 + 32)]) [] (hp_f G κ μ o rest) (ql_I G μ true (ab_give A x y z)) := by
  refine aw_aload dd_lw_give_0 4 rfl ?_
  refine aw_iconst (v := (nI 0)) dd_lw_give_2 (by decide) ?_
  refine aw_aload_n dd_lw_give_3 rfl 0 rfl ?_
  refine aw_iload_n dd_lw_give_4 rfl 1 rfl ?_
  refine aw_iload_n dd_lw_give_5 rfl 2 rfl ?_
  refine aw_iload_n dd_lw_give_6 rfl 3 rfl ?_
  refine aw_callV (kc' := 0) (ks' := 0) mm_ra_give _ 0 [_, _, _] _ dd_lw_give_7 cv_lw_47 my_ra_give np_ra_give rfl rfl rfl (Nat.le_of_ble_eq_true rfl) rfl rfl (Nat.le_of_ble_eq_true rfl) (Nat.le_of_ble_eq_true rfl) (wc_ra_give G κ μ o rest hR x y z) (fun v9 h9 hq => ?_) (fun k9 c9 h9 hq => ?_)
  · obtain ⟨κ', rest', rfl, hR', hE⟩ := hq
    rcases hE with ⟨hz, e⟩ | ⟨_, _, _, _, e⟩
    · cases e
      show aw_w _ _ _ _ _ _ _ _ (.int _ :: _) _ _
      refine aw_if_eq (tgt := 17) dd_lw_give_10 (by decide) (fun hb => ?_) (fun hb => ?_)
      · refine aw_lconst (v := 0) dd_lw_give_17 (by decide) ?_
        refine aw_last 32 dd_lw_give_18 rfl (vp_in_nI (by decide) (by decide)) ?_
        rw [hs_o]
        refine aw_goto (tgt := 34) dd_lw_give_19 (by decide) ?_
        refine aw_iconst (v := 0) dd_lw_give_34 (by decide) ?_
        exact aw_iret dd_lw_give_35 rfl (by first | exact ⟨_, rfl, hz.symm, κ', _, rest', rfl, hR', fun _ => (ou_0 _ _).trans (if_pos hb).symm⟩ | exact ⟨_, rfl, hz.symm, κ', _, rest', rfl, hR', fun _ => (ou_0 _ _).trans (if_neg hb).symm⟩)
      · refine aw_lconst (v := 1) dd_lw_give_13 (by decide) ?_
        refine aw_goto (tgt := 18) dd_lw_give_14 (by decide) ?_
        refine aw_last 32 dd_lw_give_18 rfl (vp_in_nI (by decide) (by decide)) ?_
        rw [hs_o]
        refine aw_goto (tgt := 34) dd_lw_give_19 (by decide) ?_
        refine aw_iconst (v := 0) dd_lw_give_34 (by decide) ?_
        exact aw_iret dd_lw_give_35 rfl (by first | exact ⟨_, rfl, hz.symm, κ', _, rest', rfl, hR', fun _ => (ou_0 _ _).trans (if_pos hb).symm⟩ | exact ⟨_, rfl, hz.symm, κ', _, rest', rfl, hR', fun _ => (ou_0 _ _).trans (if_neg hb).symm⟩)
    · cases e
  · obtain ⟨κ', rest', rfl, hR', hE⟩ := hq
    rcases hE with ⟨_, e⟩ | ⟨i, c, hz, hxs, e⟩
    · cases e
    · cases e
      rcases i with _ | _ | _ | i
      · cases hxs
        refine aw_catch (E := "java/lang/IndexOutOfBoundsException") [] ⟨0, 19, 22, 22⟩ [⟨0, 19, 26, 51⟩, ⟨0, 19, 30, 13⟩] rfl rfl (fun _ h9 => absurd h9 List.not_mem_nil) ⟨rfl, by decide, "java/lang/IndexOutOfBoundsException", ll_22, List.mem_of_getElem? (i := 7) rfl⟩ ?_
        refine aw_astore (lv' := [(5, _), (0, _), (1, _), (2, _), (3, _), (4, _)]) dd_lw_give_22 (by decide) rfl ?_
        refine aw_iconst (v := 1) dd_lw_give_24 (by decide) ?_
        exact aw_iret dd_lw_give_25 rfl ⟨_, rfl, by rw [hz]; rfl, κ', o, rest', rfl, hR', fun h0 => absurd h0 (by rw [hz]; decide)⟩
      · cases hxs
        refine aw_catch (E := "java/lang/UnsupportedOperationException") [⟨0, 19, 22, 22⟩] ⟨0, 19, 26, 51⟩ [⟨0, 19, 30, 13⟩] rfl rfl (List.forall_mem_cons.mpr ⟨Or.inr ⟨by decide, "java/lang/IndexOutOfBoundsException", ll_22, List.mem_of_getElem? (i := 5) rfl⟩, fun _ h9 => absurd h9 List.not_mem_nil⟩) ⟨rfl, by decide, "java/lang/UnsupportedOperationException", ll_51, List.mem_of_getElem? (i := 11) rfl⟩ ?_
        refine aw_astore (lv' := [(5, _), (0, _), (1, _), (2, _), (3, _), (4, _)]) dd_lw_give_26 (by decide) rfl ?_
        refine aw_iconst (v := 2) dd_lw_give_28 (by decide) ?_
        exact aw_iret dd_lw_give_29 rfl ⟨_, rfl, by rw [hz]; rfl, κ', o, rest', rfl, hR', fun h0 => absurd h0 (by rw [hz]; decide)⟩
      · cases hxs
        refine aw_catch (E := "java/lang/IllegalStateException") [⟨0, 19, 22, 22⟩, ⟨0, 19, 26, 51⟩] ⟨0, 19, 30, 13⟩ [] rfl rfl (List.forall_mem_cons.mpr ⟨Or.inr ⟨by decide, "java/lang/IndexOutOfBoundsException", ll_22, List.mem_of_getElem? (i := 3) rfl⟩, List.forall_mem_cons.mpr ⟨Or.inr ⟨by decide, "java/lang/UnsupportedOperationException", ll_51, List.mem_of_getElem? (i := 9) rfl⟩, fun _ h9 => absurd h9 List.not_mem_nil⟩⟩) ⟨rfl, by decide, "java/lang/IllegalStateException", ll_13, List.mem_of_getElem? (i := 0) rfl⟩ ?_
        refine aw_astore (lv' := [(5, _), (0, _), (1, _), (2, _), (3, _), (4, _)]) dd_lw_give_30 (by decide) rfl ?_
        refine aw_iconst (v := 3) dd_lw_give_32 (by decide) ?_
        exact aw_iret dd_lw_give_33 rfl ⟨_, rfl, by rw [hz]; rfl, κ', o, rest', rfl, hR', fun h0 => absurd h0 (by rw [hz]; decide)⟩
      · cases hxs
theorem wc_lw_take (G : ag_T) (κ : ck_T) (μ : cm_T) (o : Nat → Int64) (rest : List va_E) {A : aa_T} (hR : rk_R G κ rest A) (x : Int32) (y : Int32) (z : Int32) : aw_w G mm_lw_take 8 140 1 6 0 (lv_args 0 [.ref (G.1 + 0), .int x, .int y, .int z, .ref (G.1 + 32)]) [] (hp_f G κ μ o rest) (ql_I G μ true (ab_take A x y z)) := by
  refine aw_aload dd_lw_take_0 4 rfl ?_
  refine aw_iconst (v := (nI 0)) dd_lw_take_2 (by decide) ?_
  refine aw_aload_n dd_lw_take_3 rfl 0 rfl ?_
  refine aw_iload_n dd_lw_take_4 rfl 1 rfl ?_
  refine aw_iload_n dd_lw_take_5 rfl 2 rfl ?_
  refine aw_iload_n dd_lw_take_6 rfl 3 rfl ?_
  refine aw_callV (kc' := 0) (ks' := 0) mm_ra_take _ 0 [_, _, _] _ dd_lw_take_7 cv_lw_53 my_ra_take np_ra_take rfl rfl rfl (Nat.le_of_ble_eq_true rfl) rfl rfl (Nat.le_of_ble_eq_true rfl) (Nat.le_of_ble_eq_true rfl) (wc_ra_take G κ μ o rest hR x y z) (fun v9 h9 hq => ?_) (fun k9 c9 h9 hq => ?_)
  · obtain ⟨κ', rest', rfl, hR', hE⟩ := hq
    rcases hE with ⟨hz, e⟩ | ⟨_, _, _, _, e⟩
    · cases e
      show aw_w _ _ _ _ _ _ _ _ (.int _ :: _) _ _
      refine aw_if_eq (tgt := 17) dd_lw_take_10 (by decide) (fun hb => ?_) (fun hb => ?_)
      · refine aw_lconst (v := 0) dd_lw_take_17 (by decide) ?_
        refine aw_last 32 dd_lw_take_18 rfl (vp_in_nI (by decide) (by decide)) ?_
        rw [hs_o]
        refine aw_goto (tgt := 30) dd_lw_take_19 (by decide) ?_
        refine aw_iconst (v := 0) dd_lw_take_30 (by decide) ?_
        exact aw_iret dd_lw_take_31 rfl (by first | exact ⟨_, rfl, hz.symm, κ', _, rest', rfl, hR', fun _ => (ou_0 _ _).trans (if_pos hb).symm⟩ | exact ⟨_, rfl, hz.symm, κ', _, rest', rfl, hR', fun _ => (ou_0 _ _).trans (if_neg hb).symm⟩)
      · refine aw_lconst (v := 1) dd_lw_take_13 (by decide) ?_
        refine aw_goto (tgt := 18) dd_lw_take_14 (by decide) ?_
        refine aw_last 32 dd_lw_take_18 rfl (vp_in_nI (by decide) (by decide)) ?_
        rw [hs_o]
        refine aw_goto (tgt := 30) dd_lw_take_19 (by decide) ?_
        refine aw_iconst (v := 0) dd_lw_take_30 (by decide) ?_
        exact aw_iret dd_lw_take_31 rfl (by first | exact ⟨_, rfl, hz.symm, κ', _, rest', rfl, hR', fun _ => (ou_0 _ _).trans (if_pos hb).symm⟩ | exact ⟨_, rfl, hz.symm, κ', _, rest', rfl, hR', fun _ => (ou_0 _ _).trans (if_neg hb).symm⟩)
    · cases e
  · obtain ⟨κ', rest', rfl, hR', hE⟩ := hq
    rcases hE with ⟨_, e⟩ | ⟨i, c, hz, hxs, e⟩
    · cases e
    · cases e
      rcases i with _ | _ | i
      · cases hxs
        refine aw_catch (E := "java/lang/IndexOutOfBoundsException") [] ⟨0, 19, 22, 22⟩ [⟨0, 19, 26, 51⟩] rfl rfl (fun _ h9 => absurd h9 List.not_mem_nil) ⟨rfl, by decide, "java/lang/IndexOutOfBoundsException", ll_22, List.mem_of_getElem? (i := 7) rfl⟩ ?_
        refine aw_astore (lv' := [(5, _), (0, _), (1, _), (2, _), (3, _), (4, _)]) dd_lw_take_22 (by decide) rfl ?_
        refine aw_iconst (v := 1) dd_lw_take_24 (by decide) ?_
        exact aw_iret dd_lw_take_25 rfl ⟨_, rfl, by rw [hz]; rfl, κ', o, rest', rfl, hR', fun h0 => absurd h0 (by rw [hz]; decide)⟩
      · cases hxs
        refine aw_catch (E := "java/lang/UnsupportedOperationException") [⟨0, 19, 22, 22⟩] ⟨0, 19, 26, 51⟩ [] rfl rfl (List.forall_mem_cons.mpr ⟨Or.inr ⟨by decide, "java/lang/IndexOutOfBoundsException", ll_22, List.mem_of_getElem? (i := 5) rfl⟩, fun _ h9 => absurd h9 List.not_mem_nil⟩) ⟨rfl, by decide, "java/lang/UnsupportedOperationException", ll_51, List.mem_of_getElem? (i := 11) rfl⟩ ?_
        refine aw_astore (lv' := [(5, _), (0, _), (1, _), (2, _), (3, _), (4, _)]) dd_lw_take_26 (by decide) rfl ?_
        refine aw_iconst (v := 2) dd_lw_take_28 (by decide) ?_
        exact aw_iret dd_lw_take_29 rfl ⟨_, rfl, by rw [hz]; rfl, κ', o, rest', rfl, hR', fun h0 => absurd h0 (by rw [hz]; decide)⟩
      · cases hxs
theorem wc_lw_roles (G : ag_T) (κ : ck_T) (μ : cm_T) (o : Nat → Int64) (rest : List va_E) {A : aa_T} (hR : rk_R G κ rest A) (x : Int32) (d : Bool) : aw_w G mm_lw_roles 8 136 1 6 0 (lv_args 0 [.ref (G.1 + 0), .int x, .int (zb_i d), .ref (G.1 + 32)]) [] (hp_f G κ μ o rest) (ql_I G μ false (ab_roles A x d)) := by
  refine aw_aload_n dd_lw_roles_0 rfl 3 rfl ?_
  refine aw_iconst (v := (nI 0)) dd_lw_roles_1 (by decide) ?_
  refine aw_aload_n dd_lw_roles_2 rfl 0 rfl ?_
  refine aw_iload_n dd_lw_roles_3 rfl 1 rfl ?_
  refine aw_iload_n dd_lw_roles_4 rfl 2 rfl ?_
  refine aw_callV (kc' := 0) (ks' := 0) mm_ra_roles _ 0 [_, _] _ dd_lw_roles_5 cv_lw_56 my_ra_roles np_ra_roles rfl rfl rfl (Nat.le_of_ble_eq_true rfl) rfl rfl (Nat.le_of_ble_eq_true rfl) (Nat.le_of_ble_eq_true rfl) (wc_ra_roles G κ μ o rest hR x d) (fun v9 h9 hq => ?_) (fun k9 c9 h9 hq => ?_)
  · obtain ⟨κ', rest', rfl, hR', hE⟩ := hq
    rcases hE with ⟨hz, e⟩ | ⟨_, _, _, _, e⟩
    · cases e
      show aw_w _ _ _ _ _ _ _ _ (.int _ :: _) _ _
      refine aw_i2l dd_lw_roles_8 rfl ?_
      refine aw_last 32 dd_lw_roles_9 rfl (vp_in_nI (by decide) (by decide)) ?_
      rw [hs_o]
      refine aw_goto (tgt := 17) dd_lw_roles_10 (by decide) ?_
      refine aw_iconst (v := 0) dd_lw_roles_17 (by decide) ?_
      exact aw_iret dd_lw_roles_18 rfl ⟨_, rfl, hz.symm, κ', _, rest', rfl, hR', fun _ => ou_0 _ _⟩
    · cases e
  · obtain ⟨κ', rest', rfl, hR', hE⟩ := hq
    rcases hE with ⟨_, e⟩ | ⟨i, c, hz, hxs, e⟩
    · cases e
    · cases e
      rcases i with _ | i
      · cases hxs
        refine aw_catch (E := "java/lang/IndexOutOfBoundsException") [] ⟨0, 10, 13, 22⟩ [] rfl rfl (fun _ h9 => absurd h9 List.not_mem_nil) ⟨rfl, by decide, "java/lang/IndexOutOfBoundsException", ll_22, List.mem_of_getElem? (i := 7) rfl⟩ ?_
        refine aw_astore (lv' := [(4, _), (0, _), (1, _), (2, _), (3, _)]) dd_lw_roles_13 (by decide) rfl ?_
        refine aw_iconst (v := 1) dd_lw_roles_15 (by decide) ?_
        exact aw_iret dd_lw_roles_16 rfl ⟨_, rfl, by rw [hz]; rfl, κ', o, rest', rfl, hR', fun h0 => absurd h0 (by rw [hz]; decide)⟩
      · cases hxs
theorem wc_lw_open (G : ag_T) (κ : ck_T) (μ : cm_T) (o : Nat → Int64) (rest : List va_E) {A : aa_T} (hR : rk_R G κ rest A) (hW : wa_W A) (x : Int32) : aw_w G mm_lw_open 8 136 1 6 0 (lv_args 0 [.ref (G.1 + 0), .int x, .ref (G.1 + 32)]) [] (hp_f G κ μ o rest) (ql_I G μ false (ab_open A x)) := by
  refine aw_aload_n dd_lw_open_0 rfl 2 rfl ?_
  refine aw_iconst (v := (nI 0)) dd_lw_open_1 (by decide) ?_
  refine aw_aload_n dd_lw_open_2 rfl 0 rfl ?_
  refine aw_iload_n dd_lw_open_3 rfl 1 rfl ?_
  refine aw_callV (kc' := 0) (ks' := 0) mm_ra_open _ 0 [_] _ dd_lw_open_4 cv_lw_60 my_ra_open np_ra_open rfl rfl rfl (Nat.le_of_ble_eq_true rfl) rfl rfl (Nat.le_of_ble_eq_true rfl) (Nat.le_of_ble_eq_true rfl) (wc_ra_open G κ μ o rest hR hW x) (fun v9 h9 hq => ?_) (fun k9 c9 h9 hq => ?_)
  · obtain ⟨κ', rest', rfl, hR', hE⟩ := hq
    rcases hE with ⟨hz, e⟩ | ⟨_, _, _, _, e⟩
    · cases e
      show aw_w _ _ _ _ _ _ _ _ (.int _ :: _) _ _
      refine aw_i2l dd_lw_open_7 rfl ?_
      refine aw_last 32 dd_lw_open_8 rfl (vp_in_nI (by decide) (by decide)) ?_
      rw [hs_o]
      refine aw_goto (tgt := 18) dd_lw_open_9 (by decide) ?_
      refine aw_iconst (v := 0) dd_lw_open_18 (by decide) ?_
      exact aw_iret dd_lw_open_19 rfl ⟨_, rfl, hz.symm, κ', _, rest', rfl, hR', fun _ => ou_0 _ _⟩
    · cases e
  · obtain ⟨κ', rest', rfl, hR', hE⟩ := hq
    rcases hE with ⟨_, e⟩ | ⟨i, c, hz, hxs, e⟩
    · cases e
    · cases e
      rcases i with _ | _ | i
      · cases hxs
        refine aw_catch (E := "java/lang/IndexOutOfBoundsException") [] ⟨0, 9, 12, 22⟩ [⟨0, 9, 15, 13⟩] rfl rfl (fun _ h9 => absurd h9 List.not_mem_nil) ⟨rfl, by decide, "java/lang/IndexOutOfBoundsException", ll_22, List.mem_of_getElem? (i := 7) rfl⟩ ?_
        refine aw_astore_n (lv' := [(3, _), (0, _), (1, _), (2, _)]) dd_lw_open_12 rfl (by decide) rfl ?_
        refine aw_iconst (v := 1) dd_lw_open_13 (by decide) ?_
        exact aw_iret dd_lw_open_14 rfl ⟨_, rfl, by rw [hz]; rfl, κ', o, rest', rfl, hR', fun h0 => absurd h0 (by rw [hz]; decide)⟩
      · cases hxs
        refine aw_catch (E := "java/lang/IllegalStateException") [⟨0, 9, 12, 22⟩] ⟨0, 9, 15, 13⟩ [] rfl rfl (List.forall_mem_cons.mpr ⟨Or.inr ⟨by decide, "java/lang/IndexOutOfBoundsException", ll_22, List.mem_of_getElem? (i := 3) rfl⟩, fun _ h9 => absurd h9 List.not_mem_nil⟩) ⟨rfl, by decide, "java/lang/IllegalStateException", ll_13, List.mem_of_getElem? (i := 0) rfl⟩ ?_
        refine aw_astore_n (lv' := [(3, _), (0, _), (1, _), (2, _)]) dd_lw_open_15 rfl (by decide) rfl ?_
        refine aw_iconst (v := 2) dd_lw_open_16 (by decide) ?_
        exact aw_iret dd_lw_open_17 rfl ⟨_, rfl, by rw [hz]; rfl, κ', o, rest', rfl, hR', fun h0 => absurd h0 (by rw [hz]; decide)⟩
      · cases hxs
theorem wc_lw_close (G : ag_T) (κ : ck_T) (μ : cm_T) (o : Nat → Int64) (rest : List va_E) {A : aa_T} (hR : rk_R G κ rest A) (x : Int32) : aw_w G mm_lw_close 8 135 1 6 0 (lv_args 0 [.ref (G.1 + 0), .int x]) [] (hp_f G κ μ o rest) (ql_V G μ (ab_close A x)) := by
  refine aw_aload_n dd_lw_close_0 rfl 0 rfl ?_
  refine aw_iload_n dd_lw_close_1 rfl 1 rfl ?_
  refine aw_callV (kc' := 0) (ks' := 0) mm_ra_close _ 0 [_] _ dd_lw_close_2 cv_lw_64 my_ra_close np_ra_close rfl rfl rfl (Nat.le_of_ble_eq_true rfl) rfl rfl (Nat.le_of_ble_eq_true rfl) (Nat.le_of_ble_eq_true rfl) (wc_ra_close G κ μ o rest hR x) (fun v9 h9 hq => ?_) (fun k9 c9 h9 hq => ?_)
  · obtain ⟨κ', rest', rfl, hR', hE⟩ := hq
    rcases hE with ⟨hz, e⟩ | ⟨_, _, _, _, e⟩
    · cases e
      show aw_w _ _ _ _ _ _ _ _ [] _ _
      refine aw_goto (tgt := 11) dd_lw_close_5 (by decide) ?_
      refine aw_iconst (v := 0) dd_lw_close_11 (by decide) ?_
      exact aw_iret dd_lw_close_12 rfl ⟨_, rfl, hz.symm, κ', o, rest', rfl, hR'⟩
    · cases e
  · obtain ⟨κ', rest', rfl, hR', hE⟩ := hq
    rcases hE with ⟨_, e⟩ | ⟨i, c, hz, hxs, e⟩
    · cases e
    · cases e
      rcases i with _ | i
      · cases hxs
        refine aw_catch (E := "java/lang/IndexOutOfBoundsException") [] ⟨0, 5, 8, 22⟩ [] rfl rfl (fun _ h9 => absurd h9 List.not_mem_nil) ⟨rfl, by decide, "java/lang/IndexOutOfBoundsException", ll_22, List.mem_of_getElem? (i := 7) rfl⟩ ?_
        refine aw_astore_n (lv' := [(2, _), (0, _), (1, _)]) dd_lw_close_8 rfl (by decide) rfl ?_
        refine aw_iconst (v := 1) dd_lw_close_9 (by decide) ?_
        exact aw_iret dd_lw_close_10 rfl ⟨_, rfl, by rw [hz]; rfl, κ', o, rest', rfl, hR'⟩
      · cases hxs
theorem wc_lw_activate (G : ag_T) (κ : ck_T) (μ : cm_T) (o : Nat → Int64) (rest : List va_E) {A : aa_T} (hR : rk_R G κ rest A) (x : Int32) (y : Int32) : aw_w G mm_lw_activate 8 138 1 6 0 (lv_args 0 [.ref (G.1 + 0), .int x, .int y, .ref (G.1 + 32)]) [] (hp_f G κ μ o rest) (ql_I G μ true (ab_activate A x y)) := by
  refine aw_aload_n dd_lw_activate_0 rfl 3 rfl ?_
  refine aw_iconst (v := (nI 0)) dd_lw_activate_1 (by decide) ?_
  refine aw_aload_n dd_lw_activate_2 rfl 0 rfl ?_
  refine aw_iload_n dd_lw_activate_3 rfl 1 rfl ?_
  refine aw_iload_n dd_lw_activate_4 rfl 2 rfl ?_
  refine aw_callV (kc' := 0) (ks' := 0) mm_ra_activate _ 0 [_, _] _ dd_lw_activate_5 cv_lw_68 my_ra_activate np_ra_activate rfl rfl rfl (Nat.le_of_ble_eq_true rfl) rfl rfl (Nat.le_of_ble_eq_true rfl) (Nat.le_of_ble_eq_true rfl) (wc_ra_activate G κ μ o rest hR x y) (fun v9 h9 hq => ?_) (fun k9 c9 h9 hq => ?_)
  · obtain ⟨κ', rest', rfl, hR', hE⟩ := hq
    rcases hE with ⟨hz, e⟩ | ⟨_, _, _, _, e⟩
    · cases e
      show aw_w _ _ _ _ _ _ _ _ (.int _ :: _) _ _
      refine aw_if_eq (tgt := 15) dd_lw_activate_8 (by decide) (fun hb => ?_) (fun hb => ?_)
      · refine aw_lconst (v := 0) dd_lw_activate_15 (by decide) ?_
        refine aw_last 32 dd_lw_activate_16 rfl (vp_in_nI (by decide) (by decide)) ?_
        rw [hs_o]
        refine aw_goto (tgt := 32) dd_lw_activate_17 (by decide) ?_
        refine aw_iconst (v := 0) dd_lw_activate_32 (by decide) ?_
        exact aw_iret dd_lw_activate_33 rfl (by first | exact ⟨_, rfl, hz.symm, κ', _, rest', rfl, hR', fun _ => (ou_0 _ _).trans (if_pos hb).symm⟩ | exact ⟨_, rfl, hz.symm, κ', _, rest', rfl, hR', fun _ => (ou_0 _ _).trans (if_neg hb).symm⟩)
      · refine aw_lconst (v := 1) dd_lw_activate_11 (by decide) ?_
        refine aw_goto (tgt := 16) dd_lw_activate_12 (by decide) ?_
        refine aw_last 32 dd_lw_activate_16 rfl (vp_in_nI (by decide) (by decide)) ?_
        rw [hs_o]
        refine aw_goto (tgt := 32) dd_lw_activate_17 (by decide) ?_
        refine aw_iconst (v := 0) dd_lw_activate_32 (by decide) ?_
        exact aw_iret dd_lw_activate_33 rfl (by first | exact ⟨_, rfl, hz.symm, κ', _, rest', rfl, hR', fun _ => (ou_0 _ _).trans (if_pos hb).symm⟩ | exact ⟨_, rfl, hz.symm, κ', _, rest', rfl, hR', fun _ => (ou_0 _ _).trans (if_neg hb).symm⟩)
    · cases e
  · obtain ⟨κ', rest', rfl, hR', hE⟩ := hq
    rcases hE with ⟨_, e⟩ | ⟨i, c, hz, hxs, e⟩
    · cases e
    · cases e
      rcases i with _ | _ | _ | i
      · cases hxs
        refine aw_catch (E := "java/lang/IndexOutOfBoundsException") [] ⟨0, 17, 20, 22⟩ [⟨0, 17, 24, 51⟩, ⟨0, 17, 28, 13⟩] rfl rfl (fun _ h9 => absurd h9 List.not_mem_nil) ⟨rfl, by decide, "java/lang/IndexOutOfBoundsException", ll_22, List.mem_of_getElem? (i := 7) rfl⟩ ?_
        refine aw_astore (lv' := [(4, _), (0, _), (1, _), (2, _), (3, _)]) dd_lw_activate_20 (by decide) rfl ?_
        refine aw_iconst (v := 1) dd_lw_activate_22 (by decide) ?_
        exact aw_iret dd_lw_activate_23 rfl ⟨_, rfl, by rw [hz]; rfl, κ', o, rest', rfl, hR', fun h0 => absurd h0 (by rw [hz]; decide)⟩
      · cases hxs
        refine aw_catch (E := "java/lang/UnsupportedOperationException") [⟨0, 17, 20, 22⟩] ⟨0, 17, 24, 51⟩ [⟨0, 17, 28, 13⟩] rfl rfl (List.forall_mem_cons.mpr ⟨Or.inr ⟨by decide, "java/lang/IndexOutOfBoundsException", ll_22, List.mem_of_getElem? (i := 5) rfl⟩, fun _ h9 => absurd h9 List.not_mem_nil⟩) ⟨rfl, by decide, "java/lang/UnsupportedOperationException", ll_51, List.mem_of_getElem? (i := 11) rfl⟩ ?_
        refine aw_astore (lv' := [(4, _), (0, _), (1, _), (2, _), (3, _)]) dd_lw_activate_24 (by decide) rfl ?_
        refine aw_iconst (v := 2) dd_lw_activate_26 (by decide) ?_
        exact aw_iret dd_lw_activate_27 rfl ⟨_, rfl, by rw [hz]; rfl, κ', o, rest', rfl, hR', fun h0 => absurd h0 (by rw [hz]; decide)⟩
      · cases hxs
        refine aw_catch (E := "java/lang/IllegalStateException") [⟨0, 17, 20, 22⟩, ⟨0, 17, 24, 51⟩] ⟨0, 17, 28, 13⟩ [] rfl rfl (List.forall_mem_cons.mpr ⟨Or.inr ⟨by decide, "java/lang/IndexOutOfBoundsException", ll_22, List.mem_of_getElem? (i := 3) rfl⟩, List.forall_mem_cons.mpr ⟨Or.inr ⟨by decide, "java/lang/UnsupportedOperationException", ll_51, List.mem_of_getElem? (i := 9) rfl⟩, fun _ h9 => absurd h9 List.not_mem_nil⟩⟩) ⟨rfl, by decide, "java/lang/IllegalStateException", ll_13, List.mem_of_getElem? (i := 0) rfl⟩ ?_
        refine aw_astore (lv' := [(4, _), (0, _), (1, _), (2, _), (3, _)]) dd_lw_activate_28 (by decide) rfl ?_
        refine aw_iconst (v := 3) dd_lw_activate_30 (by decide) ?_
        exact aw_iret dd_lw_activate_31 rfl ⟨_, rfl, by rw [hz]; rfl, κ', o, rest', rfl, hR', fun h0 => absurd h0 (by rw [hz]; decide)⟩
      · cases hxs
theorem wc_lw_rest (G : ag_T) (κ : ck_T) (μ : cm_T) (o : Nat → Int64) (rest : List va_E) {A : aa_T} (hR : rk_R G κ rest A) (x : Int32) (y : Int32) : aw_w G mm_lw_rest 8 137 1 6 0 (lv_args 0 [.ref (G.1 + 0), .int x, .int y, .ref (G.1 + 32)]) [] (hp_f G κ μ o rest) (ql_I G μ true (ab_rest A x y)) := by
  refine aw_aload_n dd_lw_rest_0 rfl 3 rfl ?_
  refine aw_iconst (v := (nI 0)) dd_lw_rest_1 (by decide) ?_
  refine aw_aload_n dd_lw_rest_2 rfl 0 rfl ?_
  refine aw_iload_n dd_lw_rest_3 rfl 1 rfl ?_
  refine aw_iload_n dd_lw_rest_4 rfl 2 rfl ?_
  refine aw_callV (kc' := 0) (ks' := 0) mm_ra_rest _ 0 [_, _] _ dd_lw_rest_5 cv_lw_71 my_ra_rest np_ra_rest rfl rfl rfl (Nat.le_of_ble_eq_true rfl) rfl rfl (Nat.le_of_ble_eq_true rfl) (Nat.le_of_ble_eq_true rfl) (wc_ra_rest G κ μ o rest hR x y) (fun v9 h9 hq => ?_) (fun k9 c9 h9 hq => ?_)
  · obtain ⟨κ', rest', rfl, hR', hE⟩ := hq
    rcases hE with ⟨hz, e⟩ | ⟨_, _, _, _, e⟩
    · cases e
      show aw_w _ _ _ _ _ _ _ _ (.int _ :: _) _ _
      refine aw_if_eq (tgt := 15) dd_lw_rest_8 (by decide) (fun hb => ?_) (fun hb => ?_)
      · refine aw_lconst (v := 0) dd_lw_rest_15 (by decide) ?_
        refine aw_last 32 dd_lw_rest_16 rfl (vp_in_nI (by decide) (by decide)) ?_
        rw [hs_o]
        refine aw_goto (tgt := 24) dd_lw_rest_17 (by decide) ?_
        refine aw_iconst (v := 0) dd_lw_rest_24 (by decide) ?_
        exact aw_iret dd_lw_rest_25 rfl (by first | exact ⟨_, rfl, hz.symm, κ', _, rest', rfl, hR', fun _ => (ou_0 _ _).trans (if_pos hb).symm⟩ | exact ⟨_, rfl, hz.symm, κ', _, rest', rfl, hR', fun _ => (ou_0 _ _).trans (if_neg hb).symm⟩)
      · refine aw_lconst (v := 1) dd_lw_rest_11 (by decide) ?_
        refine aw_goto (tgt := 16) dd_lw_rest_12 (by decide) ?_
        refine aw_last 32 dd_lw_rest_16 rfl (vp_in_nI (by decide) (by decide)) ?_
        rw [hs_o]
        refine aw_goto (tgt := 24) dd_lw_rest_17 (by decide) ?_
        refine aw_iconst (v := 0) dd_lw_rest_24 (by decide) ?_
        exact aw_iret dd_lw_rest_25 rfl (by first | exact ⟨_, rfl, hz.symm, κ', _, rest', rfl, hR', fun _ => (ou_0 _ _).trans (if_pos hb).symm⟩ | exact ⟨_, rfl, hz.symm, κ', _, rest', rfl, hR', fun _ => (ou_0 _ _).trans (if_neg hb).symm⟩)
    · cases e
  · obtain ⟨κ', rest', rfl, hR', hE⟩ := hq
    rcases hE with ⟨_, e⟩ | ⟨i, c, hz, hxs, e⟩
    · cases e
    · cases e
      rcases i with _ | i
      · cases hxs
        refine aw_catch (E := "java/lang/IndexOutOfBoundsException") [] ⟨0, 17, 20, 22⟩ [] rfl rfl (fun _ h9 => absurd h9 List.not_mem_nil) ⟨rfl, by decide, "java/lang/IndexOutOfBoundsException", ll_22, List.mem_of_getElem? (i := 7) rfl⟩ ?_
        refine aw_astore (lv' := [(4, _), (0, _), (1, _), (2, _), (3, _)]) dd_lw_rest_20 (by decide) rfl ?_
        refine aw_iconst (v := 1) dd_lw_rest_22 (by decide) ?_
        exact aw_iret dd_lw_rest_23 rfl ⟨_, rfl, by rw [hz]; rfl, κ', o, rest', rfl, hR', fun h0 => absurd h0 (by rw [hz]; decide)⟩
      · cases hxs
theorem wc_lw_active (G : ag_T) (κ : ck_T) (μ : cm_T) (o : Nat → Int64) (rest : List va_E) {A : aa_T} (hR : rk_R G κ rest A) (x : Int32) : aw_w G mm_lw_active 8 135 1 6 0 (lv_args 0 [.ref (G.1 + 0), .int x, .ref (G.1 + 32)]) [] (hp_f G κ μ o rest) (ql_I G μ false (ab_active A x)) := by
  refine aw_aload_n dd_lw_active_0 rfl 2 rfl ?_
  refine aw_iconst (v := (nI 0)) dd_lw_active_1 (by decide) ?_
  refine aw_aload_n dd_lw_active_2 rfl 0 rfl ?_
  refine aw_iload_n dd_lw_active_3 rfl 1 rfl ?_
  refine aw_callV (kc' := 0) (ks' := 0) mm_ra_active _ 0 [_] _ dd_lw_active_4 cv_lw_74 my_ra_active np_ra_active rfl rfl rfl (Nat.le_of_ble_eq_true rfl) rfl rfl (Nat.le_of_ble_eq_true rfl) (Nat.le_of_ble_eq_true rfl) (wc_ra_active G κ μ o rest hR x) (fun v9 h9 hq => ?_) (fun k9 c9 h9 hq => ?_)
  · obtain ⟨κ', rest', rfl, hR', hE⟩ := hq
    rcases hE with ⟨hz, e⟩ | ⟨_, _, _, _, e⟩
    · cases e
      show aw_w _ _ _ _ _ _ _ _ (.int _ :: _) _ _
      refine aw_i2l dd_lw_active_7 rfl ?_
      refine aw_last 32 dd_lw_active_8 rfl (vp_in_nI (by decide) (by decide)) ?_
      rw [hs_o]
      refine aw_goto (tgt := 15) dd_lw_active_9 (by decide) ?_
      refine aw_iconst (v := 0) dd_lw_active_15 (by decide) ?_
      exact aw_iret dd_lw_active_16 rfl ⟨_, rfl, hz.symm, κ', _, rest', rfl, hR', fun _ => ou_0 _ _⟩
    · cases e
  · obtain ⟨κ', rest', rfl, hR', hE⟩ := hq
    rcases hE with ⟨_, e⟩ | ⟨i, c, hz, hxs, e⟩
    · cases e
    · cases e
      rcases i with _ | i
      · cases hxs
        refine aw_catch (E := "java/lang/IndexOutOfBoundsException") [] ⟨0, 9, 12, 22⟩ [] rfl rfl (fun _ h9 => absurd h9 List.not_mem_nil) ⟨rfl, by decide, "java/lang/IndexOutOfBoundsException", ll_22, List.mem_of_getElem? (i := 7) rfl⟩ ?_
        refine aw_astore_n (lv' := [(3, _), (0, _), (1, _), (2, _)]) dd_lw_active_12 rfl (by decide) rfl ?_
        refine aw_iconst (v := 1) dd_lw_active_13 (by decide) ?_
        exact aw_iret dd_lw_active_14 rfl ⟨_, rfl, by rw [hz]; rfl, κ', o, rest', rfl, hR', fun h0 => absurd h0 (by rw [hz]; decide)⟩
      · cases hxs
theorem wc_lw_may (G : ag_T) (κ : ck_T) (μ : cm_T) (o : Nat → Int64) (rest : List va_E) {A : aa_T} (hR : rk_R G κ rest A) (x : Int32) (y : Int32) : aw_w G mm_lw_may 8 138 1 6 0 (lv_args 0 [.ref (G.1 + 0), .int x, .int y, .ref (G.1 + 32)]) [] (hp_f G κ μ o rest) (ql_I G μ true (ab_may A x y)) := by
  refine aw_aload_n dd_lw_may_0 rfl 3 rfl ?_
  refine aw_iconst (v := (nI 0)) dd_lw_may_1 (by decide) ?_
  refine aw_aload_n dd_lw_may_2 rfl 0 rfl ?_
  refine aw_iload_n dd_lw_may_3 rfl 1 rfl ?_
  refine aw_iload_n dd_lw_may_4 rfl 2 rfl ?_
  refine aw_callV (kc' := 0) (ks' := 0) mm_ra_may _ 0 [_, _] _ dd_lw_may_5 cv_lw_77 my_ra_may np_ra_may rfl rfl rfl (Nat.le_of_ble_eq_true rfl) rfl rfl (Nat.le_of_ble_eq_true rfl) (Nat.le_of_ble_eq_true rfl) (wc_ra_may G κ μ o rest hR x y) (fun v9 h9 hq => ?_) (fun k9 c9 h9 hq => ?_)
  · obtain ⟨κ', rest', rfl, hR', hE⟩ := hq
    rcases hE with ⟨hz, e⟩ | ⟨_, _, _, _, e⟩
    · cases e
      show aw_w _ _ _ _ _ _ _ _ (.int _ :: _) _ _
      refine aw_if_eq (tgt := 15) dd_lw_may_8 (by decide) (fun hb => ?_) (fun hb => ?_)
      · refine aw_lconst (v := 0) dd_lw_may_15 (by decide) ?_
        refine aw_last 32 dd_lw_may_16 rfl (vp_in_nI (by decide) (by decide)) ?_
        rw [hs_o]
        refine aw_goto (tgt := 24) dd_lw_may_17 (by decide) ?_
        refine aw_iconst (v := 0) dd_lw_may_24 (by decide) ?_
        exact aw_iret dd_lw_may_25 rfl (by first | exact ⟨_, rfl, hz.symm, κ', _, rest', rfl, hR', fun _ => (ou_0 _ _).trans (if_pos hb).symm⟩ | exact ⟨_, rfl, hz.symm, κ', _, rest', rfl, hR', fun _ => (ou_0 _ _).trans (if_neg hb).symm⟩)
      · refine aw_lconst (v := 1) dd_lw_may_11 (by decide) ?_
        refine aw_goto (tgt := 16) dd_lw_may_12 (by decide) ?_
        refine aw_last 32 dd_lw_may_16 rfl (vp_in_nI (by decide) (by decide)) ?_
        rw [hs_o]
        refine aw_goto (tgt := 24) dd_lw_may_17 (by decide) ?_
        refine aw_iconst (v := 0) dd_lw_may_24 (by decide) ?_
        exact aw_iret dd_lw_may_25 rfl (by first | exact ⟨_, rfl, hz.symm, κ', _, rest', rfl, hR', fun _ => (ou_0 _ _).trans (if_pos hb).symm⟩ | exact ⟨_, rfl, hz.symm, κ', _, rest', rfl, hR', fun _ => (ou_0 _ _).trans (if_neg hb).symm⟩)
    · cases e
  · obtain ⟨κ', rest', rfl, hR', hE⟩ := hq
    rcases hE with ⟨_, e⟩ | ⟨i, c, hz, hxs, e⟩
    · cases e
    · cases e
      rcases i with _ | i
      · cases hxs
        refine aw_catch (E := "java/lang/IndexOutOfBoundsException") [] ⟨0, 17, 20, 22⟩ [] rfl rfl (fun _ h9 => absurd h9 List.not_mem_nil) ⟨rfl, by decide, "java/lang/IndexOutOfBoundsException", ll_22, List.mem_of_getElem? (i := 7) rfl⟩ ?_
        refine aw_astore (lv' := [(4, _), (0, _), (1, _), (2, _), (3, _)]) dd_lw_may_20 (by decide) rfl ?_
        refine aw_iconst (v := 1) dd_lw_may_22 (by decide) ?_
        exact aw_iret dd_lw_may_23 rfl ⟨_, rfl, by rw [hz]; rfl, κ', o, rest', rfl, hR', fun h0 => absurd h0 (by rw [hz]; decide)⟩
      · cases hxs
theorem wc_lw_distance (G : ag_T) (κ : ck_T) (μ : cm_T) (o : Nat → Int64) (rest : List va_E) {A : aa_T} (hR : rk_R G κ rest A) (hW : wa_W A) (x : Int32) (y : Int32) : aw_w G mm_lw_distance 9 189 1 6 0 (lv_args 0 [.ref (G.1 + 0), .int x, .int y, .ref (G.1 + 32)]) [] (hp_f G κ μ o rest) (ql_I G μ false (ab_distance A x y)) := by
  refine aw_aload_n dd_lw_distance_0 rfl 3 rfl ?_
  refine aw_iconst (v := (nI 0)) dd_lw_distance_1 (by decide) ?_
  refine aw_aload_n dd_lw_distance_2 rfl 0 rfl ?_
  refine aw_iload_n dd_lw_distance_3 rfl 1 rfl ?_
  refine aw_iload_n dd_lw_distance_4 rfl 2 rfl ?_
  refine aw_callV (kc' := 0) (ks' := 0) mm_ra_distance _ 0 [_, _] _ dd_lw_distance_5 cv_lw_80 my_ra_distance np_ra_distance rfl rfl rfl (Nat.le_of_ble_eq_true rfl) rfl rfl (Nat.le_of_ble_eq_true rfl) (Nat.le_of_ble_eq_true rfl) (wc_ra_distance G κ μ o rest hR hW x y) (fun v9 h9 hq => ?_) (fun k9 c9 h9 hq => ?_)
  · obtain ⟨κ', rest', rfl, hR', hE⟩ := hq
    rcases hE with ⟨hz, e⟩ | ⟨_, _, _, _, e⟩
    · cases e
      show aw_w _ _ _ _ _ _ _ _ (.int _ :: _) _ _
      refine aw_i2l dd_lw_distance_8 rfl ?_
      refine aw_last 32 dd_lw_distance_9 rfl (vp_in_nI (by decide) (by decide)) ?_
      rw [hs_o]
      refine aw_goto (tgt := 21) dd_lw_distance_10 (by decide) ?_
      refine aw_iconst (v := 0) dd_lw_distance_21 (by decide) ?_
      exact aw_iret dd_lw_distance_22 rfl ⟨_, rfl, hz.symm, κ', _, rest', rfl, hR', fun _ => ou_0 _ _⟩
    · cases e
  · obtain ⟨κ', rest', rfl, hR', hE⟩ := hq
    rcases hE with ⟨_, e⟩ | ⟨i, c, hz, hxs, e⟩
    · cases e
    · cases e
      rcases i with _ | _ | i
      · cases hxs
        refine aw_catch (E := "java/lang/IndexOutOfBoundsException") [] ⟨0, 10, 13, 22⟩ [⟨0, 10, 17, 51⟩] rfl rfl (fun _ h9 => absurd h9 List.not_mem_nil) ⟨rfl, by decide, "java/lang/IndexOutOfBoundsException", ll_22, List.mem_of_getElem? (i := 7) rfl⟩ ?_
        refine aw_astore (lv' := [(4, _), (0, _), (1, _), (2, _), (3, _)]) dd_lw_distance_13 (by decide) rfl ?_
        refine aw_iconst (v := 1) dd_lw_distance_15 (by decide) ?_
        exact aw_iret dd_lw_distance_16 rfl ⟨_, rfl, by rw [hz]; rfl, κ', o, rest', rfl, hR', fun h0 => absurd h0 (by rw [hz]; decide)⟩
      · cases hxs
        refine aw_catch (E := "java/lang/UnsupportedOperationException") [⟨0, 10, 13, 22⟩] ⟨0, 10, 17, 51⟩ [] rfl rfl (List.forall_mem_cons.mpr ⟨Or.inr ⟨by decide, "java/lang/IndexOutOfBoundsException", ll_22, List.mem_of_getElem? (i := 5) rfl⟩, fun _ h9 => absurd h9 List.not_mem_nil⟩) ⟨rfl, by decide, "java/lang/UnsupportedOperationException", ll_51, List.mem_of_getElem? (i := 11) rfl⟩ ?_
        refine aw_astore (lv' := [(4, _), (0, _), (1, _), (2, _), (3, _)]) dd_lw_distance_17 (by decide) rfl ?_
        refine aw_iconst (v := 2) dd_lw_distance_19 (by decide) ?_
        exact aw_iret dd_lw_distance_20 rfl ⟨_, rfl, by rw [hz]; rfl, κ', o, rest', rfl, hR', fun h0 => absurd h0 (by rw [hz]; decide)⟩
      · cases hxs
theorem wc_lw_plan (G : ag_T) (κ : ck_T) (μ : cm_T) (o : Nat → Int64) (rest : List va_E) {A : aa_T} (hR : rk_R G κ rest A) (hW : wa_W A) (x : Int32) (y : Int32) (z : Int32) : aw_w G mm_lw_plan 9 190 1 6 0 (lv_args 0 [.ref (G.1 + 0), .int x, .int y, .int z, .ref (G.1 + 32)]) [] (hp_f G κ μ o rest) (ql_I G μ false (ab_plan A x y z)) := by
  refine aw_aload dd_lw_plan_0 4 rfl ?_
  refine aw_iconst (v := (nI 0)) dd_lw_plan_2 (by decide) ?_
  refine aw_aload_n dd_lw_plan_3 rfl 0 rfl ?_
  refine aw_iload_n dd_lw_plan_4 rfl 1 rfl ?_
  refine aw_iload_n dd_lw_plan_5 rfl 2 rfl ?_
  refine aw_iload_n dd_lw_plan_6 rfl 3 rfl ?_
  refine aw_callV (kc' := 0) (ks' := 0) mm_ra_plan _ 0 [_, _, _] _ dd_lw_plan_7 cv_lw_83 my_ra_plan np_ra_plan rfl rfl rfl (Nat.le_of_ble_eq_true rfl) rfl rfl (Nat.le_of_ble_eq_true rfl) (Nat.le_of_ble_eq_true rfl) (wc_ra_plan G κ μ o rest hR hW x y z) (fun v9 h9 hq => ?_) (fun k9 c9 h9 hq => ?_)
  · obtain ⟨κ', rest', rfl, hR', hE⟩ := hq
    rcases hE with ⟨hz, e⟩ | ⟨_, _, _, _, e⟩
    · cases e
      show aw_w _ _ _ _ _ _ _ _ (.int _ :: _) _ _
      refine aw_i2l dd_lw_plan_10 rfl ?_
      refine aw_last 32 dd_lw_plan_11 rfl (vp_in_nI (by decide) (by decide)) ?_
      rw [hs_o]
      refine aw_goto (tgt := 27) dd_lw_plan_12 (by decide) ?_
      refine aw_iconst (v := 0) dd_lw_plan_27 (by decide) ?_
      exact aw_iret dd_lw_plan_28 rfl ⟨_, rfl, hz.symm, κ', _, rest', rfl, hR', fun _ => ou_0 _ _⟩
    · cases e
  · obtain ⟨κ', rest', rfl, hR', hE⟩ := hq
    rcases hE with ⟨_, e⟩ | ⟨i, c, hz, hxs, e⟩
    · cases e
    · cases e
      rcases i with _ | _ | _ | i
      · cases hxs
        refine aw_catch (E := "java/lang/IndexOutOfBoundsException") [] ⟨0, 12, 15, 22⟩ [⟨0, 12, 19, 51⟩, ⟨0, 12, 23, 13⟩] rfl rfl (fun _ h9 => absurd h9 List.not_mem_nil) ⟨rfl, by decide, "java/lang/IndexOutOfBoundsException", ll_22, List.mem_of_getElem? (i := 7) rfl⟩ ?_
        refine aw_astore (lv' := [(5, _), (0, _), (1, _), (2, _), (3, _), (4, _)]) dd_lw_plan_15 (by decide) rfl ?_
        refine aw_iconst (v := 1) dd_lw_plan_17 (by decide) ?_
        exact aw_iret dd_lw_plan_18 rfl ⟨_, rfl, by rw [hz]; rfl, κ', o, rest', rfl, hR', fun h0 => absurd h0 (by rw [hz]; decide)⟩
      · cases hxs
        refine aw_catch (E := "java/lang/UnsupportedOperationException") [⟨0, 12, 15, 22⟩] ⟨0, 12, 19, 51⟩ [⟨0, 12, 23, 13⟩] rfl rfl (List.forall_mem_cons.mpr ⟨Or.inr ⟨by decide, "java/lang/IndexOutOfBoundsException", ll_22, List.mem_of_getElem? (i := 5) rfl⟩, fun _ h9 => absurd h9 List.not_mem_nil⟩) ⟨rfl, by decide, "java/lang/UnsupportedOperationException", ll_51, List.mem_of_getElem? (i := 11) rfl⟩ ?_
        refine aw_astore (lv' := [(5, _), (0, _), (1, _), (2, _), (3, _), (4, _)]) dd_lw_plan_19 (by decide) rfl ?_
        refine aw_iconst (v := 2) dd_lw_plan_21 (by decide) ?_
        exact aw_iret dd_lw_plan_22 rfl ⟨_, rfl, by rw [hz]; rfl, κ', o, rest', rfl, hR', fun h0 => absurd h0 (by rw [hz]; decide)⟩
      · cases hxs
        refine aw_catch (E := "java/lang/IllegalStateException") [⟨0, 12, 15, 22⟩, ⟨0, 12, 19, 51⟩] ⟨0, 12, 23, 13⟩ [] rfl rfl (List.forall_mem_cons.mpr ⟨Or.inr ⟨by decide, "java/lang/IndexOutOfBoundsException", ll_22, List.mem_of_getElem? (i := 3) rfl⟩, List.forall_mem_cons.mpr ⟨Or.inr ⟨by decide, "java/lang/UnsupportedOperationException", ll_51, List.mem_of_getElem? (i := 9) rfl⟩, fun _ h9 => absurd h9 List.not_mem_nil⟩⟩) ⟨rfl, by decide, "java/lang/IllegalStateException", ll_13, List.mem_of_getElem? (i := 0) rfl⟩ ?_
        refine aw_astore (lv' := [(5, _), (0, _), (1, _), (2, _), (3, _), (4, _)]) dd_lw_plan_23 (by decide) rfl ?_
        refine aw_iconst (v := 3) dd_lw_plan_25 (by decide) ?_
        exact aw_iret dd_lw_plan_26 rfl ⟨_, rfl, by rw [hz]; rfl, κ', o, rest', rfl, hR', fun h0 => absurd h0 (by rw [hz]; decide)⟩
      · cases hxs
