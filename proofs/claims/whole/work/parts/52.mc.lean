/-! ===== the reference: calls ===== -/
theorem bt_ne {b : Bool} (h : b = true) : ¬ b = false := by rw [h]; decide
theorem wn_f {b : Bool} {n : Int32} (h : b = false) : (if b = true then (0 : Int32) else n) = n := by rw [h]; rfl
theorem wn_t {b : Bool} {n : Int32} (h : ¬ b = false) : (if b = true then (0 : Int32) else n) = 0 := by rw [Bool.not_eq_false] at h; rw [h]; rfl
theorem up_e {f : Nat → Int32} {g : Nat → Nat} {m j x : Nat} (h : ∀ r, r < m → f r = nI (g r)) : ∀ r, r < m → upd f j (nI x) r = nI (up_f g j x r) := by
  intro r hr
  unfold upd up_f
  split
  · rfl
  · exact h r hr
theorem up_b {g : Nat → Nat} {j x N : Nat} (h : ∀ r, g r < N) (hx : x < N) : ∀ r, up_f g j x r < N := by
  intro r
  unfold up_f
  split
  · exact hx
  · exact h r
theorem up_z {f : Nat → Int32} {g : Nat → Nat} {m j : Nat} (h : ∀ r, r < m → f r = nI (g r)) (hj : g j = 0) : ∀ r, r < m → upd f j 0 r = nI (g r) := by
  intro r hr
  unfold upd
  split
  · rename_i e; subst e; rw [hj]; rfl
  · exact h r hr
theorem wc_mo_role (G : ag_T) (κ : ck_T) (μ : cm_T) (o : Nat → Int64) (rest : List va_E) {A : aa_T} (hR : rm_R μ A) (hW : wa_W A) : aw_w G mm_mo_role 1 22 0 0 0 (lv_args 0 [.ref (G.1 + 13)]) [] (hp_f G κ μ o rest) (qm_R G κ o rest (ab_role A)) := by
  obtain ⟨hB, hGr, hU, hSL, hDL, hRs, hSs⟩ := id hR; have hn6 := hB.2.1; have hu5 := hU.2.1
  refine aw_aload_n dd_mo_role_0 rfl 0 rfl ?_
  refine aw_join (tgt := 15) (v := zb_i (decide (ga_n A < 6))) ?_ (fun kj1 => ?_)
  · refine aw_iconst (v := 1) dd_mo_role_15 (by decide) ?_
    refine aw_cVi mm_mo_when 0 0 _ 5 [_, _] _ (wc_mo_when G κ _ o rest _ _) dd_mo_role_16 cv_mo_86 my_mo_when np_mo_when rfl rfl rfl (by decide) rfl rfl (Nat.le_of_ble_eq_true rfl) (Nat.le_of_ble_eq_true rfl) ?_
    refine aw_if_ne (tgt := 24) dd_mo_role_19 (by decide) (fun hw => ?_) (fun hw => ?_)
    · have hw1 := bt_ne (zb_n0 hw)
      clear hw
      have hn : ga_n A < 6 := by simpa using hw1
      rw [ab_role, if_pos hn]
      refine aw_aload_n dd_mo_role_24 rfl 0 rfl ?_
      refine aw_getf _ 5 3 dd_mo_role_25 fl_mo_7 rfl rfl ?_
      refine aw_aload_n dd_mo_role_28 rfl 0 rfl ?_
      refine aw_getf _ 5 1 dd_mo_role_29 fl_mo_69 rfl rfl ?_
      refine aw_top (hB.1) ?_
      refine aw_iconst (v := 0) dd_mo_role_32 (by decide) ?_
      refine aw_isN _ (ga_n A) dd_mo_role_33 rfl (by omega) (by decide) ?_
      refine aw_h (hs_ma0 G _ _ _ _ _ _) ?_
      refine aw_aload_n dd_mo_role_34 rfl 0 rfl ?_
      refine aw_getf _ 5 4 dd_mo_role_35 fl_mo_13 rfl rfl ?_
      refine aw_aload_n dd_mo_role_38 rfl 0 rfl ?_
      refine aw_getf _ 5 1 dd_mo_role_39 fl_mo_69 rfl rfl ?_
      refine aw_top (hB.1) ?_
      refine aw_iconst (v := 0) dd_mo_role_42 (by decide) ?_
      refine aw_isN _ (ga_n A) dd_mo_role_43 rfl (by omega) (by decide) ?_
      refine aw_h (hs_ma1 G _ _ _ _ _ _) ?_
      refine aw_aload_n dd_mo_role_44 rfl 0 rfl ?_
      refine aw_dup dd_mo_role_45 rfl ?_
      refine aw_getf _ 5 1 dd_mo_role_46 fl_mo_69 rfl rfl ?_
      refine aw_top (hB.1) ?_
      refine aw_iconst (v := 1) dd_mo_role_49 (by decide) ?_
      refine aw_iadd dd_mo_role_50 ?_
      refine aw_top (nI_1 _) ?_
      refine aw_putf _ 5 1 dd_mo_role_51 fl_mo_69 nf_mo_1 rfl (rfl) (rfl) (Nat.le_of_ble_eq_true rfl) ?_
      refine aw_h (hs_ms1 G _ _ _ _ _) ?_
      refine aw_aload_n dd_mo_role_54 rfl 0 rfl ?_
      refine aw_getf _ 5 1 dd_mo_role_55 fl_mo_69 rfl rfl ?_
      refine aw_iconst (v := (nI 1)) dd_mo_role_58 (by decide) ?_
      refine aw_isub dd_mo_role_59 ?_
      refine aw_top (nI_sub (by omega)) ?_
      rw [Nat.add_sub_cancel]
      exact aw_iret dd_mo_role_60 rfl ⟨_, rfl, fun _ => rfl, _, rfl, ⟨⟨rfl, by show ga_n A + 1 ≤ 6; omega, up_z hB.2.2.1 (hW.1 _ (Nat.le_refl _)).1, hB.2.2.2⟩, ⟨up_z hGr.1 (hW.1 _ (Nat.le_refl _)).2, hGr.2⟩, hU, hSL, hDL, hRs, hSs⟩, wn_t hw1⟩
    · replace hw := zb_e0 hw
      have hn : ¬ ga_n A < 6 := by simpa using hw
      rw [ab_role, if_neg hn]
      refine aw_iconst (v := 0) dd_mo_role_22 (by decide) ?_
      exact aw_iret dd_mo_role_23 rfl ⟨_, rfl, fun h0 => absurd (show (1 : Int32) = 0 from h0) (by decide), _, rfl, hR, wn_f hw⟩
  · refine aw_aload_n dd_mo_role_1 rfl 0 rfl ?_
    refine aw_getf _ 5 1 dd_mo_role_2 fl_mo_69 rfl rfl ?_
    refine aw_top (hB.1) ?_
    refine aw_bipush (v := (nI 6)) dd_mo_role_5 (by decide) ?_
    refine aw_icmp_ge (tgt := 14) dd_mo_role_7 (by decide) (fun h1 => ?_) (fun h1 => ?_)
    · refine aw_iconst (v := 0) dd_mo_role_14 (by decide) ?_
      exact aw_top (by rw [nI_leI (by omega) (by omega)] at h1; simp [zb_i]; omega) kj1
    · refine aw_iconst (v := 1) dd_mo_role_10 (by decide) ?_
      refine aw_goto (tgt := 15) dd_mo_role_11 (by decide) ?_
      exact aw_top (by rw [nI_leI (by omega) (by omega)] at h1; simp [zb_i]; omega) kj1
theorem wc_mo_user (G : ag_T) (κ : ck_T) (μ : cm_T) (o : Nat → Int64) (rest : List va_E) {A : aa_T} (hR : rm_R μ A) (hW : wa_W A) : aw_w G mm_mo_user 1 22 0 0 0 (lv_args 0 [.ref (G.1 + 13)]) [] (hp_f G κ μ o rest) (qm_R G κ o rest (ab_user A)) := by
  obtain ⟨hB, hGr, hU, hSL, hDL, hRs, hSs⟩ := id hR; have hn6 := hB.2.1; have hu5 := hU.2.1
  refine aw_aload_n dd_mo_user_0 rfl 0 rfl ?_
  refine aw_join (tgt := 14) (v := zb_i (decide (ga_u A < 5))) ?_ (fun kj1 => ?_)
  · refine aw_iconst (v := 1) dd_mo_user_14 (by decide) ?_
    refine aw_cVi mm_mo_when 0 0 _ 5 [_, _] _ (wc_mo_when G κ _ o rest _ _) dd_mo_user_15 cv_mo_86 my_mo_when np_mo_when rfl rfl rfl (by decide) rfl rfl (Nat.le_of_ble_eq_true rfl) (Nat.le_of_ble_eq_true rfl) ?_
    refine aw_if_ne (tgt := 23) dd_mo_user_18 (by decide) (fun hw => ?_) (fun hw => ?_)
    · have hw1 := bt_ne (zb_n0 hw)
      clear hw
      have hn : ga_u A < 5 := by simpa using hw1
      rw [ab_user, if_pos hn]
      refine aw_aload_n dd_mo_user_23 rfl 0 rfl ?_
      refine aw_getf _ 5 6 dd_mo_user_24 fl_mo_19 rfl rfl ?_
      refine aw_aload_n dd_mo_user_27 rfl 0 rfl ?_
      refine aw_getf _ 5 2 dd_mo_user_28 fl_mo_72 rfl rfl ?_
      refine aw_top (hU.1) ?_
      refine aw_iconst (v := 0) dd_mo_user_31 (by decide) ?_
      refine aw_isN _ (ga_u A) dd_mo_user_32 rfl (by omega) (by decide) ?_
      refine aw_h (hs_ma3 G _ _ _ _ _ _) ?_
      refine aw_aload_n dd_mo_user_33 rfl 0 rfl ?_
      refine aw_dup dd_mo_user_34 rfl ?_
      refine aw_getf _ 5 2 dd_mo_user_35 fl_mo_72 rfl rfl ?_
      refine aw_top (hU.1) ?_
      refine aw_iconst (v := 1) dd_mo_user_38 (by decide) ?_
      refine aw_iadd dd_mo_user_39 ?_
      refine aw_top (nI_1 _) ?_
      refine aw_putf _ 5 2 dd_mo_user_40 fl_mo_72 nf_mo_2 rfl (rfl) (rfl) (Nat.le_of_ble_eq_true rfl) ?_
      refine aw_h (hs_ms2 G _ _ _ _ _) ?_
      refine aw_aload_n dd_mo_user_43 rfl 0 rfl ?_
      refine aw_getf _ 5 2 dd_mo_user_44 fl_mo_72 rfl rfl ?_
      refine aw_iconst (v := (nI 1)) dd_mo_user_47 (by decide) ?_
      refine aw_isub dd_mo_user_48 ?_
      refine aw_top (nI_sub (by omega)) ?_
      rw [Nat.add_sub_cancel]
      exact aw_iret dd_mo_user_49 rfl ⟨_, rfl, fun _ => rfl, _, rfl, ⟨hB, hGr, ⟨rfl, by show ga_u A + 1 ≤ 5; omega, up_z hU.2.2.1 (hW.2.1 _ (Nat.le_refl _)), hU.2.2.2⟩, hSL, hDL, hRs, hSs⟩, wn_t hw1⟩
    · replace hw := zb_e0 hw
      have hn : ¬ ga_u A < 5 := by simpa using hw
      rw [ab_user, if_neg hn]
      refine aw_iconst (v := 0) dd_mo_user_21 (by decide) ?_
      exact aw_iret dd_mo_user_22 rfl ⟨_, rfl, fun h0 => absurd (show (1 : Int32) = 0 from h0) (by decide), _, rfl, hR, wn_f hw⟩
  · refine aw_aload_n dd_mo_user_1 rfl 0 rfl ?_
    refine aw_getf _ 5 2 dd_mo_user_2 fl_mo_72 rfl rfl ?_
    refine aw_top (hU.1) ?_
    refine aw_iconst (v := (nI 5)) dd_mo_user_5 (by decide) ?_
    refine aw_icmp_ge (tgt := 13) dd_mo_user_6 (by decide) (fun h1 => ?_) (fun h1 => ?_)
    · refine aw_iconst (v := 0) dd_mo_user_13 (by decide) ?_
      exact aw_top (by rw [nI_leI (by omega) (by omega)] at h1; simp [zb_i]; omega) kj1
    · refine aw_iconst (v := 1) dd_mo_user_9 (by decide) ?_
      refine aw_goto (tgt := 14) dd_mo_user_10 (by decide) ?_
      exact aw_top (by rw [nI_leI (by omega) (by omega)] at h1; simp [zb_i]; omega) kj1
theorem wc_mo_grant (G : ag_T) (κ : ck_T) (μ : cm_T) (o : Nat → Int64) (rest : List va_E) {A : aa_T} (hR : rm_R μ A) (x y : Int32) : aw_w G mm_mo_grant 1 22 0 0 0 (lv_args 0 [.ref (G.1 + 13), .int x, .int y]) [] (hp_f G κ μ o rest) (qm_R G κ o rest (ab_grant A x y)) := by
  obtain ⟨hB, hGr, hU, hSL, hDL, hRs, hSs⟩ := id hR; have hn6 := hB.2.1; have hu5 := hU.2.1
  refine aw_aload_n dd_mo_grant_0 rfl 0 rfl ?_
  refine aw_join (tgt := 24) (v := zb_i (rb_i (ga_n A) x && pm_i y)) ?_ (fun kj1 => ?_)
  · refine aw_iconst (v := 1) dd_mo_grant_24 (by decide) ?_
    refine aw_cVi mm_mo_when 0 0 _ 5 [_, _] _ (wc_mo_when G κ _ o rest _ _) dd_mo_grant_25 cv_mo_86 my_mo_when np_mo_when rfl rfl rfl (by decide) rfl rfl (Nat.le_of_ble_eq_true rfl) (Nat.le_of_ble_eq_true rfl) ?_
    refine aw_if_ne (tgt := 33) dd_mo_grant_28 (by decide) (fun hw => ?_) (fun hw => ?_)
    · have hw1 := bt_ne (zb_n0 hw)
      clear hw
      rw [ab_grant, if_neg hw1]
      obtain ⟨h8, h9⟩ := Bool.and_eq_true_iff.mp (Bool.not_eq_false _ ▸ hw1)
      obtain ⟨j, hj, rfl⟩ := rb_n (by omega) h8
      obtain ⟨q, hq, rfl⟩ := pm_n h9
      rw [iN_n (by omega), iN_n (by omega)]
      refine aw_join (tgt := 51) (v := zb_i (!(ga_g A j).testBit q)) ?_ (fun kj33 => ?_)
      · refine aw_istore_n (lv' := [(3, _), (0, _), (1, _), (2, _)]) dd_mo_grant_51 rfl (by decide) rfl ?_
        refine aw_aload_n dd_mo_grant_52 rfl 1 rfl ?_
        refine aw_getf _ 5 4 dd_mo_grant_53 fl_mo_13 rfl rfl ?_
        refine aw_iload_n dd_mo_grant_56 rfl 2 rfl ?_
        refine aw_aload_n dd_mo_grant_57 rfl 1 rfl ?_
        refine aw_getf _ 5 4 dd_mo_grant_58 fl_mo_13 rfl rfl ?_
        refine aw_iload_n dd_mo_grant_61 rfl 2 rfl ?_
        refine aw_iaN _ (j) dd_mo_grant_62 rfl (by omega) (by decide) ?_
        refine aw_top (hGr.1 j (by omega)) ?_
        refine aw_iconst (v := (nI 1)) dd_mo_grant_63 (by decide) ?_
        refine aw_iload_n dd_mo_grant_64 rfl 3 rfl ?_
        refine aw_ishl dd_mo_grant_65 ?_
        refine aw_top (nI_shl 1 (by omega)) ?_
        refine aw_ior dd_mo_grant_66 ?_
        refine aw_top (nI_or _ _) ?_
        refine aw_isN _ (j) dd_mo_grant_67 rfl (by omega) (by decide) ?_
        refine aw_h (hs_ma1 G _ _ _ _ _ _) ?_
        refine aw_iload_n dd_mo_grant_68 rfl 0 rfl ?_
        exact aw_zret dd_mo_grant_69 rfl (zb_01 _) ⟨_, rfl, fun _ => rfl, _, rfl, ⟨hB, ⟨up_e hGr.1, up_b hGr.2 (bt_or (n := 31) (hGr.2 j) (bt_1 (by omega)))⟩, hU, hSL, hDL, hRs, hSs⟩, wn_t hw1⟩
      · refine aw_aload_n dd_mo_grant_33 rfl 0 rfl ?_
        refine aw_getf _ 5 4 dd_mo_grant_34 fl_mo_13 rfl rfl ?_
        refine aw_iload_n dd_mo_grant_37 rfl 1 rfl ?_
        refine aw_iaN _ (j) dd_mo_grant_38 rfl (by omega) (by decide) ?_
        refine aw_top (hGr.1 j (by omega)) ?_
        refine aw_iload_n dd_mo_grant_39 rfl 2 rfl ?_
        refine aw_ishr dd_mo_grant_40 ?_
        refine aw_iconst (v := 1) dd_mo_grant_41 (by decide) ?_
        refine aw_iand dd_mo_grant_42 ?_
        refine aw_top (nI_bit (hGr.2 j) (by omega)) ?_
        refine aw_if_ne (tgt := 50) dd_mo_grant_43 (by decide) (fun h4 => ?_) (fun h4 => ?_)
        · refine aw_iconst (v := 0) dd_mo_grant_50 (by decide) ?_
          exact aw_top (by simp_all [zb_q0, zb_q1, zb_i]) kj33
        · refine aw_iconst (v := 1) dd_mo_grant_46 (by decide) ?_
          refine aw_goto (tgt := 51) dd_mo_grant_47 (by decide) ?_
          exact aw_top (by simp_all [zb_q0, zb_q1, zb_i]) kj33
    · replace hw := zb_e0 hw
      rw [ab_grant, if_pos hw]
      refine aw_iconst (v := 0) dd_mo_grant_31 (by decide) ?_
      exact aw_zret dd_mo_grant_32 rfl (by first | exact Or.inl rfl | exact Or.inr rfl) ⟨_, rfl, fun h0 => absurd (show (1 : Int32) = 0 from h0) (by decide), _, rfl, hR, wn_f hw⟩
  · refine aw_aload_n dd_mo_grant_1 rfl 0 rfl ?_
    refine aw_iload_n dd_mo_grant_2 rfl 1 rfl ?_
    refine aw_cVi mm_mo_isRole 0 0 _ 5 [_] _ (wc_mo_isRole G κ _ o rest (n := ga_n A) hB.1 _) dd_mo_grant_3 cv_mo_90 my_mo_isRole np_mo_isRole rfl rfl rfl (by decide) rfl rfl (Nat.le_of_ble_eq_true rfl) (Nat.le_of_ble_eq_true rfl) ?_
    refine aw_if_eq (tgt := 23) dd_mo_grant_6 (by decide) (fun h1 => ?_) (fun h1 => ?_)
    · refine aw_iconst (v := 0) dd_mo_grant_23 (by decide) ?_
      exact aw_top (by simp_all [zb_q0, zb_q1, zb_i, pm_i]) kj1
    · refine aw_iload_n dd_mo_grant_9 rfl 2 rfl ?_
      refine aw_if_lt (tgt := 23) dd_mo_grant_10 (by decide) (fun h2 => ?_) (fun h2 => ?_)
      · refine aw_iconst (v := 0) dd_mo_grant_23 (by decide) ?_
        exact aw_top (by simp_all [zb_q0, zb_q1, zb_i, pm_i]) kj1
      · refine aw_iload_n dd_mo_grant_13 rfl 2 rfl ?_
        refine aw_bipush (v := 30) dd_mo_grant_14 (by decide) ?_
        refine aw_icmp_gt (tgt := 23) dd_mo_grant_16 (by decide) (fun h3 => ?_) (fun h3 => ?_)
        · refine aw_iconst (v := 0) dd_mo_grant_23 (by decide) ?_
          exact aw_top (by simp_all [zb_q0, zb_q1, zb_i, pm_i]) kj1
        · refine aw_iconst (v := 1) dd_mo_grant_19 (by decide) ?_
          refine aw_goto (tgt := 24) dd_mo_grant_20 (by decide) ?_
          exact aw_top (by simp_all [zb_q0, zb_q1, zb_i, pm_i]) kj1
/-- one session's active roles, cut -/
def cu_x (n : Nat) (bel asg : Nat → Nat) (so : Nat → Option Nat) (sa : Nat → Nat) (s : Nat) : Int32 := if (so s).isSome = true then nI (sa s &&& pc_f bel (asg ((so s).getD 0)) n) else 0
theorem cu_ok {μ : cm_T} {A : aa_T} {f9 : Nat → Int32} {j k : Nat} (hB : rm_c μ (ga_n A) (ga_b A)) (hSs : rm_s μ (ga_o A) (ga_c A)) (hW : wa_W A) (hf : ∀ s, s < 4 → f9 s = cu_x (ga_n A) (ga_b A) (up_f (ga_a A) j (bt_c (ga_a A j) k)) (ga_o A) (ga_c A) s) {μ' : cm_T} (e7 : μ'.2 7 = μ.2 7 := by rfl) (e8 : μ'.2 8 = μ.2 8 := by rfl) (e9 : μ'.2 9 = f9 := by rfl) : rm_s μ' (ga_o (ab_cut A j k)) (ga_c (ab_cut A j k)) := by
  refine ⟨fun s hs => ?_, fun s => ?_⟩
  · obtain ⟨h7, h8⟩ := hSs.1 s hs
    refine ⟨by rw [e7]; exact h7, fun v hv => ?_⟩
    have hv9 : ga_o A s = some v := hv
    obtain ⟨g1, g2, g3⟩ := h8 v hv9
    refine ⟨by rw [e8]; exact g1, g2, ?_⟩
    rw [e9, hf s hs]
    unfold cu_x
    rw [hv9]
    show nI _ = nI (if ga_o A s = some j then _ else _)
    rw [hv9]
    show nI (ga_c A s &&& pc_f (ga_b A) (up_f (ga_a A) j (bt_c (ga_a A j) k) v) (ga_n A)) = _
    by_cases e : v = j
    · subst e
      rw [if_pos rfl]
      unfold up_f
      rw [if_pos rfl]
    · rw [if_neg (fun h => e (Option.some.inj h))]
      unfold up_f
      rw [if_neg e]
      have h5 := (hW.2.2.2.2.2.2.2.1 s).2 v hv9
      rw [h5.2.and]
  · show (if ga_o A s = some j then ga_c A s &&& _ else ga_c A s) < 64
    split
    · exact bt_and (n := 6) (hSs.2 s)
    · exact hSs.2 s
theorem ru_ok {μ : cm_T} {rs : pr_T} {x : Bool × Nat × Nat × Nat × Nat} (hRs : rm_r μ rs) (hx : x.2.1 < 6 ∧ x.2.2.1 < 64 ∧ x.2.2.2.1 < 64 ∧ x.2.2.2.2 < 6) (h8 : rs.length < 8) {μ' : cm_T} (e3 : μ'.1 3 = nI (rs.length + 1) := by rfl) (e10 : μ'.2 10 = upd (μ.2 10) rs.length (zb_i x.1) := by rfl) (e11 : μ'.2 11 = upd (μ.2 11) rs.length (nI x.2.1) := by rfl) (e12 : μ'.2 12 = upd (μ.2 12) rs.length (nI x.2.2.1) := by rfl) (e13 : μ'.2 13 = upd (μ.2 13) rs.length (nI x.2.2.2.1) := by rfl) (e14 : μ'.2 14 = upd (μ.2 14) rs.length (nI x.2.2.2.2) := by rfl) : rm_r μ' (rs ++ [x]) := by
  refine ⟨by rw [e3, List.length_append]; rfl, by rw [List.length_append]; exact h8, fun i y hy => ?_⟩
  rw [e10, e11, e12, e13, e14]
  by_cases hi : i < rs.length
  · rw [List.getElem?_append_left hi] at hy
    have hne : ¬ i = rs.length := Nat.ne_of_lt hi
    obtain ⟨l1, l2, l3, l4, l5, l6⟩ := hRs.2.2 i y hy
    simp only [upd, hne, if_false]
    exact ⟨l1, l2, l3, l4, l5, l6⟩
  · have hi2 : i = rs.length := by
      have := (List.getElem?_eq_some_iff.mp hy).1
      rw [List.length_append] at this
      simp at this
      omega
    subst hi2
    rw [List.getElem?_concat_length] at hy
    cases hy
    simp only [upd, if_true]
    exact ⟨trivial, trivial, trivial, trivial, trivial, hx.1, hx.2.1, hx.2.2.1, hx.2.2.2⟩
theorem wc_mo_put (G : ag_T) (κ : ck_T) (μ : cm_T) (o : Nat → Int64) (rest : List va_E) {A : aa_T} (hR : rm_R μ A) {j k : Nat} (hj : j < ga_u A) (hk : k < ga_n A) {f : Int32} (hf : ¬ f = 0) : aw_w G mm_mo_put 2 47 0 0 0 (lv_args 0 [.ref (G.1 + 13), .int (nI j), .int (nI k), .int f]) [] (hp_f G κ μ o rest) (qm_B G κ o rest (ab_put A j k f)) := by
  obtain ⟨hB, hGr, hU, hSL, hDL, hRs, hSs⟩ := id hR; have hn6 := hB.2.1; have hu5 := hU.2.1
  have hs : ga_a A j ||| 1 <<< k < 64 := bt_or (n := 6) (hU.2.2.2 j) (bt_1 (by omega))
  have ha := hU.2.2.2 j
  refine aw_aload_n dd_mo_put_0 rfl 0 rfl ?_
  refine aw_getf _ 5 6 dd_mo_put_1 fl_mo_19 rfl rfl ?_
  refine aw_iload_n dd_mo_put_4 rfl 1 rfl ?_
  refine aw_iaN _ (j) dd_mo_put_5 rfl (by omega) (by decide) ?_
  refine aw_top (hU.2.2.1 j (by omega)) ?_
  refine aw_iconst (v := (nI 1)) dd_mo_put_6 (by decide) ?_
  refine aw_iload_n dd_mo_put_7 rfl 2 rfl ?_
  refine aw_ishl dd_mo_put_8 ?_
  refine aw_top (nI_shl 1 (by omega)) ?_
  refine aw_ior dd_mo_put_9 ?_
  refine aw_top (nI_or _ _) ?_
  refine aw_istore (lv' := [(4, _), (0, _), (1, _), (2, _), (3, _)]) dd_mo_put_10 (by decide) rfl ?_
  refine aw_aload_n dd_mo_put_12 rfl 1 rfl ?_
  refine aw_aload_n dd_mo_put_13 rfl 1 rfl ?_
  refine aw_iload dd_mo_put_14 0 rfl ?_
  refine aw_cVi mm_mo_staticKept 0 0 _ 5 [_] _ (wc_mo_staticKept G κ _ o rest hB hs hSL) dd_mo_put_16 cv_mo_82 my_mo_staticKept np_mo_staticKept rfl rfl rfl (by decide) rfl rfl (Nat.le_of_ble_eq_true rfl) (Nat.le_of_ble_eq_true rfl) ?_
  refine aw_iload_n dd_mo_put_19 rfl 4 rfl ?_
  refine aw_cVi mm_mo_when 0 0 _ 5 [_, _] _ (wc_mo_when G κ _ o rest _ _) dd_mo_put_20 cv_mo_86 my_mo_when np_mo_when rfl rfl rfl (by decide) rfl rfl (Nat.le_of_ble_eq_true rfl) (Nat.le_of_ble_eq_true rfl) ?_
  refine aw_if_ne (tgt := 28) dd_mo_put_23 (by decide) (fun hw => ?_) (fun hw => ?_)
  · have hw1 := bt_ne (zb_n0 hw)
    clear hw
    rw [ab_put, if_neg hw1]
    refine aw_join (tgt := 44) (v := zb_i (decide (¬ ga_a A j ||| 1 <<< k = ga_a A j))) ?_ (fun kj28 => ?_)
    · refine aw_istore (lv' := [(5, _), (4, _), (0, _), (1, _), (2, _), (3, _)]) dd_mo_put_44 (by decide) rfl ?_
      refine aw_aload_n dd_mo_put_46 rfl 2 rfl ?_
      refine aw_getf _ 5 6 dd_mo_put_47 fl_mo_19 rfl rfl ?_
      refine aw_iload_n dd_mo_put_50 rfl 3 rfl ?_
      refine aw_iload dd_mo_put_51 1 rfl ?_
      refine aw_isN _ (j) dd_mo_put_53 rfl (by omega) (by decide) ?_
      refine aw_h (hs_ma3 G _ _ _ _ _ _) ?_
      refine aw_iload dd_mo_put_54 0 rfl ?_
      exact aw_zret dd_mo_put_56 rfl (zb_01 _) ⟨_, rfl, fun _ => rfl, zb_01 _, _, rfl, ⟨hB, hGr, ⟨hU.1, hU.2.1, up_e hU.2.2.1, up_b hU.2.2.2 hs⟩, hSL, hDL, hRs, hSs⟩, wn_t hw1⟩
    · refine aw_iload dd_mo_put_28 0 rfl ?_
      refine aw_aload_n dd_mo_put_30 rfl 1 rfl ?_
      refine aw_getf _ 5 6 dd_mo_put_31 fl_mo_19 rfl rfl ?_
      refine aw_iload_n dd_mo_put_34 rfl 2 rfl ?_
      refine aw_iaN _ (j) dd_mo_put_35 rfl (by omega) (by decide) ?_
      refine aw_top (hU.2.2.1 j (by omega)) ?_
      refine aw_icmp_eq (tgt := 43) dd_mo_put_36 (by decide) (fun h1 => ?_) (fun h1 => ?_)
      · refine aw_iconst (v := 0) dd_mo_put_43 (by decide) ?_
        exact aw_top (by rw [nI_eq (by omega) (by omega)] at h1; simp [zb_i, h1]) kj28
      · refine aw_iconst (v := 1) dd_mo_put_39 (by decide) ?_
        refine aw_goto (tgt := 44) dd_mo_put_40 (by decide) ?_
        exact aw_top (by rw [nI_eq (by omega) (by omega)] at h1; simp [zb_i, h1]) kj28
  · replace hw := zb_e0 hw
    rw [ab_put, if_pos hw]
    refine aw_iconst (v := 0) dd_mo_put_26 (by decide) ?_
    exact aw_zret dd_mo_put_27 rfl (by first | exact Or.inl rfl | exact Or.inr rfl) ⟨_, rfl, fun h0 => absurd h0 hf, Or.inl rfl, _, rfl, hR, wn_f hw⟩
theorem kv_a (μ : cm_T) (k : Nat) (f : Nat → Int32) (r : Nat) (x : Int32) : km_a (μ.1, va_up μ.2 k f) k r x = (μ.1, va_up μ.2 k (upd f r x)) := by
  unfold km_a va_up
  congr 1
  funext i
  by_cases h : i = k <;> simp [h]
theorem kv_0 (μ : cm_T) (k : Nat) : (μ.1, va_up μ.2 k (μ.2 k)) = μ := by
  unfold va_up
  congr 1
  funext i
  by_cases h : i = k <;> simp [h]
theorem wl_mo_cutSessions (G : ag_T) (κ : ck_T) (μ : cm_T) (o : Nat → Int64) (rest : List va_E) {n : Nat} {bel : Nat → Nat} (hB : rm_c μ n bel) {u : Nat} {asg : Nat → Nat} (hU : rm_u μ u asg) {so : Nat → Option Nat} {sa : Nat → Nat} (hSs : rm_s μ so sa) : ∀ (k r : Nat), r + k = 4 → ∀ f : Nat → Int32, (∀ s, s < 4 → f s = if s < r then cu_x n bel asg so sa s else μ.2 9 s) → aw_w G mm_mo_cutSessions 1 23 0 0 2 [(1, .int (nI r)), (0, .ref (G.1 + 13))] [] (hp_f G κ (μ.1, va_up μ.2 9 f) o rest) (qe_v fun h' => ∃ f, h' = hp_f G κ (μ.1, va_up μ.2 9 f) o rest ∧ ∀ s, s < 4 → f s = cu_x n bel asg so sa s) := by
  intro k
  induction k with
  | zero =>
    intro r hr f hf
    have e : r = 4 := by omega
    subst e
    refine aw_iload_n dd_mo_cutSessions_2 rfl 0 rfl ?_
    refine aw_iconst (v := 4) dd_mo_cutSessions_3 (by decide) ?_
    refine aw_icmp_ge (tgt := 54) dd_mo_cutSessions_4 (by decide) (fun _ => ?_) (fun h9 => absurd (nI_le (a := 4) (b := 4) (by decide) (by decide)) h9)
    exact aw_vret dd_mo_cutSessions_54 rfl ⟨rfl, f, rfl, fun s hs => by rw [hf s hs, if_pos hs]⟩
  | succ k ih =>
    intro r hr f hf
    have hr4 : r < 4 := by omega
    obtain ⟨h7, h8⟩ := hSs.1 r hr4
    have hfr : f r = μ.2 9 r := by rw [hf r hr4, if_neg (Nat.lt_irrefl r)]
    have go : ∀ x : Int32, x = cu_x n bel asg so sa r → ∀ s, s < 4 → upd f r x s = if s < r + 1 then cu_x n bel asg so sa s else μ.2 9 s := by
      intro x hx s hs
      unfold upd
      split
      · rename_i e; subst e; rw [if_pos (by omega)]; exact hx
      · rename_i e; rw [hf s hs]
        by_cases h9 : s < r
        · rw [if_pos h9, if_pos (by omega)]
        · rw [if_neg h9, if_neg (by omega)]
    refine aw_iload_n dd_mo_cutSessions_2 rfl 0 rfl ?_
    refine aw_iconst (v := 4) dd_mo_cutSessions_3 (by decide) ?_
    refine aw_icmp_ge (tgt := 54) dd_mo_cutSessions_4 (by decide) (fun h9 => absurd h9 (nI_ge (b := 4) (by omega) (by decide))) (fun _ => ?_)
    refine aw_aload_n dd_mo_cutSessions_7 rfl 1 rfl ?_
    refine aw_getf _ 5 12 dd_mo_cutSessions_8 fl_mo_38 rfl rfl ?_
    refine aw_iload_n dd_mo_cutSessions_11 rfl 0 rfl ?_
    refine aw_aload_n dd_mo_cutSessions_12 rfl 1 rfl ?_
    refine aw_getf _ 5 10 dd_mo_cutSessions_13 fl_mo_31 rfl rfl ?_
    refine aw_iload_n dd_mo_cutSessions_16 rfl 0 rfl ?_
    refine aw_zaN _ (r) dd_mo_cutSessions_17 rfl (hr4) (by decide) ?_
    refine aw_top h7 ?_
    refine aw_if_eq (tgt := 46) dd_mo_cutSessions_18 (by decide) (fun hc => ?_) (fun hc => ?_)
    · have hc := zb_e0 hc
      refine aw_iconst (v := 0) dd_mo_cutSessions_46 (by decide) ?_
      refine aw_isN _ (r) dd_mo_cutSessions_47 rfl (hr4) (by decide) ?_
      refine aw_h (hs_ma9 G _ _ _ _ _ _) ?_
      rw [kv_a]
      refine aw_iinc (v := nI (r + 1)) (lv' := [(1, _), (0, _)]) dd_mo_cutSessions_48 0 rfl (nI_1 _) (by decide) rfl ?_
      refine aw_goto (tgt := 2) dd_mo_cutSessions_51 (by decide) ?_
      exact ih (r + 1) (by omega) _ (go _ (by simp_all [cu_x]))
    · have hc := zb_n0 hc
      obtain ⟨v, hv⟩ := Option.isSome_iff_exists.mp hc
      obtain ⟨e8, e9, e10⟩ := h8 v hv
      refine aw_aload_n dd_mo_cutSessions_21 rfl 1 rfl ?_
      refine aw_getf _ 5 12 dd_mo_cutSessions_22 fl_mo_38 rfl rfl ?_
      refine aw_iload_n dd_mo_cutSessions_25 rfl 0 rfl ?_
      refine aw_iaN _ (r) dd_mo_cutSessions_26 rfl (hr4) (by decide) ?_
      refine aw_top (hfr.trans e10) ?_
      refine aw_aload_n dd_mo_cutSessions_27 rfl 1 rfl ?_
      refine aw_aload_n dd_mo_cutSessions_28 rfl 1 rfl ?_
      refine aw_getf _ 5 6 dd_mo_cutSessions_29 fl_mo_19 rfl rfl ?_
      refine aw_aload_n dd_mo_cutSessions_32 rfl 1 rfl ?_
      refine aw_getf _ 5 11 dd_mo_cutSessions_33 fl_mo_35 rfl rfl ?_
      refine aw_iload_n dd_mo_cutSessions_36 rfl 0 rfl ?_
      refine aw_iaN _ (r) dd_mo_cutSessions_37 rfl (hr4) (by decide) ?_
      refine aw_top e8 ?_
      refine aw_iaN _ (v) dd_mo_cutSessions_38 rfl (e9) (by decide) ?_
      refine aw_top (hU.2.2.1 v e9) ?_
      refine aw_cVi mm_mo_closed 0 0 _ 5 [_] _ (wc_mo_closed G κ (μ.1, va_up μ.2 9 f) o rest hB (hU.2.2.2 v)) dd_mo_cutSessions_39 cv_mo_75 my_mo_closed np_mo_closed rfl rfl rfl (by decide) rfl rfl (Nat.le_of_ble_eq_true rfl) (Nat.le_of_ble_eq_true rfl) ?_
      refine aw_iand dd_mo_cutSessions_42 ?_
      refine aw_top (nI_and _ _) ?_
      refine aw_goto (tgt := 47) dd_mo_cutSessions_43 (by decide) ?_
      refine aw_isN _ (r) dd_mo_cutSessions_47 rfl (hr4) (by decide) ?_
      refine aw_h (hs_ma9 G _ _ _ _ _ _) ?_
      rw [kv_a]
      refine aw_iinc (v := nI (r + 1)) (lv' := [(1, _), (0, _)]) dd_mo_cutSessions_48 0 rfl (nI_1 _) (by decide) rfl ?_
      refine aw_goto (tgt := 2) dd_mo_cutSessions_51 (by decide) ?_
      exact ih (r + 1) (by omega) _ (go _ (by simp_all [cu_x]))
theorem wc_mo_cutSessions (G : ag_T) (κ : ck_T) (μ : cm_T) (o : Nat → Int64) (rest : List va_E) {n : Nat} {bel : Nat → Nat} (hB : rm_c μ n bel) {u : Nat} {asg : Nat → Nat} (hU : rm_u μ u asg) {so : Nat → Option Nat} {sa : Nat → Nat} (hSs : rm_s μ so sa) : aw_w G mm_mo_cutSessions 1 23 0 0 0 (lv_args 0 [.ref (G.1 + 13)]) [] (hp_f G κ μ o rest) (qe_v fun h' => ∃ f, h' = hp_f G κ (μ.1, va_up μ.2 9 f) o rest ∧ ∀ s, s < 4 → f s = cu_x n bel asg so sa s) := by
  refine aw_iconst (v := 0) dd_mo_cutSessions_0 (by decide) ?_
  refine aw_istore_n (lv' := [(1, _), (0, _)]) dd_mo_cutSessions_1 rfl (by decide) rfl ?_
  rw [show hp_f G κ μ o rest = hp_f G κ (μ.1, va_up μ.2 9 (μ.2 9)) o rest by rw [kv_0]]
  exact wl_mo_cutSessions G κ μ o rest hB hU hSs 4 0 rfl (μ.2 9) (fun s _ => by rw [if_neg (Nat.not_lt_zero s)])
theorem wc_mo_drop (G : ag_T) (κ : ck_T) (μ : cm_T) (o : Nat → Int64) (rest : List va_E) {A : aa_T} (hR : rm_R μ A) (hW : wa_W A) {j k : Nat} (hj : j < ga_u A) (hk : k < ga_n A) (hf : μ.1 0 = 0) : aw_w G mm_mo_drop 2 44 0 0 0 (lv_args 0 [.ref (G.1 + 13), .int (nI j), .int (nI k)]) [] (hp_f G κ μ o rest) (qm_B G κ o rest (ab_drop A j k)) := by
  obtain ⟨hB, hGr, hU, hSL, hDL, hRs, hSs⟩ := id hR; have hn6 := hB.2.1; have hu5 := hU.2.1
  have ha := hU.2.2.2 j
  refine aw_join (tgt := 19) (v := zb_i ((ga_a A j).testBit k)) ?_ (fun kj0 => ?_)
  · refine aw_istore_n (lv' := [(3, _), (0, _), (1, _), (2, _)]) dd_mo_drop_19 rfl (by decide) rfl ?_
    refine aw_aload_n dd_mo_drop_20 rfl 1 rfl ?_
    refine aw_getf _ 5 6 dd_mo_drop_21 fl_mo_19 rfl rfl ?_
    refine aw_iload_n dd_mo_drop_24 rfl 2 rfl ?_
    refine aw_aload_n dd_mo_drop_25 rfl 1 rfl ?_
    refine aw_getf _ 5 6 dd_mo_drop_26 fl_mo_19 rfl rfl ?_
    refine aw_iload_n dd_mo_drop_29 rfl 2 rfl ?_
    refine aw_iaN _ (j) dd_mo_drop_30 rfl (by omega) (by decide) ?_
    refine aw_top (hU.2.2.1 j (by omega)) ?_
    refine aw_iconst (v := 1) dd_mo_drop_31 (by decide) ?_
    refine aw_iload_n dd_mo_drop_32 rfl 3 rfl ?_
    refine aw_ishl dd_mo_drop_33 ?_
    refine aw_iconst (v := (-1)) dd_mo_drop_34 (by decide) ?_
    refine aw_ixor dd_mo_drop_35 ?_
    refine aw_iand dd_mo_drop_36 ?_
    refine aw_top (nI_clr _ (by omega)) ?_
    refine aw_isN _ (j) dd_mo_drop_37 rfl (by omega) (by decide) ?_
    refine aw_h (hs_ma3 G _ _ _ _ _ _) ?_
    refine aw_aload_n dd_mo_drop_38 rfl 1 rfl ?_
    refine aw_cVf mm_mo_cutSessions 0 0 _ 5 [] _ (wc_mo_cutSessions G κ (km_a μ 3 j (nI (bt_c (ga_a A j) k))) o rest hB (asg := up_f (ga_a A) j (bt_c (ga_a A j) k)) ⟨hU.1, hU.2.1, up_e hU.2.2.1, up_b hU.2.2.2 (bt_cl (n := 6) ha)⟩ hSs) dd_mo_drop_39 cv_mo_110 my_mo_cutSessions np_mo_cutSessions rfl rfl rfl (by decide) rfl rfl (Nat.le_of_ble_eq_true rfl) (Nat.le_of_ble_eq_true rfl) (fun h9 hq => ?_)
    obtain ⟨f, rfl, hf9⟩ := hq
    refine aw_iload_n dd_mo_drop_42 rfl 0 rfl ?_
    exact aw_zret dd_mo_drop_43 rfl (zb_01 _) ⟨_, rfl, fun _ => rfl, zb_01 _, _, rfl, ⟨hB, hGr, ⟨hU.1, hU.2.1, up_e hU.2.2.1, up_b hU.2.2.2 (bt_cl (n := 6) ha)⟩, hSL, hDL, hRs, cu_ok hB hSs hW hf9⟩, hf⟩
  · refine aw_aload_n dd_mo_drop_0 rfl 0 rfl ?_
    refine aw_getf _ 5 6 dd_mo_drop_1 fl_mo_19 rfl rfl ?_
    refine aw_iload_n dd_mo_drop_4 rfl 1 rfl ?_
    refine aw_iaN _ (j) dd_mo_drop_5 rfl (by omega) (by decide) ?_
    refine aw_top (hU.2.2.1 j (by omega)) ?_
    refine aw_iload_n dd_mo_drop_6 rfl 2 rfl ?_
    refine aw_ishr dd_mo_drop_7 ?_
    refine aw_iconst (v := 1) dd_mo_drop_8 (by decide) ?_
    refine aw_iand dd_mo_drop_9 ?_
    refine aw_top (nI_bit (by omega) (by omega)) ?_
    refine aw_iconst (v := 1) dd_mo_drop_10 (by decide) ?_
    refine aw_icmp_ne (tgt := 18) dd_mo_drop_11 (by decide) (fun h1 => ?_) (fun h1 => ?_)
    · refine aw_iconst (v := 0) dd_mo_drop_18 (by decide) ?_
      exact aw_top (by simp_all [zb_q1, zb_i]) kj0
    · refine aw_iconst (v := 1) dd_mo_drop_14 (by decide) ?_
      refine aw_goto (tgt := 19) dd_mo_drop_15 (by decide) ?_
      exact aw_top (by simp_all [zb_q1, zb_i]) kj0
theorem wc_mo_addRule (G : ag_T) (κ : ck_T) (μ : cm_T) (o : Nat → Int64) (rest : List va_E) {A : aa_T} (hR : rm_R μ A) (x : Bool × Nat × Nat × Nat × Nat) (hx : x.2.1 < 6 ∧ x.2.2.1 < 64 ∧ x.2.2.2.1 < 64 ∧ x.2.2.2.2 < 6) (h8 : (ga_r A).length < 8) (hf : μ.1 0 = 0) : aw_w G mm_mo_addRule 0 0 0 0 0 (lv_args 0 [.ref (G.1 + 13), .int (zb_i x.1), .int (nI x.2.1), .int (nI x.2.2.1), .int (nI x.2.2.2.1), .int (nI x.2.2.2.2)]) [] (hp_f G κ μ o rest) (qm_R G κ o rest (ab_addRule A x)) := by
  obtain ⟨hB, hGr, hU, hSL, hDL, hRs, hSs⟩ := id hR; have hn6 := hB.2.1; have hu5 := hU.2.1
  refine aw_aload_n dd_mo_addRule_0 rfl 0 rfl ?_
  refine aw_getf _ 5 14 dd_mo_addRule_1 fl_mo_41 rfl rfl ?_
  refine aw_aload_n dd_mo_addRule_4 rfl 0 rfl ?_
  refine aw_getf _ 5 13 dd_mo_addRule_5 fl_mo_100 rfl rfl ?_
  refine aw_top (hRs.1) ?_
  refine aw_iload_n dd_mo_addRule_8 rfl 1 rfl ?_
  refine aw_zsN _ ((ga_r A).length) dd_mo_addRule_9 rfl (by omega) (by decide) (zb_01 _) ?_
  refine aw_h (hs_ma10 G _ _ _ _ _ _) ?_
  refine aw_aload_n dd_mo_addRule_10 rfl 0 rfl ?_
  refine aw_getf _ 5 15 dd_mo_addRule_11 fl_mo_44 rfl rfl ?_
  refine aw_aload_n dd_mo_addRule_14 rfl 0 rfl ?_
  refine aw_getf _ 5 13 dd_mo_addRule_15 fl_mo_100 rfl rfl ?_
  refine aw_top (hRs.1) ?_
  refine aw_iload_n dd_mo_addRule_18 rfl 2 rfl ?_
  refine aw_isN _ ((ga_r A).length) dd_mo_addRule_19 rfl (by omega) (by decide) ?_
  refine aw_h (hs_ma11 G _ _ _ _ _ _) ?_
  refine aw_aload_n dd_mo_addRule_20 rfl 0 rfl ?_
  refine aw_getf _ 5 16 dd_mo_addRule_21 fl_mo_47 rfl rfl ?_
  refine aw_aload_n dd_mo_addRule_24 rfl 0 rfl ?_
  refine aw_getf _ 5 13 dd_mo_addRule_25 fl_mo_100 rfl rfl ?_
  refine aw_top (hRs.1) ?_
  refine aw_iload_n dd_mo_addRule_28 rfl 3 rfl ?_
  refine aw_isN _ ((ga_r A).length) dd_mo_addRule_29 rfl (by omega) (by decide) ?_
  refine aw_h (hs_ma12 G _ _ _ _ _ _) ?_
  refine aw_aload_n dd_mo_addRule_30 rfl 0 rfl ?_
  refine aw_getf _ 5 17 dd_mo_addRule_31 fl_mo_50 rfl rfl ?_
  refine aw_aload_n dd_mo_addRule_34 rfl 0 rfl ?_
  refine aw_getf _ 5 13 dd_mo_addRule_35 fl_mo_100 rfl rfl ?_
  refine aw_top (hRs.1) ?_
  refine aw_iload dd_mo_addRule_38 4 rfl ?_
  refine aw_isN _ ((ga_r A).length) dd_mo_addRule_40 rfl (by omega) (by decide) ?_
  refine aw_h (hs_ma13 G _ _ _ _ _ _) ?_
  refine aw_aload_n dd_mo_addRule_41 rfl 0 rfl ?_
  refine aw_getf _ 5 18 dd_mo_addRule_42 fl_mo_53 rfl rfl ?_
  refine aw_aload_n dd_mo_addRule_45 rfl 0 rfl ?_
  refine aw_getf _ 5 13 dd_mo_addRule_46 fl_mo_100 rfl rfl ?_
  refine aw_top (hRs.1) ?_
  refine aw_iload dd_mo_addRule_49 5 rfl ?_
  refine aw_isN _ ((ga_r A).length) dd_mo_addRule_51 rfl (by omega) (by decide) ?_
  refine aw_h (hs_ma14 G _ _ _ _ _ _) ?_
  refine aw_aload_n dd_mo_addRule_52 rfl 0 rfl ?_
  refine aw_dup dd_mo_addRule_53 rfl ?_
  refine aw_getf _ 5 13 dd_mo_addRule_54 fl_mo_100 rfl rfl ?_
  refine aw_top (hRs.1) ?_
  refine aw_iconst (v := 1) dd_mo_addRule_57 (by decide) ?_
  refine aw_iadd dd_mo_addRule_58 ?_
  refine aw_top (nI_1 _) ?_
  refine aw_putf _ 5 13 dd_mo_addRule_59 fl_mo_100 nf_mo_13 rfl (rfl) (rfl) (Nat.le_of_ble_eq_true rfl) ?_
  refine aw_h (hs_ms3 G _ _ _ _ _) ?_
  refine aw_aload_n dd_mo_addRule_62 rfl 0 rfl ?_
  refine aw_getf _ 5 13 dd_mo_addRule_63 fl_mo_100 rfl rfl ?_
  refine aw_iconst (v := (nI 1)) dd_mo_addRule_66 (by decide) ?_
  refine aw_isub dd_mo_addRule_67 ?_
  refine aw_top (nI_sub (by omega)) ?_
  rw [Nat.add_sub_cancel]
  exact aw_iret dd_mo_addRule_68 rfl ⟨_, rfl, fun _ => rfl, _, rfl, ⟨hB, hGr, hU, hSL, hDL, ru_ok hRs hx h8, hSs⟩, hf⟩
