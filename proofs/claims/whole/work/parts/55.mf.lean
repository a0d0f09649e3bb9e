/-! ===== the reference: one step of the search ===== -/
theorem vn_lt {u n v : Nat} (hv : v < u) (h12 : u * n ≤ 12) : v * n + n ≤ 12 := by
  have h1 : (v + 1) * n ≤ u * n := Nat.mul_le_mul_right n hv
  rw [Nat.add_mul, Nat.one_mul] at h1
  omega
theorem wm_mo_stepTo (G : ag_T) (κ : ck_T) (μ : cm_T) (o : Nat → Int64) (rest : List va_E) {A : aa_T} (hR : rm_R μ A) {s v r9 : Nat} (hs : s < 4096) (h12 : ga_u A * ga_n A ≤ 12) (hv : v < ga_u A) (hr9 : r9 < ga_n A) (g : Bool) (hne : ¬ (pi_r (ga_n A) s v).testBit r9 = g) : aw_w G mm_mo_stepTo 2 47 0 0 66 [(7, .int (nI (ga_u A))), (6, .int (nI (pi_a (ga_n A) (fun t => pc_f (ga_b A) t (ga_n A)) s (ga_u A)))), (5, .int (nI (pi_r (ga_n A) s v))), (0, .ref (G.1 + 13)), (1, .int (nI s)), (2, .int (nI v)), (3, .int (nI r9)), (4, .int (zb_i g))] [] (hp_f G κ μ o rest) (q_i (po_i (ps_s (ga_n A) (ga_u A) (fun t => pc_f (ga_b A) t (ga_n A)) (ga_s A) (ga_r A) s v r9 g)) (hp_f G κ μ o rest)) := by
  obtain ⟨hB, hGr, hU, hSL, hDL, hRs, hSs⟩ := id hR; have hn6 := hB.2.1; have hu5 := hU.2.1
  have hvn := vn_lt hv h12
  have hO := pi_lt (ga_n A) s v hn6
  have hC := pc_64 hB.2.2.2 hO (ga_n A)
  have hA := pi_al (cl := (fun t => pc_f (ga_b A) t (ga_n A))) (fun t ht => pc_64 hB.2.2.2 ht _) hn6 s (ga_u A)
  have hS : (pi_r (ga_n A) s v) ||| 1 <<< r9 < 64 := bt_or (n := 6) hO (bt_1 (by omega))
  rw [show ps_s (ga_n A) (ga_u A) (fun t => pc_f (ga_b A) t (ga_n A)) (ga_s A) (ga_r A) s v r9 g = _ from if_neg hne]
  refine aw_aload_n dd_mo_stepTo_66 rfl 3 rfl ?_
  refine aw_iload dd_mo_stepTo_67 7 rfl ?_
  refine aw_iload dd_mo_stepTo_69 1 rfl ?_
  refine aw_aload_n dd_mo_stepTo_71 rfl 3 rfl ?_
  refine aw_iload dd_mo_stepTo_72 2 rfl ?_
  refine aw_cVi mm_mo_closed 0 0 _ 5 [_] _ (wc_mo_closed G κ μ o rest hB hO) dd_mo_stepTo_74 cv_mo_75 my_mo_closed np_mo_closed rfl rfl rfl (by decide) rfl rfl (Nat.le_of_ble_eq_true rfl) (Nat.le_of_ble_eq_true rfl) ?_
  refine aw_iload_n dd_mo_stepTo_77 rfl 6 rfl ?_
  refine aw_cVi mm_mo_lets 0 0 _ 5 [_, _, _, _] _ (wc_mo_lets G κ μ o rest hRs g hA hC (by omega)) dd_mo_stepTo_78 cv_mo_124 my_mo_lets np_mo_lets rfl rfl rfl (by decide) rfl rfl (Nat.le_of_ble_eq_true rfl) (Nat.le_of_ble_eq_true rfl) ?_
  refine aw_if_eq (tgt := 102) dd_mo_stepTo_81 (by decide) (fun h1 => ?_) (fun h1 => ?_)
  · rw [if_pos (zb_e0 h1)]
    refine aw_iconst (v := (-1)) dd_mo_stepTo_102 (by decide) ?_
    exact aw_iret dd_mo_stepTo_103 rfl ⟨rfl, rfl⟩
  · rw [if_neg (bt_ne (zb_n0 h1))]
    refine aw_iload dd_mo_stepTo_84 7 rfl ?_
    refine aw_if_eq (tgt := 104) dd_mo_stepTo_86 (by decide) (fun h2 => ?_) (fun h2 => ?_)
    · rw [if_neg (fun h9 => bt_ne h9.1 (zb_e0 h2))]
      refine aw_iload_n dd_mo_stepTo_104 rfl 4 rfl ?_
      refine aw_iconst (v := (nI 1)) dd_mo_stepTo_105 (by decide) ?_
      refine aw_iload_n dd_mo_stepTo_106 rfl 5 rfl ?_
      refine aw_aload_n dd_mo_stepTo_107 rfl 3 rfl ?_
      refine aw_getf _ 5 1 dd_mo_stepTo_108 fl_mo_69 rfl rfl ?_
      refine aw_top hB.1 ?_
      refine aw_imul dd_mo_stepTo_111 ?_
      refine aw_top (nI_mul _ _) ?_
      refine aw_iload_n dd_mo_stepTo_112 rfl 6 rfl ?_
      refine aw_iadd dd_mo_stepTo_113 ?_
      refine aw_top (nI_add _ _) ?_
      refine aw_ishl dd_mo_stepTo_114 ?_
      refine aw_top (nI_shl 1 (by omega)) ?_
      refine aw_ixor dd_mo_stepTo_115 ?_
      refine aw_top (nI_xor _ _) ?_
      exact aw_iret dd_mo_stepTo_116 rfl ⟨rfl, rfl⟩
    · refine aw_aload_n dd_mo_stepTo_89 rfl 3 rfl ?_
      refine aw_iload dd_mo_stepTo_90 2 rfl ?_
      refine aw_iconst (v := (nI 1)) dd_mo_stepTo_92 (by decide) ?_
      refine aw_iload_n dd_mo_stepTo_93 rfl 6 rfl ?_
      refine aw_ishl dd_mo_stepTo_94 ?_
      refine aw_top (nI_shl 1 (by omega)) ?_
      refine aw_ior dd_mo_stepTo_95 ?_
      refine aw_top (nI_or _ _) ?_
      refine aw_cVi mm_mo_staticKept 0 0 _ 5 [_] _ (wc_mo_staticKept G κ μ o rest hB hS hSL) dd_mo_stepTo_96 cv_mo_82 my_mo_staticKept np_mo_staticKept rfl rfl rfl (by decide) rfl rfl (Nat.le_of_ble_eq_true rfl) (Nat.le_of_ble_eq_true rfl) ?_
      refine aw_if_ne (tgt := 104) dd_mo_stepTo_99 (by decide) (fun h3 => ?_) (fun h3 => ?_)
      · rw [if_neg (fun h9 => bt_ne (zb_n0 h3) h9.2)]
        refine aw_iload_n dd_mo_stepTo_104 rfl 4 rfl ?_
        refine aw_iconst (v := (nI 1)) dd_mo_stepTo_105 (by decide) ?_
        refine aw_iload_n dd_mo_stepTo_106 rfl 5 rfl ?_
        refine aw_aload_n dd_mo_stepTo_107 rfl 3 rfl ?_
        refine aw_getf _ 5 1 dd_mo_stepTo_108 fl_mo_69 rfl rfl ?_
        refine aw_top hB.1 ?_
        refine aw_imul dd_mo_stepTo_111 ?_
        refine aw_top (nI_mul _ _) ?_
        refine aw_iload_n dd_mo_stepTo_112 rfl 6 rfl ?_
        refine aw_iadd dd_mo_stepTo_113 ?_
        refine aw_top (nI_add _ _) ?_
        refine aw_ishl dd_mo_stepTo_114 ?_
        refine aw_top (nI_shl 1 (by omega)) ?_
        refine aw_ixor dd_mo_stepTo_115 ?_
        refine aw_top (nI_xor _ _) ?_
        exact aw_iret dd_mo_stepTo_116 rfl ⟨rfl, rfl⟩
      · rw [if_pos ⟨zb_n0 h2, zb_e0 h3⟩]
        refine aw_iconst (v := (-1)) dd_mo_stepTo_102 (by decide) ?_
        exact aw_iret dd_mo_stepTo_103 rfl ⟨rfl, rfl⟩
theorem wl_mo_stepTo (G : ag_T) (κ : ck_T) (μ : cm_T) (o : Nat → Int64) (rest : List va_E) {A : aa_T} (hR : rm_R μ A) {s v r9 : Nat} (hs : s < 4096) (h12 : ga_u A * ga_n A ≤ 12) (hv : v < ga_u A) (hr9 : r9 < ga_n A) (g : Bool) (hne : ¬ (pi_r (ga_n A) s v).testBit r9 = g) : ∀ (k r : Nat), r + k = ga_u A → aw_w G mm_mo_stepTo 2 47 0 0 35 [(7, .int (nI r)), (6, .int (nI (pi_a (ga_n A) (fun t => pc_f (ga_b A) t (ga_n A)) s r))), (5, .int (nI (pi_r (ga_n A) s v))), (0, .ref (G.1 + 13)), (1, .int (nI s)), (2, .int (nI v)), (3, .int (nI r9)), (4, .int (zb_i g))] [] (hp_f G κ μ o rest) (q_i (po_i (ps_s (ga_n A) (ga_u A) (fun t => pc_f (ga_b A) t (ga_n A)) (ga_s A) (ga_r A) s v r9 g)) (hp_f G κ μ o rest)) := by
  obtain ⟨hB, hGr, hU, hSL, hDL, hRs, hSs⟩ := id hR; have hn6 := hB.2.1; have hu5 := hU.2.1
  intro k
  induction k with
  | zero =>
    intro r hr
    have e : r = ga_u A := by omega
    subst e
    refine aw_iload dd_mo_stepTo_35 0 rfl ?_
    refine aw_aload_n dd_mo_stepTo_37 rfl 3 rfl ?_
    refine aw_getf _ 5 2 dd_mo_stepTo_38 fl_mo_72 rfl rfl ?_
    refine aw_top hU.1 ?_
    refine aw_icmp_ge (tgt := 66) dd_mo_stepTo_41 (by decide) (fun _ => ?_) (fun h9 => absurd (nI_le (Nat.le_refl _) (by omega)) h9)
    exact wm_mo_stepTo G κ μ o rest hR hs h12 hv hr9 g hne
  | succ k ih =>
    intro r hr
    have hvn := vn_lt (v := r) (u := ga_u A) (n := ga_n A) (by omega) h12
    refine aw_iload dd_mo_stepTo_35 0 rfl ?_
    refine aw_aload_n dd_mo_stepTo_37 rfl 3 rfl ?_
    refine aw_getf _ 5 2 dd_mo_stepTo_38 fl_mo_72 rfl rfl ?_
    refine aw_top hU.1 ?_
    refine aw_icmp_ge (tgt := 66) dd_mo_stepTo_41 (by decide) (fun h9 => absurd h9 (nI_ge (by omega) (by omega))) (fun _ => ?_)
    refine aw_iload dd_mo_stepTo_44 1 rfl ?_
    refine aw_aload_n dd_mo_stepTo_46 rfl 3 rfl ?_
    refine aw_aload_n dd_mo_stepTo_47 rfl 3 rfl ?_
    refine aw_iload_n dd_mo_stepTo_48 rfl 4 rfl ?_
    refine aw_iload dd_mo_stepTo_49 0 rfl ?_
    refine aw_cVi mm_mo_rolesIn 0 0 _ 5 [_, _] _ (wc_mo_rolesIn G κ μ o rest hB.1 hn6 (by omega) (by omega)) dd_mo_stepTo_51 cv_mo_131 my_mo_rolesIn np_mo_rolesIn rfl rfl rfl (by decide) rfl rfl (Nat.le_of_ble_eq_true rfl) (Nat.le_of_ble_eq_true rfl) ?_
    refine aw_cVi mm_mo_closed 0 0 _ 5 [_] _ (wc_mo_closed G κ μ o rest hB (pi_lt (ga_n A) s r hn6)) dd_mo_stepTo_54 cv_mo_75 my_mo_closed np_mo_closed rfl rfl rfl (by decide) rfl rfl (Nat.le_of_ble_eq_true rfl) (Nat.le_of_ble_eq_true rfl) ?_
    refine aw_ior dd_mo_stepTo_57 ?_
    refine aw_top (nI_or _ _) ?_
    refine aw_istore (lv' := [(6, _), (7, _), (5, _), (0, _), (1, _), (2, _), (3, _), (4, _)]) dd_mo_stepTo_58 (by decide) rfl ?_
    refine aw_iinc (v := nI (r + 1)) (lv' := [(7, _), (6, _), (5, _), (0, _), (1, _), (2, _), (3, _), (4, _)]) dd_mo_stepTo_60 1 rfl (nI_1 _) (by decide) rfl ?_
    refine aw_goto (tgt := 35) dd_mo_stepTo_63 (by decide) ?_
    exact ih (r + 1) (by omega)
theorem wc_mo_stepTo (G : ag_T) (κ : ck_T) (μ : cm_T) (o : Nat → Int64) (rest : List va_E) {A : aa_T} (hR : rm_R μ A) {s v r9 : Nat} (hs : s < 4096) (h12 : ga_u A * ga_n A ≤ 12) (hv : v < ga_u A) (hr9 : r9 < ga_n A) (g : Bool) : aw_w G mm_mo_stepTo 2 47 0 0 0 (lv_args 0 [.ref (G.1 + 13), .int (nI s), .int (nI v), .int (nI r9), .int (zb_i g)]) [] (hp_f G κ μ o rest) (q_i (po_i (ps_s (ga_n A) (ga_u A) (fun t => pc_f (ga_b A) t (ga_n A)) (ga_s A) (ga_r A) s v r9 g)) (hp_f G κ μ o rest)) := by
  obtain ⟨hB, hGr, hU, hSL, hDL, hRs, hSs⟩ := id hR; have hn6 := hB.2.1; have hu5 := hU.2.1
  have hvn := vn_lt hv h12
  have hO := pi_lt (ga_n A) s v hn6
  refine aw_aload_n dd_mo_stepTo_0 rfl 0 rfl ?_
  refine aw_iload_n dd_mo_stepTo_1 rfl 1 rfl ?_
  refine aw_iload_n dd_mo_stepTo_2 rfl 2 rfl ?_
  refine aw_cVi mm_mo_rolesIn 0 0 _ 5 [_, _] _ (wc_mo_rolesIn G κ μ o rest hB.1 hn6 (by omega) (by omega)) dd_mo_stepTo_3 cv_mo_131 my_mo_rolesIn np_mo_rolesIn rfl rfl rfl (by decide) rfl rfl (Nat.le_of_ble_eq_true rfl) (Nat.le_of_ble_eq_true rfl) ?_
  refine aw_istore (lv' := [(5, _), (0, _), (1, _), (2, _), (3, _), (4, _)]) dd_mo_stepTo_6 (by decide) rfl ?_
  refine aw_iload dd_mo_stepTo_8 0 rfl ?_
  refine aw_iload_n dd_mo_stepTo_10 rfl 4 rfl ?_
  refine aw_ishr dd_mo_stepTo_11 ?_
  refine aw_iconst (v := 1) dd_mo_stepTo_12 (by decide) ?_
  refine aw_iand dd_mo_stepTo_13 ?_
  refine aw_top (nI_bit (by omega) (by omega)) ?_
  refine aw_join (tgt := 24) (v := zb_i g) ?_ (fun kj14 => ?_)
  · refine aw_icmp_ne (tgt := 29) dd_mo_stepTo_24 (by decide) (fun h2 => ?_) (fun h2 => ?_)
    · refine aw_iconst (v := 0) dd_mo_stepTo_29 (by decide) ?_
      refine aw_istore (lv' := [(6, _), (5, _), (0, _), (1, _), (2, _), (3, _), (4, _)]) dd_mo_stepTo_30 (by decide) rfl ?_
      refine aw_iconst (v := 0) dd_mo_stepTo_32 (by decide) ?_
      refine aw_istore (lv' := [(7, _), (6, _), (5, _), (0, _), (1, _), (2, _), (3, _), (4, _)]) dd_mo_stepTo_33 (by decide) rfl ?_
      exact wl_mo_stepTo G κ μ o rest hR hs h12 hv hr9 g (fun h9 => h2 (zb_inj.mpr h9)) (ga_u A) 0 (Nat.zero_add _)
    · rw [show ps_s (ga_n A) (ga_u A) (fun t => pc_f (ga_b A) t (ga_n A)) (ga_s A) (ga_r A) s v r9 g = none from if_pos (zb_inj.mp h2)]
      refine aw_iconst (v := (-1)) dd_mo_stepTo_27 (by decide) ?_
      exact aw_iret dd_mo_stepTo_28 rfl ⟨rfl, rfl⟩
  · refine aw_iload dd_mo_stepTo_14 5 rfl ?_
    refine aw_if_eq (tgt := 23) dd_mo_stepTo_16 (by decide) (fun h1 => ?_) (fun h1 => ?_)
    · refine aw_iconst (v := 0) dd_mo_stepTo_23 (by decide) ?_
      exact aw_top (by simp only [zb_q0, zb_q1, Bool.not_eq_false, Bool.not_eq_true] at *; simp_all [zb_i]) kj14
    · refine aw_iconst (v := 1) dd_mo_stepTo_19 (by decide) ?_
      refine aw_goto (tgt := 24) dd_mo_stepTo_20 (by decide) ?_
      exact aw_top (by simp only [zb_q0, zb_q1, Bool.not_eq_false, Bool.not_eq_true] at *; simp_all [zb_i]) kj14
