/-! ===== the constructors, the law's beginning ===== -/
theorem wc_bc_init (G : ag_T) (h : List va_E) (i : Nat)  : aw_w G mm_bc_init 1 24 0 0 0 (lv_args 0 [.ref (G.1 + i)]) [] h (q_v h) := by
  refine aw_aload_n dd_bc_init_0 rfl 0 rfl ?_
  refine aw_obj dd_bc_init_1 ob_bc_1 (Nat.le_of_ble_eq_true rfl) (Nat.le_of_ble_eq_true rfl) ?_
  exact aw_vret dd_bc_init_4 rfl ⟨rfl, rfl⟩
theorem wc_bl_init (G : ag_T) (h : List va_E) {i : Nat} (hi : h[i]? = some (.inr (6, [.int 0, .null, .int 0])))  : aw_w G mm_bl_init 2 44 0 0 0 (lv_args 0 [.ref (G.1 + i)]) [] h (q_v (h.set i (.inr (6, [.int 0, .null, .int 0])))) := by
  refine aw_aload_n dd_bl_init_0 rfl 0 rfl ?_
  refine aw_cIv mm_bc_init 0 0 _ [] _ (wc_bc_init G _ i) dd_bl_init_1 ci_bl_1 my_bc_init np_bc_init rfl (by decide) rfl rfl (Nat.le_of_ble_eq_true rfl) (Nat.le_of_ble_eq_true rfl) ?_
  refine aw_aload_n dd_bl_init_4 rfl 0 rfl ?_
  refine aw_iconst (v := 0) dd_bl_init_5 (by decide) ?_
  refine aw_putf _ 6 0 dd_bl_init_6 fl_bl_7 nf_al_0 hi (rfl) (rfl) (Nat.le_of_ble_eq_true rfl) ?_
  exact aw_vret dd_bl_init_9 rfl ⟨rfl, rfl⟩
theorem wc_al_init (G : ag_T) (h : List va_E) {i : Nat} (hi : h[i]? = some (.inr (6, [.int 0, .null, .int 0])))  : aw_w G mm_al_init 3 64 0 0 0 (lv_args 0 [.ref (G.1 + i)]) [] h (q_v (h.set i (.inr (6, [.int 0, .ref G.2.2.2.2, .int 0])))) := by
  refine aw_aload_n dd_al_init_0 rfl 0 rfl ?_
  refine aw_cIv mm_bl_init 0 0 _ [] _ (wc_bl_init G h hi) dd_al_init_1 ci_al_1 my_bl_init np_bl_init rfl (by decide) rfl rfl (Nat.le_of_ble_eq_true rfl) (Nat.le_of_ble_eq_true rfl) ?_
  refine aw_aload_n dd_al_init_4 rfl 0 rfl ?_
  refine aw_gets dd_al_init_5 kf_al_39 ?_
  refine aw_putf _ 6 1 dd_al_init_8 fl_al_9 nf_al_1 (st_e hi) (rfl) (rfl) (Nat.le_of_ble_eq_true rfl) ?_
  rw [List.set_set]
  exact aw_vret dd_al_init_11 rfl ⟨rfl, rfl⟩
theorem wl_po_init (G : ag_T) (c : va_E) : ∀ (k r : Nat), r + k = 64 → ∀ f : Nat → Int32, (∀ s, s < r → f s = nI s) → aw_w G mm_po_init 4 84 3 9 14 [(1, .int (nI r)), (0, .ref (G.1 + 1))] [] [c, .inr (1, [.int 0, .ref (G.1 + 2), .null, .null, .null]), .inl (G.2.2.1 0, 64, .inl f)] (qe_v fun h' => ∃ f : Nat → Int32, h' = [c, .inr (1, [.int 0, .ref (G.1 + 2), .ref (G.1 + 3), .ref (G.1 + 4), .ref (G.1 + 5)]), .inl (G.2.2.1 0, 64, .inl f), .inr (6, [.int 0, .ref G.2.2.2.2, .int 0]), .inr (6, [.int 0, .ref G.2.2.2.2, .int 0]), .inr (6, [.int 0, .ref G.2.2.2.2, .int 0])] ∧ ∀ s, s < 64 → f s = nI s) := by
  intro k
  induction k with
  | zero =>
    intro r hr f hf
    have e : r = 64 := by omega
    subst e
    refine aw_iload_n dd_po_init_14 rfl 0 rfl ?_
    refine aw_bipush (v := (nI 64)) dd_po_init_15 (by decide) ?_
    refine aw_icmp_ge (tgt := 33) dd_po_init_17 (by decide) (fun _ => ?_) (fun h9 => absurd (nI_le (Nat.le_refl _) (by decide)) h9)
    refine aw_aload_n dd_po_init_33 rfl 1 rfl ?_
    refine aw_new 6 3 (kc' := 2) (ks' := 6) (fs := [.int 0, .null, .int 0]) dd_po_init_34 nl_po_15 (by decide) rfl rfl ?_
    refine aw_h (h' := [c, .inr (1, [.int 0, .ref (G.1 + 2), .null, .null, .null]), .inl (G.2.2.1 0, 64, .inl f), .inr (6, [.int 0, .null, .int 0])]) rfl ?_
    refine aw_dup dd_po_init_37 rfl ?_
    refine aw_cIv mm_al_init 2 6 _ [] _ (wc_al_init G [c, .inr (1, [.int 0, .ref (G.1 + 2), .null, .null, .null]), .inl (G.2.2.1 0, 64, .inl f), .inr (6, [.int 0, .null, .int 0])] (i := 3) rfl) dd_po_init_38 ci_po_17 my_al_init np_al_init rfl (by decide) rfl rfl (Nat.le_of_ble_eq_true rfl) (Nat.le_of_ble_eq_true rfl) ?_
    refine aw_h (h' := [c, .inr (1, [.int 0, .ref (G.1 + 2), .null, .null, .null]), .inl (G.2.2.1 0, 64, .inl f), .inr (6, [.int 0, .ref G.2.2.2.2, .int 0])]) rfl ?_
    refine aw_putF _ 1 2 dd_po_init_41 fl_po_18 ff_po_2 rfl rfl (rfl) (rfl) (Nat.le_of_ble_eq_true rfl) ?_
    refine aw_h (h' := [c, .inr (1, [.int 0, .ref (G.1 + 2), .ref (G.1 + 3), .null, .null]), .inl (G.2.2.1 0, 64, .inl f), .inr (6, [.int 0, .ref G.2.2.2.2, .int 0])]) rfl ?_
    refine aw_aload_n dd_po_init_44 rfl 1 rfl ?_
    refine aw_new 6 3 (kc' := 1) (ks' := 3) (fs := [.int 0, .null, .int 0]) dd_po_init_45 nl_po_15 (by decide) rfl rfl ?_
    refine aw_h (h' := [c, .inr (1, [.int 0, .ref (G.1 + 2), .ref (G.1 + 3), .null, .null]), .inl (G.2.2.1 0, 64, .inl f), .inr (6, [.int 0, .ref G.2.2.2.2, .int 0]), .inr (6, [.int 0, .null, .int 0])]) rfl ?_
    refine aw_dup dd_po_init_48 rfl ?_
    refine aw_cIv mm_al_init 1 3 _ [] _ (wc_al_init G [c, .inr (1, [.int 0, .ref (G.1 + 2), .ref (G.1 + 3), .null, .null]), .inl (G.2.2.1 0, 64, .inl f), .inr (6, [.int 0, .ref G.2.2.2.2, .int 0]), .inr (6, [.int 0, .null, .int 0])] (i := 4) rfl) dd_po_init_49 ci_po_17 my_al_init np_al_init rfl (by decide) rfl rfl (Nat.le_of_ble_eq_true rfl) (Nat.le_of_ble_eq_true rfl) ?_
    refine aw_h (h' := [c, .inr (1, [.int 0, .ref (G.1 + 2), .ref (G.1 + 3), .null, .null]), .inl (G.2.2.1 0, 64, .inl f), .inr (6, [.int 0, .ref G.2.2.2.2, .int 0]), .inr (6, [.int 0, .ref G.2.2.2.2, .int 0])]) rfl ?_
    refine aw_putF _ 1 3 dd_po_init_52 fl_po_22 ff_po_3 rfl rfl (rfl) (rfl) (Nat.le_of_ble_eq_true rfl) ?_
    refine aw_h (h' := [c, .inr (1, [.int 0, .ref (G.1 + 2), .ref (G.1 + 3), .ref (G.1 + 4), .null]), .inl (G.2.2.1 0, 64, .inl f), .inr (6, [.int 0, .ref G.2.2.2.2, .int 0]), .inr (6, [.int 0, .ref G.2.2.2.2, .int 0])]) rfl ?_
    refine aw_aload_n dd_po_init_55 rfl 1 rfl ?_
    refine aw_new 6 3 (kc' := 0) (ks' := 0) (fs := [.int 0, .null, .int 0]) dd_po_init_56 nl_po_15 (by decide) rfl rfl ?_
    refine aw_h (h' := [c, .inr (1, [.int 0, .ref (G.1 + 2), .ref (G.1 + 3), .ref (G.1 + 4), .null]), .inl (G.2.2.1 0, 64, .inl f), .inr (6, [.int 0, .ref G.2.2.2.2, .int 0]), .inr (6, [.int 0, .ref G.2.2.2.2, .int 0]), .inr (6, [.int 0, .null, .int 0])]) rfl ?_
    refine aw_dup dd_po_init_59 rfl ?_
    refine aw_cIv mm_al_init 0 0 _ [] _ (wc_al_init G [c, .inr (1, [.int 0, .ref (G.1 + 2), .ref (G.1 + 3), .ref (G.1 + 4), .null]), .inl (G.2.2.1 0, 64, .inl f), .inr (6, [.int 0, .ref G.2.2.2.2, .int 0]), .inr (6, [.int 0, .ref G.2.2.2.2, .int 0]), .inr (6, [.int 0, .null, .int 0])] (i := 5) rfl) dd_po_init_60 ci_po_17 my_al_init np_al_init rfl (by decide) rfl rfl (Nat.le_of_ble_eq_true rfl) (Nat.le_of_ble_eq_true rfl) ?_
    refine aw_h (h' := [c, .inr (1, [.int 0, .ref (G.1 + 2), .ref (G.1 + 3), .ref (G.1 + 4), .null]), .inl (G.2.2.1 0, 64, .inl f), .inr (6, [.int 0, .ref G.2.2.2.2, .int 0]), .inr (6, [.int 0, .ref G.2.2.2.2, .int 0]), .inr (6, [.int 0, .ref G.2.2.2.2, .int 0])]) rfl ?_
    refine aw_putF _ 1 4 dd_po_init_63 fl_po_25 ff_po_4 rfl rfl (rfl) (rfl) (Nat.le_of_ble_eq_true rfl) ?_
    refine aw_h (h' := [c, .inr (1, [.int 0, .ref (G.1 + 2), .ref (G.1 + 3), .ref (G.1 + 4), .ref (G.1 + 5)]), .inl (G.2.2.1 0, 64, .inl f), .inr (6, [.int 0, .ref G.2.2.2.2, .int 0]), .inr (6, [.int 0, .ref G.2.2.2.2, .int 0]), .inr (6, [.int 0, .ref G.2.2.2.2, .int 0])]) rfl ?_
    exact aw_vret dd_po_init_66 rfl ⟨rfl, f, rfl, hf⟩
  | succ k ih =>
    intro r hr f hf
    refine aw_iload_n dd_po_init_14 rfl 0 rfl ?_
    refine aw_bipush (v := (nI 64)) dd_po_init_15 (by decide) ?_
    refine aw_icmp_ge (tgt := 33) dd_po_init_17 (by decide) (fun h9 => absurd h9 (nI_ge (by omega) (by decide))) (fun _ => ?_)
    refine aw_aload_n dd_po_init_20 rfl 1 rfl ?_
    refine aw_getf _ 1 1 dd_po_init_21 fl_po_9 rfl rfl ?_
    refine aw_iload_n dd_po_init_24 rfl 0 rfl ?_
    refine aw_iload_n dd_po_init_25 rfl 0 rfl ?_
    refine aw_isN _ (r) dd_po_init_26 rfl (by omega) (by decide) ?_
    refine aw_h (h' := [c, .inr (1, [.int 0, .ref (G.1 + 2), .null, .null, .null]), .inl (G.2.2.1 0, 64, .inl (upd f r (nI r)))]) rfl ?_
    refine aw_iinc (v := nI (r + 1)) (lv' := [(1, _), (0, _)]) dd_po_init_27 0 rfl (nI_1 _) (by decide) rfl ?_
    refine aw_goto (tgt := 14) dd_po_init_30 (by decide) ?_
    refine ih (r + 1) (by omega) _ (fun s hs => ?_)
    unfold upd
    split
    · rename_i e; rw [e]
    · exact hf s (by omega)
theorem wc_po_init (G : ag_T) (c : va_E) : aw_w G mm_po_init 4 84 4 73 0 (lv_args 0 [.ref (G.1 + 1)]) [] [c, .inr (1, [.int 0, .null, .null, .null, .null])] (qe_v fun h' => ∃ f : Nat → Int32, h' = [c, .inr (1, [.int 0, .ref (G.1 + 2), .ref (G.1 + 3), .ref (G.1 + 4), .ref (G.1 + 5)]), .inl (G.2.2.1 0, 64, .inl f), .inr (6, [.int 0, .ref G.2.2.2.2, .int 0]), .inr (6, [.int 0, .ref G.2.2.2.2, .int 0]), .inr (6, [.int 0, .ref G.2.2.2.2, .int 0])] ∧ ∀ s, s < 64 → f s = nI s) := by
  refine aw_aload_n dd_po_init_0 rfl 0 rfl ?_
  refine aw_obj dd_po_init_1 ob_po_3 (Nat.le_of_ble_eq_true rfl) (Nat.le_of_ble_eq_true rfl) ?_
  refine aw_aload_n dd_po_init_4 rfl 0 rfl ?_
  refine aw_bipush (v := 64) dd_po_init_5 (by decide) ?_
  refine aw_newi (N := 64) (kc' := 3) (ks' := 9) dd_po_init_7 ac_int (by decide) (by decide) (by decide) rfl rfl ?_
  refine aw_putF _ 1 1 dd_po_init_9 fl_po_9 ff_po_1 rfl rfl (rfl) (rfl) (Nat.le_of_ble_eq_true rfl) ?_
  refine aw_h (h' := [c, .inr (1, [.int 0, .ref (G.1 + 2), .null, .null, .null]), .inl (G.2.2.1 0, 64, .inl (fun _ => 0))]) rfl ?_
  refine aw_iconst (v := (nI 0)) dd_po_init_12 (by decide) ?_
  refine aw_istore_n (lv' := [(1, _), (0, _)]) dd_po_init_13 rfl (by decide) rfl ?_
  exact wl_po_init G c 64 0 rfl _ (fun s hs => absurd hs (Nat.not_lt_zero s))
theorem wc_se_init (G : ag_T) (c0 c1 c2 c3 c4 c5 : va_E) : aw_w G mm_se_init 1 24 2 8192 0 (lv_args 0 [.ref (G.1 + 6), .ref (G.1 + 1)]) [] [c0, c1, c2, c3, c4, c5, .inr (2, [.null, .null, .null, .int 0, .int 0])] (q_v [c0, c1, c2, c3, c4, c5, .inr (2, [.ref (G.1 + 1), .ref (G.1 + 7), .ref (G.1 + 8), .int 0, .int 0]), .inl (G.2.2.1 0, 4096, .inl (fun _ => 0)), .inl (G.2.2.1 0, 4096, .inl (fun _ => 0))]) := by
  refine aw_aload_n dd_se_init_0 rfl 0 rfl ?_
  refine aw_obj dd_se_init_1 ob_se_3 (Nat.le_of_ble_eq_true rfl) (Nat.le_of_ble_eq_true rfl) ?_
  refine aw_aload_n dd_se_init_4 rfl 0 rfl ?_
  refine aw_aload_n dd_se_init_5 rfl 1 rfl ?_
  refine aw_putF _ 2 0 dd_se_init_6 fl_se_9 ff_se_0 rfl rfl (rfl) (rfl) (Nat.le_of_ble_eq_true rfl) ?_
  refine aw_h (h' := [c0, c1, c2, c3, c4, c5, .inr (2, [.ref (G.1 + 1), .null, .null, .int 0, .int 0])]) rfl ?_
  refine aw_aload_n dd_se_init_9 rfl 0 rfl ?_
  refine aw_sipush (v := 4096) dd_se_init_10 (by decide) ?_
  refine aw_newi (N := 4096) (kc' := 1) (ks' := 4096) dd_se_init_13 ac_int (by decide) (by decide) (by decide) rfl rfl ?_
  refine aw_putF _ 2 1 dd_se_init_15 fl_se_15 ff_se_1 rfl rfl (rfl) (rfl) (Nat.le_of_ble_eq_true rfl) ?_
  refine aw_h (h' := [c0, c1, c2, c3, c4, c5, .inr (2, [.ref (G.1 + 1), .ref (G.1 + 7), .null, .int 0, .int 0]), .inl (G.2.2.1 0, 4096, .inl (fun _ => 0))]) rfl ?_
  refine aw_aload_n dd_se_init_18 rfl 0 rfl ?_
  refine aw_sipush (v := 4096) dd_se_init_19 (by decide) ?_
  refine aw_newi (N := 4096) (kc' := 0) (ks' := 0) dd_se_init_22 ac_int (by decide) (by decide) (by decide) rfl rfl ?_
  refine aw_putF _ 2 2 dd_se_init_24 fl_se_19 ff_se_2 rfl rfl (rfl) (rfl) (Nat.le_of_ble_eq_true rfl) ?_
  refine aw_h (h' := [c0, c1, c2, c3, c4, c5, .inr (2, [.ref (G.1 + 1), .ref (G.1 + 7), .ref (G.1 + 8), .int 0, .int 0]), .inl (G.2.2.1 0, 4096, .inl (fun _ => 0)), .inl (G.2.2.1 0, 4096, .inl (fun _ => 0))]) rfl ?_
  exact aw_vret dd_se_init_27 rfl ⟨rfl, rfl⟩
theorem wc_ra_init (G : ag_T) : aw_w G mm_ra_init 5 105 12 8294 0 (lv_args 0 [.ref (G.1 + 0)]) [] [.inr (0, [.null, .null, .null, .null, .null, .null, .int 0])] (qe_v fun h' => ∃ fA fU : Nat → Int32, h' = [.inr (0, [.ref (G.1 + 1), .ref (G.1 + 6), .ref (G.1 + 9), .ref (G.1 + 10), .ref (G.1 + 11), .ref (G.1 + 12), .int 0]), .inr (1, [.int 0, .ref (G.1 + 2), .ref (G.1 + 3), .ref (G.1 + 4), .ref (G.1 + 5)]), .inl (G.2.2.1 0, 64, .inl fA), .inr (6, [.int 0, .ref G.2.2.2.2, .int 0]), .inr (6, [.int 0, .ref G.2.2.2.2, .int 0]), .inr (6, [.int 0, .ref G.2.2.2.2, .int 0]), .inr (2, [.ref (G.1 + 1), .ref (G.1 + 7), .ref (G.1 + 8), .int 0, .int 0]), .inl (G.2.2.1 0, 4096, .inl (fun _ => 0)), .inl (G.2.2.1 0, 4096, .inl (fun _ => 0)), .inl (G.2.2.1 0, 5, .inl (fun _ => 0)), .inl (G.2.2.1 0, 6, .inl (fun _ => 0)), .inl (G.2.2.1 0, 4, .inl fU), .inl (G.2.2.1 0, 4, .inl (fun _ => 0))] ∧ (∀ s, s < 64 → fA s = nI s) ∧ ∀ s, s < 4 → fU s = -1) := by
  refine aw_aload_n dd_ra_init_0 rfl 0 rfl ?_
  refine aw_obj dd_ra_init_1 ob_ra_3 (Nat.le_of_ble_eq_true rfl) (Nat.le_of_ble_eq_true rfl) ?_
  refine aw_aload_n dd_ra_init_4 rfl 0 rfl ?_
  refine aw_new 1 5 (kc' := 11) (ks' := 8289) (fs := [.int 0, .null, .null, .null, .null]) dd_ra_init_5 nl_ra_9 (by decide) rfl rfl ?_
  refine aw_h (h' := [.inr (0, [.null, .null, .null, .null, .null, .null, .int 0]), .inr (1, [.int 0, .null, .null, .null, .null])]) rfl ?_
  refine aw_dup dd_ra_init_8 rfl ?_
  refine aw_cIf mm_po_init 7 8216 _ [] _ (wc_po_init G (.inr (0, [.null, .null, .null, .null, .null, .null, .int 0]))) dd_ra_init_9 ci_ra_11 my_po_init np_po_init rfl (by decide) rfl rfl (Nat.le_of_ble_eq_true rfl) (Nat.le_of_ble_eq_true rfl) (fun h9 hq => ?_)
  obtain ⟨fA, rfl, hfA⟩ := hq
  refine aw_putF _ 0 0 dd_ra_init_12 fl_ra_12 ff_ra_0 rfl rfl (rfl) (rfl) (Nat.le_of_ble_eq_true rfl) ?_
  refine aw_h (h' := [.inr (0, [.ref (G.1 + 1), .null, .null, .null, .null, .null, .int 0]), .inr (1, [.int 0, .ref (G.1 + 2), .ref (G.1 + 3), .ref (G.1 + 4), .ref (G.1 + 5)]), .inl (G.2.2.1 0, 64, .inl fA), .inr (6, [.int 0, .ref G.2.2.2.2, .int 0]), .inr (6, [.int 0, .ref G.2.2.2.2, .int 0]), .inr (6, [.int 0, .ref G.2.2.2.2, .int 0])]) rfl ?_
  refine aw_aload_n dd_ra_init_15 rfl 0 rfl ?_
  refine aw_new 2 5 (kc' := 6) (ks' := 8211) (fs := [.null, .null, .null, .int 0, .int 0]) dd_ra_init_16 nl_ra_16 (by decide) rfl rfl ?_
  refine aw_h (h' := [.inr (0, [.ref (G.1 + 1), .null, .null, .null, .null, .null, .int 0]), .inr (1, [.int 0, .ref (G.1 + 2), .ref (G.1 + 3), .ref (G.1 + 4), .ref (G.1 + 5)]), .inl (G.2.2.1 0, 64, .inl fA), .inr (6, [.int 0, .ref G.2.2.2.2, .int 0]), .inr (6, [.int 0, .ref G.2.2.2.2, .int 0]), .inr (6, [.int 0, .ref G.2.2.2.2, .int 0]), .inr (2, [.null, .null, .null, .int 0, .int 0])]) rfl ?_
  refine aw_dup dd_ra_init_19 rfl ?_
  refine aw_aload_n dd_ra_init_20 rfl 0 rfl ?_
  refine aw_getf _ 0 0 dd_ra_init_21 fl_ra_12 rfl rfl ?_
  refine aw_cIv mm_se_init 4 19 _ [_] _ (wc_se_init G (.inr (0, [.ref (G.1 + 1), .null, .null, .null, .null, .null, .int 0])) (.inr (1, [.int 0, .ref (G.1 + 2), .ref (G.1 + 3), .ref (G.1 + 4), .ref (G.1 + 5)])) (.inl (G.2.2.1 0, 64, .inl fA)) (.inr (6, [.int 0, .ref G.2.2.2.2, .int 0])) (.inr (6, [.int 0, .ref G.2.2.2.2, .int 0])) (.inr (6, [.int 0, .ref G.2.2.2.2, .int 0]))) dd_ra_init_24 ci_ra_18 my_se_init np_se_init rfl (by decide) rfl rfl (Nat.le_of_ble_eq_true rfl) (Nat.le_of_ble_eq_true rfl) ?_
  refine aw_putF _ 0 1 dd_ra_init_27 fl_ra_21 ff_ra_1 rfl rfl (rfl) (rfl) (Nat.le_of_ble_eq_true rfl) ?_
  refine aw_h (h' := [.inr (0, [.ref (G.1 + 1), .ref (G.1 + 6), .null, .null, .null, .null, .int 0]), .inr (1, [.int 0, .ref (G.1 + 2), .ref (G.1 + 3), .ref (G.1 + 4), .ref (G.1 + 5)]), .inl (G.2.2.1 0, 64, .inl fA), .inr (6, [.int 0, .ref G.2.2.2.2, .int 0]), .inr (6, [.int 0, .ref G.2.2.2.2, .int 0]), .inr (6, [.int 0, .ref G.2.2.2.2, .int 0]), .inr (2, [.ref (G.1 + 1), .ref (G.1 + 7), .ref (G.1 + 8), .int 0, .int 0]), .inl (G.2.2.1 0, 4096, .inl (fun _ => 0)), .inl (G.2.2.1 0, 4096, .inl (fun _ => 0))]) rfl ?_
  refine aw_aload_n dd_ra_init_30 rfl 0 rfl ?_
  refine aw_iconst (v := 5) dd_ra_init_31 (by decide) ?_
  refine aw_newi (N := 5) (kc' := 3) (ks' := 14) dd_ra_init_32 ac_int (by decide) (by decide) (by decide) rfl rfl ?_
  refine aw_putF _ 0 2 dd_ra_init_34 fl_ra_25 ff_ra_2 rfl rfl (rfl) (rfl) (Nat.le_of_ble_eq_true rfl) ?_
  refine aw_h (h' := [.inr (0, [.ref (G.1 + 1), .ref (G.1 + 6), .ref (G.1 + 9), .null, .null, .null, .int 0]), .inr (1, [.int 0, .ref (G.1 + 2), .ref (G.1 + 3), .ref (G.1 + 4), .ref (G.1 + 5)]), .inl (G.2.2.1 0, 64, .inl fA), .inr (6, [.int 0, .ref G.2.2.2.2, .int 0]), .inr (6, [.int 0, .ref G.2.2.2.2, .int 0]), .inr (6, [.int 0, .ref G.2.2.2.2, .int 0]), .inr (2, [.ref (G.1 + 1), .ref (G.1 + 7), .ref (G.1 + 8), .int 0, .int 0]), .inl (G.2.2.1 0, 4096, .inl (fun _ => 0)), .inl (G.2.2.1 0, 4096, .inl (fun _ => 0)), .inl (G.2.2.1 0, 5, .inl (fun _ => 0))]) rfl ?_
  refine aw_aload_n dd_ra_init_37 rfl 0 rfl ?_
  refine aw_bipush (v := 6) dd_ra_init_38 (by decide) ?_
  refine aw_newi (N := 6) (kc' := 2) (ks' := 8) dd_ra_init_40 ac_int (by decide) (by decide) (by decide) rfl rfl ?_
  refine aw_putF _ 0 3 dd_ra_init_42 fl_ra_29 ff_ra_3 rfl rfl (rfl) (rfl) (Nat.le_of_ble_eq_true rfl) ?_
  refine aw_h (h' := [.inr (0, [.ref (G.1 + 1), .ref (G.1 + 6), .ref (G.1 + 9), .ref (G.1 + 10), .null, .null, .int 0]), .inr (1, [.int 0, .ref (G.1 + 2), .ref (G.1 + 3), .ref (G.1 + 4), .ref (G.1 + 5)]), .inl (G.2.2.1 0, 64, .inl fA), .inr (6, [.int 0, .ref G.2.2.2.2, .int 0]), .inr (6, [.int 0, .ref G.2.2.2.2, .int 0]), .inr (6, [.int 0, .ref G.2.2.2.2, .int 0]), .inr (2, [.ref (G.1 + 1), .ref (G.1 + 7), .ref (G.1 + 8), .int 0, .int 0]), .inl (G.2.2.1 0, 4096, .inl (fun _ => 0)), .inl (G.2.2.1 0, 4096, .inl (fun _ => 0)), .inl (G.2.2.1 0, 5, .inl (fun _ => 0)), .inl (G.2.2.1 0, 6, .inl (fun _ => 0))]) rfl ?_
  refine aw_aload_n dd_ra_init_45 rfl 0 rfl ?_
  refine aw_iconst (v := 4) dd_ra_init_46 (by decide) ?_
  refine aw_newi (N := 4) (kc' := 1) (ks' := 4) dd_ra_init_47 ac_int (by decide) (by decide) (by decide) rfl rfl ?_
  refine aw_putF _ 0 4 dd_ra_init_49 fl_ra_32 ff_ra_4 rfl rfl (rfl) (rfl) (Nat.le_of_ble_eq_true rfl) ?_
  refine aw_h (h' := [.inr (0, [.ref (G.1 + 1), .ref (G.1 + 6), .ref (G.1 + 9), .ref (G.1 + 10), .ref (G.1 + 11), .null, .int 0]), .inr (1, [.int 0, .ref (G.1 + 2), .ref (G.1 + 3), .ref (G.1 + 4), .ref (G.1 + 5)]), .inl (G.2.2.1 0, 64, .inl fA), .inr (6, [.int 0, .ref G.2.2.2.2, .int 0]), .inr (6, [.int 0, .ref G.2.2.2.2, .int 0]), .inr (6, [.int 0, .ref G.2.2.2.2, .int 0]), .inr (2, [.ref (G.1 + 1), .ref (G.1 + 7), .ref (G.1 + 8), .int 0, .int 0]), .inl (G.2.2.1 0, 4096, .inl (fun _ => 0)), .inl (G.2.2.1 0, 4096, .inl (fun _ => 0)), .inl (G.2.2.1 0, 5, .inl (fun _ => 0)), .inl (G.2.2.1 0, 6, .inl (fun _ => 0)), .inl (G.2.2.1 0, 4, .inl (fun _ => 0))]) rfl ?_
  refine aw_aload_n dd_ra_init_52 rfl 0 rfl ?_
  refine aw_iconst (v := 4) dd_ra_init_53 (by decide) ?_
  refine aw_newi (N := 4) (kc' := 0) (ks' := 0) dd_ra_init_54 ac_int (by decide) (by decide) (by decide) rfl rfl ?_
  refine aw_putF _ 0 5 dd_ra_init_56 fl_ra_35 ff_ra_5 rfl rfl (rfl) (rfl) (Nat.le_of_ble_eq_true rfl) ?_
  refine aw_h (h' := [.inr (0, [.ref (G.1 + 1), .ref (G.1 + 6), .ref (G.1 + 9), .ref (G.1 + 10), .ref (G.1 + 11), .ref (G.1 + 12), .int 0]), .inr (1, [.int 0, .ref (G.1 + 2), .ref (G.1 + 3), .ref (G.1 + 4), .ref (G.1 + 5)]), .inl (G.2.2.1 0, 64, .inl fA), .inr (6, [.int 0, .ref G.2.2.2.2, .int 0]), .inr (6, [.int 0, .ref G.2.2.2.2, .int 0]), .inr (6, [.int 0, .ref G.2.2.2.2, .int 0]), .inr (2, [.ref (G.1 + 1), .ref (G.1 + 7), .ref (G.1 + 8), .int 0, .int 0]), .inl (G.2.2.1 0, 4096, .inl (fun _ => 0)), .inl (G.2.2.1 0, 4096, .inl (fun _ => 0)), .inl (G.2.2.1 0, 5, .inl (fun _ => 0)), .inl (G.2.2.1 0, 6, .inl (fun _ => 0)), .inl (G.2.2.1 0, 4, .inl (fun _ => 0)), .inl (G.2.2.1 0, 4, .inl (fun _ => 0))]) rfl ?_
  refine aw_aload_n dd_ra_init_59 rfl 0 rfl ?_
  refine aw_getf _ 0 4 dd_ra_init_60 fl_ra_32 rfl rfl ?_
  refine aw_iconst (v := (-1)) dd_ra_init_63 (by decide) ?_
  refine aw_cSf mm_ar_fill 0 0 [_, _] _ (wc_ar_fill G _ (i := 11) (n := 4) (f0 := (fun _ => 0)) (by decide) rfl) dd_ra_init_64 cs_ra_38 my_ar_fill np_ar_fill rfl (by decide) rfl rfl (Nat.le_of_ble_eq_true rfl) (Nat.le_of_ble_eq_true rfl) (fun h9 hq => ?_)
  obtain ⟨fU, rfl, hfU⟩ := hq
  exact aw_vret dd_ra_init_67 rfl ⟨rfl, fA, fU, rfl, hfA, hfU⟩
theorem wc_mo_init (G : ag_T) (c0 c1 c2 c3 c4 c5 c6 c7 c8 c9 c10 c11 c12 : va_E) : aw_w G mm_mo_init 1 24 18 12381 0 (lv_args 0 [.ref (G.1 + 13)]) [] [c0, c1, c2, c3, c4, c5, c6, c7, c8, c9, c10, c11, c12, .inr (5, [.int 0, .int 0, .int 0, .null, .null, .null, .null, .null, .null, .null, .null, .null, .null, .int 0, .null, .null, .null, .null, .null, .null, .null, .null, .int 0, .int 0])] (q_v [c0, c1, c2, c3, c4, c5, c6, c7, c8, c9, c10, c11, c12, .inr (5, [.int 0, .int 0, .int 0, .ref (G.1 + 14), .ref (G.1 + 15), .ref (G.1 + 16), .ref (G.1 + 17), .ref (G.1 + 18), .ref (G.1 + 19), .ref (G.1 + 20), .ref (G.1 + 21), .ref (G.1 + 22), .ref (G.1 + 23), .int 0, .ref (G.1 + 24), .ref (G.1 + 25), .ref (G.1 + 26), .ref (G.1 + 27), .ref (G.1 + 28), .ref (G.1 + 29), .ref (G.1 + 30), .ref (G.1 + 31), .int 0, .int 0]), .inl (G.2.2.1 0, 6, .inl (fun _ => 0)), .inl (G.2.2.1 0, 6, .inl (fun _ => 0)), .inl (G.2.2.1 0, 6, .inl (fun _ => 0)), .inl (G.2.2.1 0, 5, .inl (fun _ => 0)), .inl (G.2.2.1 0, 2, .inl (fun _ => 0)), .inl (G.2.2.1 0, 8, .inl (fun _ => 0)), .inl (G.2.2.1 0, 8, .inl (fun _ => 0)), .inl (G.2.2.1 1, 4, .inl (fun _ => 0)), .inl (G.2.2.1 0, 4, .inl (fun _ => 0)), .inl (G.2.2.1 0, 4, .inl (fun _ => 0)), .inl (G.2.2.1 1, 8, .inl (fun _ => 0)), .inl (G.2.2.1 0, 8, .inl (fun _ => 0)), .inl (G.2.2.1 0, 8, .inl (fun _ => 0)), .inl (G.2.2.1 0, 8, .inl (fun _ => 0)), .inl (G.2.2.1 0, 8, .inl (fun _ => 0)), .inl (G.2.2.1 0, 4096, .inl (fun _ => 0)), .inl (G.2.2.1 1, 4096, .inl (fun _ => 0)), .inl (G.2.2.1 0, 4096, .inl (fun _ => 0))]) := by
  refine aw_aload_n dd_mo_init_0 rfl 0 rfl ?_
  refine aw_obj dd_mo_init_1 ob_mo_1 (Nat.le_of_ble_eq_true rfl) (Nat.le_of_ble_eq_true rfl) ?_
  refine aw_aload_n dd_mo_init_4 rfl 0 rfl ?_
  refine aw_bipush (v := 6) dd_mo_init_5 (by decide) ?_
  refine aw_newi (N := 6) (kc' := 17) (ks' := 12375) dd_mo_init_7 ac_int (by decide) (by decide) (by decide) rfl rfl ?_
  refine aw_putF _ 5 3 dd_mo_init_9 fl_mo_7 ff_mo_3 rfl rfl (rfl) (rfl) (Nat.le_of_ble_eq_true rfl) ?_
  refine aw_h (h' := [c0, c1, c2, c3, c4, c5, c6, c7, c8, c9, c10, c11, c12, .inr (5, [.int 0, .int 0, .int 0, .ref (G.1 + 14), .null, .null, .null, .null, .null, .null, .null, .null, .null, .int 0, .null, .null, .null, .null, .null, .null, .null, .null, .int 0, .int 0]), .inl (G.2.2.1 0, 6, .inl (fun _ => 0))]) rfl ?_
  refine aw_aload_n dd_mo_init_12 rfl 0 rfl ?_
  refine aw_bipush (v := 6) dd_mo_init_13 (by decide) ?_
  refine aw_newi (N := 6) (kc' := 16) (ks' := 12369) dd_mo_init_15 ac_int (by decide) (by decide) (by decide) rfl rfl ?_
  refine aw_putF _ 5 4 dd_mo_init_17 fl_mo_13 ff_mo_4 rfl rfl (rfl) (rfl) (Nat.le_of_ble_eq_true rfl) ?_
  refine aw_h (h' := [c0, c1, c2, c3, c4, c5, c6, c7, c8, c9, c10, c11, c12, .inr (5, [.int 0, .int 0, .int 0, .ref (G.1 + 14), .ref (G.1 + 15), .null, .null, .null, .null, .null, .null, .null, .null, .int 0, .null, .null, .null, .null, .null, .null, .null, .null, .int 0, .int 0]), .inl (G.2.2.1 0, 6, .inl (fun _ => 0)), .inl (G.2.2.1 0, 6, .inl (fun _ => 0))]) rfl ?_
  refine aw_aload_n dd_mo_init_20 rfl 0 rfl ?_
  refine aw_bipush (v := 6) dd_mo_init_21 (by decide) ?_
  refine aw_newi (N := 6) (kc' := 15) (ks' := 12363) dd_mo_init_23 ac_int (by decide) (by decide) (by decide) rfl rfl ?_
  refine aw_putF _ 5 5 dd_mo_init_25 fl_mo_16 ff_mo_5 rfl rfl (rfl) (rfl) (Nat.le_of_ble_eq_true rfl) ?_
  refine aw_h (h' := [c0, c1, c2, c3, c4, c5, c6, c7, c8, c9, c10, c11, c12, .inr (5, [.int 0, .int 0, .int 0, .ref (G.1 + 14), .ref (G.1 + 15), .ref (G.1 + 16), .null, .null, .null, .null, .null, .null, .null, .int 0, .null, .null, .null, .null, .null, .null, .null, .null, .int 0, .int 0]), .inl (G.2.2.1 0, 6, .inl (fun _ => 0)), .inl (G.2.2.1 0, 6, .inl (fun _ => 0)), .inl (G.2.2.1 0, 6, .inl (fun _ => 0))]) rfl ?_
  refine aw_aload_n dd_mo_init_28 rfl 0 rfl ?_
  refine aw_iconst (v := 5) dd_mo_init_29 (by decide) ?_
  refine aw_newi (N := 5) (kc' := 14) (ks' := 12358) dd_mo_init_30 ac_int (by decide) (by decide) (by decide) rfl rfl ?_
  refine aw_putF _ 5 6 dd_mo_init_32 fl_mo_19 ff_mo_6 rfl rfl (rfl) (rfl) (Nat.le_of_ble_eq_true rfl) ?_
  refine aw_h (h' := [c0, c1, c2, c3, c4, c5, c6, c7, c8, c9, c10, c11, c12, .inr (5, [.int 0, .int 0, .int 0, .ref (G.1 + 14), .ref (G.1 + 15), .ref (G.1 + 16), .ref (G.1 + 17), .null, .null, .null, .null, .null, .null, .int 0, .null, .null, .null, .null, .null, .null, .null, .null, .int 0, .int 0]), .inl (G.2.2.1 0, 6, .inl (fun _ => 0)), .inl (G.2.2.1 0, 6, .inl (fun _ => 0)), .inl (G.2.2.1 0, 6, .inl (fun _ => 0)), .inl (G.2.2.1 0, 5, .inl (fun _ => 0))]) rfl ?_
  refine aw_aload_n dd_mo_init_35 rfl 0 rfl ?_
  refine aw_iconst (v := 2) dd_mo_init_36 (by decide) ?_
  refine aw_newi (N := 2) (kc' := 13) (ks' := 12356) dd_mo_init_37 ac_int (by decide) (by decide) (by decide) rfl rfl ?_
  refine aw_putF _ 5 7 dd_mo_init_39 fl_mo_22 ff_mo_7 rfl rfl (rfl) (rfl) (Nat.le_of_ble_eq_true rfl) ?_
  refine aw_h (h' := [c0, c1, c2, c3, c4, c5, c6, c7, c8, c9, c10, c11, c12, .inr (5, [.int 0, .int 0, .int 0, .ref (G.1 + 14), .ref (G.1 + 15), .ref (G.1 + 16), .ref (G.1 + 17), .ref (G.1 + 18), .null, .null, .null, .null, .null, .int 0, .null, .null, .null, .null, .null, .null, .null, .null, .int 0, .int 0]), .inl (G.2.2.1 0, 6, .inl (fun _ => 0)), .inl (G.2.2.1 0, 6, .inl (fun _ => 0)), .inl (G.2.2.1 0, 6, .inl (fun _ => 0)), .inl (G.2.2.1 0, 5, .inl (fun _ => 0)), .inl (G.2.2.1 0, 2, .inl (fun _ => 0))]) rfl ?_
  refine aw_aload_n dd_mo_init_42 rfl 0 rfl ?_
  refine aw_bipush (v := 8) dd_mo_init_43 (by decide) ?_
  refine aw_newi (N := 8) (kc' := 12) (ks' := 12348) dd_mo_init_45 ac_int (by decide) (by decide) (by decide) rfl rfl ?_
  refine aw_putF _ 5 8 dd_mo_init_47 fl_mo_25 ff_mo_8 rfl rfl (rfl) (rfl) (Nat.le_of_ble_eq_true rfl) ?_
  refine aw_h (h' := [c0, c1, c2, c3, c4, c5, c6, c7, c8, c9, c10, c11, c12, .inr (5, [.int 0, .int 0, .int 0, .ref (G.1 + 14), .ref (G.1 + 15), .ref (G.1 + 16), .ref (G.1 + 17), .ref (G.1 + 18), .ref (G.1 + 19), .null, .null, .null, .null, .int 0, .null, .null, .null, .null, .null, .null, .null, .null, .int 0, .int 0]), .inl (G.2.2.1 0, 6, .inl (fun _ => 0)), .inl (G.2.2.1 0, 6, .inl (fun _ => 0)), .inl (G.2.2.1 0, 6, .inl (fun _ => 0)), .inl (G.2.2.1 0, 5, .inl (fun _ => 0)), .inl (G.2.2.1 0, 2, .inl (fun _ => 0)), .inl (G.2.2.1 0, 8, .inl (fun _ => 0))]) rfl ?_
  refine aw_aload_n dd_mo_init_50 rfl 0 rfl ?_
  refine aw_bipush (v := 8) dd_mo_init_51 (by decide) ?_
  refine aw_newi (N := 8) (kc' := 11) (ks' := 12340) dd_mo_init_53 ac_int (by decide) (by decide) (by decide) rfl rfl ?_
  refine aw_putF _ 5 9 dd_mo_init_55 fl_mo_28 ff_mo_9 rfl rfl (rfl) (rfl) (Nat.le_of_ble_eq_true rfl) ?_
  refine aw_h (h' := [c0, c1, c2, c3, c4, c5, c6, c7, c8, c9, c10, c11, c12, .inr (5, [.int 0, .int 0, .int 0, .ref (G.1 + 14), .ref (G.1 + 15), .ref (G.1 + 16), .ref (G.1 + 17), .ref (G.1 + 18), .ref (G.1 + 19), .ref (G.1 + 20), .null, .null, .null, .int 0, .null, .null, .null, .null, .null, .null, .null, .null, .int 0, .int 0]), .inl (G.2.2.1 0, 6, .inl (fun _ => 0)), .inl (G.2.2.1 0, 6, .inl (fun _ => 0)), .inl (G.2.2.1 0, 6, .inl (fun _ => 0)), .inl (G.2.2.1 0, 5, .inl (fun _ => 0)), .inl (G.2.2.1 0, 2, .inl (fun _ => 0)), .inl (G.2.2.1 0, 8, .inl (fun _ => 0)), .inl (G.2.2.1 0, 8, .inl (fun _ => 0))]) rfl ?_
  refine aw_aload_n dd_mo_init_58 rfl 0 rfl ?_
  refine aw_iconst (v := 4) dd_mo_init_59 (by decide) ?_
  refine aw_newz (N := 4) (kc' := 10) (ks' := 12336) dd_mo_init_60 ac_bool (by decide) (by decide) (by decide) rfl rfl ?_
  refine aw_putF _ 5 10 dd_mo_init_62 fl_mo_31 ff_mo_10 rfl rfl (rfl) (rfl) (Nat.le_of_ble_eq_true rfl) ?_
  refine aw_h (h' := [c0, c1, c2, c3, c4, c5, c6, c7, c8, c9, c10, c11, c12, .inr (5, [.int 0, .int 0, .int 0, .ref (G.1 + 14), .ref (G.1 + 15), .ref (G.1 + 16), .ref (G.1 + 17), .ref (G.1 + 18), .ref (G.1 + 19), .ref (G.1 + 20), .ref (G.1 + 21), .null, .null, .int 0, .null, .null, .null, .null, .null, .null, .null, .null, .int 0, .int 0]), .inl (G.2.2.1 0, 6, .inl (fun _ => 0)), .inl (G.2.2.1 0, 6, .inl (fun _ => 0)), .inl (G.2.2.1 0, 6, .inl (fun _ => 0)), .inl (G.2.2.1 0, 5, .inl (fun _ => 0)), .inl (G.2.2.1 0, 2, .inl (fun _ => 0)), .inl (G.2.2.1 0, 8, .inl (fun _ => 0)), .inl (G.2.2.1 0, 8, .inl (fun _ => 0)), .inl (G.2.2.1 1, 4, .inl (fun _ => 0))]) rfl ?_
  refine aw_aload_n dd_mo_init_65 rfl 0 rfl ?_
  refine aw_iconst (v := 4) dd_mo_init_66 (by decide) ?_
  refine aw_newi (N := 4) (kc' := 9) (ks' := 12332) dd_mo_init_67 ac_int (by decide) (by decide) (by decide) rfl rfl ?_
  refine aw_putF _ 5 11 dd_mo_init_69 fl_mo_35 ff_mo_11 rfl rfl (rfl) (rfl) (Nat.le_of_ble_eq_true rfl) ?_
  refine aw_h (h' := [c0, c1, c2, c3, c4, c5, c6, c7, c8, c9, c10, c11, c12, .inr (5, [.int 0, .int 0, .int 0, .ref (G.1 + 14), .ref (G.1 + 15), .ref (G.1 + 16), .ref (G.1 + 17), .ref (G.1 + 18), .ref (G.1 + 19), .ref (G.1 + 20), .ref (G.1 + 21), .ref (G.1 + 22), .null, .int 0, .null, .null, .null, .null, .null, .null, .null, .null, .int 0, .int 0]), .inl (G.2.2.1 0, 6, .inl (fun _ => 0)), .inl (G.2.2.1 0, 6, .inl (fun _ => 0)), .inl (G.2.2.1 0, 6, .inl (fun _ => 0)), .inl (G.2.2.1 0, 5, .inl (fun _ => 0)), .inl (G.2.2.1 0, 2, .inl (fun _ => 0)), .inl (G.2.2.1 0, 8, .inl (fun _ => 0)), .inl (G.2.2.1 0, 8, .inl (fun _ => 0)), .inl (G.2.2.1 1, 4, .inl (fun _ => 0)), .inl (G.2.2.1 0, 4, .inl (fun _ => 0))]) rfl ?_
  refine aw_aload_n dd_mo_init_72 rfl 0 rfl ?_
  refine aw_iconst (v := 4) dd_mo_init_73 (by decide) ?_
  refine aw_newi (N := 4) (kc' := 8) (ks' := 12328) dd_mo_init_74 ac_int (by decide) (by decide) (by decide) rfl rfl ?_
  refine aw_putF _ 5 12 dd_mo_init_76 fl_mo_38 ff_mo_12 rfl rfl (rfl) (rfl) (Nat.le_of_ble_eq_true rfl) ?_
  refine aw_h (h' := [c0, c1, c2, c3, c4, c5, c6, c7, c8, c9, c10, c11, c12, .inr (5, [.int 0, .int 0, .int 0, .ref (G.1 + 14), .ref (G.1 + 15), .ref (G.1 + 16), .ref (G.1 + 17), .ref (G.1 + 18), .ref (G.1 + 19), .ref (G.1 + 20), .ref (G.1 + 21), .ref (G.1 + 22), .ref (G.1 + 23), .int 0, .null, .null, .null, .null, .null, .null, .null, .null, .int 0, .int 0]), .inl (G.2.2.1 0, 6, .inl (fun _ => 0)), .inl (G.2.2.1 0, 6, .inl (fun _ => 0)), .inl (G.2.2.1 0, 6, .inl (fun _ => 0)), .inl (G.2.2.1 0, 5, .inl (fun _ => 0)), .inl (G.2.2.1 0, 2, .inl (fun _ => 0)), .inl (G.2.2.1 0, 8, .inl (fun _ => 0)), .inl (G.2.2.1 0, 8, .inl (fun _ => 0)), .inl (G.2.2.1 1, 4, .inl (fun _ => 0)), .inl (G.2.2.1 0, 4, .inl (fun _ => 0)), .inl (G.2.2.1 0, 4, .inl (fun _ => 0))]) rfl ?_
  refine aw_aload_n dd_mo_init_79 rfl 0 rfl ?_
  refine aw_bipush (v := 8) dd_mo_init_80 (by decide) ?_
  refine aw_newz (N := 8) (kc' := 7) (ks' := 12320) dd_mo_init_82 ac_bool (by decide) (by decide) (by decide) rfl rfl ?_
  refine aw_putF _ 5 14 dd_mo_init_84 fl_mo_41 ff_mo_14 rfl rfl (rfl) (rfl) (Nat.le_of_ble_eq_true rfl) ?_
  refine aw_h (h' := [c0, c1, c2, c3, c4, c5, c6, c7, c8, c9, c10, c11, c12, .inr (5, [.int 0, .int 0, .int 0, .ref (G.1 + 14), .ref (G.1 + 15), .ref (G.1 + 16), .ref (G.1 + 17), .ref (G.1 + 18), .ref (G.1 + 19), .ref (G.1 + 20), .ref (G.1 + 21), .ref (G.1 + 22), .ref (G.1 + 23), .int 0, .ref (G.1 + 24), .null, .null, .null, .null, .null, .null, .null, .int 0, .int 0]), .inl (G.2.2.1 0, 6, .inl (fun _ => 0)), .inl (G.2.2.1 0, 6, .inl (fun _ => 0)), .inl (G.2.2.1 0, 6, .inl (fun _ => 0)), .inl (G.2.2.1 0, 5, .inl (fun _ => 0)), .inl (G.2.2.1 0, 2, .inl (fun _ => 0)), .inl (G.2.2.1 0, 8, .inl (fun _ => 0)), .inl (G.2.2.1 0, 8, .inl (fun _ => 0)), .inl (G.2.2.1 1, 4, .inl (fun _ => 0)), .inl (G.2.2.1 0, 4, .inl (fun _ => 0)), .inl (G.2.2.1 0, 4, .inl (fun _ => 0)), .inl (G.2.2.1 1, 8, .inl (fun _ => 0))]) rfl ?_
  refine aw_aload_n dd_mo_init_87 rfl 0 rfl ?_
  refine aw_bipush (v := 8) dd_mo_init_88 (by decide) ?_
  refine aw_newi (N := 8) (kc' := 6) (ks' := 12312) dd_mo_init_90 ac_int (by decide) (by decide) (by decide) rfl rfl ?_
  refine aw_putF _ 5 15 dd_mo_init_92 fl_mo_44 ff_mo_15 rfl rfl (rfl) (rfl) (Nat.le_of_ble_eq_true rfl) ?_
  refine aw_h (h' := [c0, c1, c2, c3, c4, c5, c6, c7, c8, c9, c10, c11, c12, .inr (5, [.int 0, .int 0, .int 0, .ref (G.1 + 14), .ref (G.1 + 15), .ref (G.1 + 16), .ref (G.1 + 17), .ref (G.1 + 18), .ref (G.1 + 19), .ref (G.1 + 20), .ref (G.1 + 21), .ref (G.1 + 22), .ref (G.1 + 23), .int 0, .ref (G.1 + 24), .ref (G.1 + 25), .null, .null, .null, .null, .null, .null, .int 0, .int 0]), .inl (G.2.2.1 0, 6, .inl (fun _ => 0)), .inl (G.2.2.1 0, 6, .inl (fun _ => 0)), .inl (G.2.2.1 0, 6, .inl (fun _ => 0)), .inl (G.2.2.1 0, 5, .inl (fun _ => 0)), .inl (G.2.2.1 0, 2, .inl (fun _ => 0)), .inl (G.2.2.1 0, 8, .inl (fun _ => 0)), .inl (G.2.2.1 0, 8, .inl (fun _ => 0)), .inl (G.2.2.1 1, 4, .inl (fun _ => 0)), .inl (G.2.2.1 0, 4, .inl (fun _ => 0)), .inl (G.2.2.1 0, 4, .inl (fun _ => 0)), .inl (G.2.2.1 1, 8, .inl (fun _ => 0)), .inl (G.2.2.1 0, 8, .inl (fun _ => 0))]) rfl ?_
  refine aw_aload_n dd_mo_init_95 rfl 0 rfl ?_
  refine aw_bipush (v := 8) dd_mo_init_96 (by decide) ?_
  refine aw_newi (N := 8) (kc' := 5) (ks' := 12304) dd_mo_init_98 ac_int (by decide) (by decide) (by decide) rfl rfl ?_
  refine aw_putF _ 5 16 dd_mo_init_100 fl_mo_47 ff_mo_16 rfl rfl (rfl) (rfl) (Nat.le_of_ble_eq_true rfl) ?_
  refine aw_h (h' := [c0, c1, c2, c3, c4, c5, c6, c7, c8, c9, c10, c11, c12, .inr (5, [.int 0, .int 0, .int 0, .ref (G.1 + 14), .ref (G.1 + 15), .ref (G.1 + 16), .ref (G.1 + 17), .ref (G.1 + 18), .ref (G.1 + 19), .ref (G.1 + 20), .ref (G.1 + 21), .ref (G.1 + 22), .ref (G.1 + 23), .int 0, .ref (G.1 + 24), .ref (G.1 + 25), .ref (G.1 + 26), .null, .null, .null, .null, .null, .int 0, .int 0]), .inl (G.2.2.1 0, 6, .inl (fun _ => 0)), .inl (G.2.2.1 0, 6, .inl (fun _ => 0)), .inl (G.2.2.1 0, 6, .inl (fun _ => 0)), .inl (G.2.2.1 0, 5, .inl (fun _ => 0)), .inl (G.2.2.1 0, 2, .inl (fun _ => 0)), .inl (G.2.2.1 0, 8, .inl (fun _ => 0)), .inl (G.2.2.1 0, 8, .inl (fun _ => 0)), .inl (G.2.2.1 1, 4, .inl (fun _ => 0)), .inl (G.2.2.1 0, 4, .inl (fun _ => 0)), .inl (G.2.2.1 0, 4, .inl (fun _ => 0)), .inl (G.2.2.1 1, 8, .inl (fun _ => 0)), .inl (G.2.2.1 0, 8, .inl (fun _ => 0)), .inl (G.2.2.1 0, 8, .inl (fun _ => 0))]) rfl ?_
  refine aw_aload_n dd_mo_init_103 rfl 0 rfl ?_
  refine aw_bipush (v := 8) dd_mo_init_104 (by decide) ?_
  refine aw_newi (N := 8) (kc' := 4) (ks' := 12296) dd_mo_init_106 ac_int (by decide) (by decide) (by decide) rfl rfl ?_
  refine aw_putF _ 5 17 dd_mo_init_108 fl_mo_50 ff_mo_17 rfl rfl (rfl) (rfl) (Nat.le_of_ble_eq_true rfl) ?_
  refine aw_h (h' := [c0, c1, c2, c3, c4, c5, c6, c7, c8, c9, c10, c11, c12, .inr (5, [.int 0, .int 0, .int 0, .ref (G.1 + 14), .ref (G.1 + 15), .ref (G.1 + 16), .ref (G.1 + 17), .ref (G.1 + 18), .ref (G.1 + 19), .ref (G.1 + 20), .ref (G.1 + 21), .ref (G.1 + 22), .ref (G.1 + 23), .int 0, .ref (G.1 + 24), .ref (G.1 + 25), .ref (G.1 + 26), .ref (G.1 + 27), .null, .null, .null, .null, .int 0, .int 0]), .inl (G.2.2.1 0, 6, .inl (fun _ => 0)), .inl (G.2.2.1 0, 6, .inl (fun _ => 0)), .inl (G.2.2.1 0, 6, .inl (fun _ => 0)), .inl (G.2.2.1 0, 5, .inl (fun _ => 0)), .inl (G.2.2.1 0, 2, .inl (fun _ => 0)), .inl (G.2.2.1 0, 8, .inl (fun _ => 0)), .inl (G.2.2.1 0, 8, .inl (fun _ => 0)), .inl (G.2.2.1 1, 4, .inl (fun _ => 0)), .inl (G.2.2.1 0, 4, .inl (fun _ => 0)), .inl (G.2.2.1 0, 4, .inl (fun _ => 0)), .inl (G.2.2.1 1, 8, .inl (fun _ => 0)), .inl (G.2.2.1 0, 8, .inl (fun _ => 0)), .inl (G.2.2.1 0, 8, .inl (fun _ => 0)), .inl (G.2.2.1 0, 8, .inl (fun _ => 0))]) rfl ?_
  refine aw_aload_n dd_mo_init_111 rfl 0 rfl ?_
  refine aw_bipush (v := 8) dd_mo_init_112 (by decide) ?_
  refine aw_newi (N := 8) (kc' := 3) (ks' := 12288) dd_mo_init_114 ac_int (by decide) (by decide) (by decide) rfl rfl ?_
  refine aw_putF _ 5 18 dd_mo_init_116 fl_mo_53 ff_mo_18 rfl rfl (rfl) (rfl) (Nat.le_of_ble_eq_true rfl) ?_
  refine aw_h (h' := [c0, c1, c2, c3, c4, c5, c6, c7, c8, c9, c10, c11, c12, .inr (5, [.int 0, .int 0, .int 0, .ref (G.1 + 14), .ref (G.1 + 15), .ref (G.1 + 16), .ref (G.1 + 17), .ref (G.1 + 18), .ref (G.1 + 19), .ref (G.1 + 20), .ref (G.1 + 21), .ref (G.1 + 22), .ref (G.1 + 23), .int 0, .ref (G.1 + 24), .ref (G.1 + 25), .ref (G.1 + 26), .ref (G.1 + 27), .ref (G.1 + 28), .null, .null, .null, .int 0, .int 0]), .inl (G.2.2.1 0, 6, .inl (fun _ => 0)), .inl (G.2.2.1 0, 6, .inl (fun _ => 0)), .inl (G.2.2.1 0, 6, .inl (fun _ => 0)), .inl (G.2.2.1 0, 5, .inl (fun _ => 0)), .inl (G.2.2.1 0, 2, .inl (fun _ => 0)), .inl (G.2.2.1 0, 8, .inl (fun _ => 0)), .inl (G.2.2.1 0, 8, .inl (fun _ => 0)), .inl (G.2.2.1 1, 4, .inl (fun _ => 0)), .inl (G.2.2.1 0, 4, .inl (fun _ => 0)), .inl (G.2.2.1 0, 4, .inl (fun _ => 0)), .inl (G.2.2.1 1, 8, .inl (fun _ => 0)), .inl (G.2.2.1 0, 8, .inl (fun _ => 0)), .inl (G.2.2.1 0, 8, .inl (fun _ => 0)), .inl (G.2.2.1 0, 8, .inl (fun _ => 0)), .inl (G.2.2.1 0, 8, .inl (fun _ => 0))]) rfl ?_
  refine aw_aload_n dd_mo_init_119 rfl 0 rfl ?_
  refine aw_sipush (v := 4096) dd_mo_init_120 (by decide) ?_
  refine aw_newi (N := 4096) (kc' := 2) (ks' := 8192) dd_mo_init_123 ac_int (by decide) (by decide) (by decide) rfl rfl ?_
  refine aw_putF _ 5 19 dd_mo_init_125 fl_mo_56 ff_mo_19 rfl rfl (rfl) (rfl) (Nat.le_of_ble_eq_true rfl) ?_
  refine aw_h (h' := [c0, c1, c2, c3, c4, c5, c6, c7, c8, c9, c10, c11, c12, .inr (5, [.int 0, .int 0, .int 0, .ref (G.1 + 14), .ref (G.1 + 15), .ref (G.1 + 16), .ref (G.1 + 17), .ref (G.1 + 18), .ref (G.1 + 19), .ref (G.1 + 20), .ref (G.1 + 21), .ref (G.1 + 22), .ref (G.1 + 23), .int 0, .ref (G.1 + 24), .ref (G.1 + 25), .ref (G.1 + 26), .ref (G.1 + 27), .ref (G.1 + 28), .ref (G.1 + 29), .null, .null, .int 0, .int 0]), .inl (G.2.2.1 0, 6, .inl (fun _ => 0)), .inl (G.2.2.1 0, 6, .inl (fun _ => 0)), .inl (G.2.2.1 0, 6, .inl (fun _ => 0)), .inl (G.2.2.1 0, 5, .inl (fun _ => 0)), .inl (G.2.2.1 0, 2, .inl (fun _ => 0)), .inl (G.2.2.1 0, 8, .inl (fun _ => 0)), .inl (G.2.2.1 0, 8, .inl (fun _ => 0)), .inl (G.2.2.1 1, 4, .inl (fun _ => 0)), .inl (G.2.2.1 0, 4, .inl (fun _ => 0)), .inl (G.2.2.1 0, 4, .inl (fun _ => 0)), .inl (G.2.2.1 1, 8, .inl (fun _ => 0)), .inl (G.2.2.1 0, 8, .inl (fun _ => 0)), .inl (G.2.2.1 0, 8, .inl (fun _ => 0)), .inl (G.2.2.1 0, 8, .inl (fun _ => 0)), .inl (G.2.2.1 0, 8, .inl (fun _ => 0)), .inl (G.2.2.1 0, 4096, .inl (fun _ => 0))]) rfl ?_
  refine aw_aload_n dd_mo_init_128 rfl 0 rfl ?_
  refine aw_sipush (v := 4096) dd_mo_init_129 (by decide) ?_
  refine aw_newz (N := 4096) (kc' := 1) (ks' := 4096) dd_mo_init_132 ac_bool (by decide) (by decide) (by decide) rfl rfl ?_
  refine aw_putF _ 5 20 dd_mo_init_134 fl_mo_59 ff_mo_20 rfl rfl (rfl) (rfl) (Nat.le_of_ble_eq_true rfl) ?_
  refine aw_h (h' := [c0, c1, c2, c3, c4, c5, c6, c7, c8, c9, c10, c11, c12, .inr (5, [.int 0, .int 0, .int 0, .ref (G.1 + 14), .ref (G.1 + 15), .ref (G.1 + 16), .ref (G.1 + 17), .ref (G.1 + 18), .ref (G.1 + 19), .ref (G.1 + 20), .ref (G.1 + 21), .ref (G.1 + 22), .ref (G.1 + 23), .int 0, .ref (G.1 + 24), .ref (G.1 + 25), .ref (G.1 + 26), .ref (G.1 + 27), .ref (G.1 + 28), .ref (G.1 + 29), .ref (G.1 + 30), .null, .int 0, .int 0]), .inl (G.2.2.1 0, 6, .inl (fun _ => 0)), .inl (G.2.2.1 0, 6, .inl (fun _ => 0)), .inl (G.2.2.1 0, 6, .inl (fun _ => 0)), .inl (G.2.2.1 0, 5, .inl (fun _ => 0)), .inl (G.2.2.1 0, 2, .inl (fun _ => 0)), .inl (G.2.2.1 0, 8, .inl (fun _ => 0)), .inl (G.2.2.1 0, 8, .inl (fun _ => 0)), .inl (G.2.2.1 1, 4, .inl (fun _ => 0)), .inl (G.2.2.1 0, 4, .inl (fun _ => 0)), .inl (G.2.2.1 0, 4, .inl (fun _ => 0)), .inl (G.2.2.1 1, 8, .inl (fun _ => 0)), .inl (G.2.2.1 0, 8, .inl (fun _ => 0)), .inl (G.2.2.1 0, 8, .inl (fun _ => 0)), .inl (G.2.2.1 0, 8, .inl (fun _ => 0)), .inl (G.2.2.1 0, 8, .inl (fun _ => 0)), .inl (G.2.2.1 0, 4096, .inl (fun _ => 0)), .inl (G.2.2.1 1, 4096, .inl (fun _ => 0))]) rfl ?_
  refine aw_aload_n dd_mo_init_137 rfl 0 rfl ?_
  refine aw_sipush (v := 4096) dd_mo_init_138 (by decide) ?_
  refine aw_newi (N := 4096) (kc' := 0) (ks' := 0) dd_mo_init_141 ac_int (by decide) (by decide) (by decide) rfl rfl ?_
  refine aw_putF _ 5 21 dd_mo_init_143 fl_mo_62 ff_mo_21 rfl rfl (rfl) (rfl) (Nat.le_of_ble_eq_true rfl) ?_
  refine aw_h (h' := [c0, c1, c2, c3, c4, c5, c6, c7, c8, c9, c10, c11, c12, .inr (5, [.int 0, .int 0, .int 0, .ref (G.1 + 14), .ref (G.1 + 15), .ref (G.1 + 16), .ref (G.1 + 17), .ref (G.1 + 18), .ref (G.1 + 19), .ref (G.1 + 20), .ref (G.1 + 21), .ref (G.1 + 22), .ref (G.1 + 23), .int 0, .ref (G.1 + 24), .ref (G.1 + 25), .ref (G.1 + 26), .ref (G.1 + 27), .ref (G.1 + 28), .ref (G.1 + 29), .ref (G.1 + 30), .ref (G.1 + 31), .int 0, .int 0]), .inl (G.2.2.1 0, 6, .inl (fun _ => 0)), .inl (G.2.2.1 0, 6, .inl (fun _ => 0)), .inl (G.2.2.1 0, 6, .inl (fun _ => 0)), .inl (G.2.2.1 0, 5, .inl (fun _ => 0)), .inl (G.2.2.1 0, 2, .inl (fun _ => 0)), .inl (G.2.2.1 0, 8, .inl (fun _ => 0)), .inl (G.2.2.1 0, 8, .inl (fun _ => 0)), .inl (G.2.2.1 1, 4, .inl (fun _ => 0)), .inl (G.2.2.1 0, 4, .inl (fun _ => 0)), .inl (G.2.2.1 0, 4, .inl (fun _ => 0)), .inl (G.2.2.1 1, 8, .inl (fun _ => 0)), .inl (G.2.2.1 0, 8, .inl (fun _ => 0)), .inl (G.2.2.1 0, 8, .inl (fun _ => 0)), .inl (G.2.2.1 0, 8, .inl (fun _ => 0)), .inl (G.2.2.1 0, 8, .inl (fun _ => 0)), .inl (G.2.2.1 0, 4096, .inl (fun _ => 0)), .inl (G.2.2.1 1, 4096, .inl (fun _ => 0)), .inl (G.2.2.1 0, 4096, .inl (fun _ => 0))]) rfl ?_
  exact aw_vret dd_mo_init_146 rfl ⟨rfl, rfl⟩
def ka_0 (G : ag_T) (fA fU : Nat → Int32) : ck_T := (fun _ => 0, fun k => if k = 0 then fA else if k = 5 then fU else fun _ => 0, fun _ => .ref G.2.2.2.2)
def ma_0 : cm_T := (fun _ => 0, fun _ _ => 0)
def aa_0 : aa_T := ((0, 0), fun _ => 0, fun _ => 0, fun _ => 0, [], [], [], fun _ => none, fun _ => 0)
theorem wa_0 : wa_W aa_0 := by
  refine ⟨fun r _ => ⟨rfl, rfl⟩, fun v _ => rfl, fun r => bt_z _, fun v => bt_z _, fun r i h => ?_, fun v hv => absurd hv (Nat.not_lt_zero v), fun s _ => rfl, fun s => ⟨fun _ => rfl, fun v hv => (by cases hv)⟩, fun l hl => ?_⟩
  · have h : (0 : Nat).testBit i = true := h
    rw [Nat.zero_testBit] at h; cases h
  · rcases hl with hl | hl <;> cases hl
theorem ma_R : rm_R ma_0 aa_0 := by
  refine ⟨⟨rfl, by decide, fun r _ => rfl, fun r => by show 0 < 64; decide⟩, ⟨fun r _ => rfl, fun r => by show 0 < 2 ^ 31; decide⟩, ⟨rfl, by decide, fun v _ => rfl, fun v => by show 0 < 64; decide⟩, ⟨rfl, by decide, fun i l h => (by cases h)⟩, ⟨rfl, by decide, fun i l h => (by cases h)⟩, ⟨rfl, by decide, fun i x h => (by cases h)⟩, ⟨fun s _ => ⟨rfl, fun v hv => (by cases hv)⟩, fun s => by show 0 < 64; decide⟩⟩
theorem ka_R {G : ag_T} {fA fU : Nat → Int32} (hE : G.2.2.2.2 < G.1) (hA : ∀ s, s < 64 → fA s = nI s) (hU : ∀ s, s < 4 → fU s = -1) : rk_R G (ka_0 G fA fU) [] aa_0 := by
  refine ⟨⟨rfl, by decide, fun s hs => hA s hs, fun r => by show 0 < 64; decide⟩, ⟨fun r _ => rfl, fun r => by show 0 < 2 ^ 31; decide⟩, ⟨rfl, by decide, fun v _ => rfl, fun v => by show 0 < 64; decide⟩, ⟨⟨[], rfl, rfl, by decide, Or.inl ⟨rfl, rfl⟩, fun i l p h => (by cases h)⟩, by decide, fun l h => (by cases h)⟩, ⟨⟨[], rfl, rfl, by decide, Or.inl ⟨rfl, rfl⟩, fun i l p h => (by cases h)⟩, by decide, fun l h => (by cases h)⟩, ⟨⟨[], rfl, rfl, by decide, Or.inl ⟨rfl, rfl⟩, fun i l p h => (by cases h)⟩, fun x h => (by cases h)⟩, ⟨fun s hs => ⟨hU s hs, rfl⟩, fun s v hv => (by cases hv), fun s => by show 0 < 64; decide⟩, hE, fun k k' j _ _ _ h1 _ => ?_⟩
  exact rf_e hE h1.symm
theorem wc_lw_law (G : ag_T) (hE : G.2.2.2.2 < G.1) (rem : Nat) (hL : G.2.2.2.1.2.1 < 5 * rem + 5) (hL2 : G.2.2.2.1.2.1 < 2 ^ 30) : aw_w G mm_lw_law 10 215 (2 * rem + 33) (16 * rem + 20707) 0 [(0, .ref G.2.2.2.1.1)] [] [] (fun out _ => out = .inl (some (.int 1))) := by
  refine aw_new 0 7 (kc' := (2 * rem + 32)) (ks' := (16 * rem + 20700)) (fs := [.null, .null, .null, .null, .null, .null, .int 0]) dd_lw_law_0 nl_lw_8 (by decide) rfl rfl ?_
  refine aw_h (h' := [.inr (0, [.null, .null, .null, .null, .null, .null, .int 0])]) rfl ?_
  refine aw_dup dd_lw_law_3 rfl ?_
  refine aw_cIf mm_ra_init (2 * rem + 20) (16 * rem + 12406) _ [] _ (wc_ra_init G) dd_lw_law_4 ci_lw_87 my_ra_init np_ra_init rfl (by decide) (by omega) (by omega) (Nat.le_of_ble_eq_true rfl) (Nat.le_of_ble_eq_true rfl) (fun h9 hq => ?_)
  obtain ⟨fA, fU, rfl, hfA, hfU⟩ := hq
  refine aw_astore_n (lv' := [(1, .ref (G.1 + 0)), (0, _)]) dd_lw_law_7 rfl (by decide) rfl ?_
  refine aw_new 5 24 (kc' := (2 * rem + 19)) (ks' := (16 * rem + 12382)) (fs := [.int 0, .int 0, .int 0, .null, .null, .null, .null, .null, .null, .null, .null, .null, .null, .int 0, .null, .null, .null, .null, .null, .null, .null, .null, .int 0, .int 0]) dd_lw_law_8 nl_lw_88 (by decide) rfl rfl ?_
  refine aw_h (h' := [.inr (0, [.ref (G.1 + 1), .ref (G.1 + 6), .ref (G.1 + 9), .ref (G.1 + 10), .ref (G.1 + 11), .ref (G.1 + 12), .int 0]), .inr (1, [.int 0, .ref (G.1 + 2), .ref (G.1 + 3), .ref (G.1 + 4), .ref (G.1 + 5)]), .inl (G.2.2.1 0, 64, .inl fA), .inr (6, [.int 0, .ref G.2.2.2.2, .int 0]), .inr (6, [.int 0, .ref G.2.2.2.2, .int 0]), .inr (6, [.int 0, .ref G.2.2.2.2, .int 0]), .inr (2, [.ref (G.1 + 1), .ref (G.1 + 7), .ref (G.1 + 8), .int 0, .int 0]), .inl (G.2.2.1 0, 4096, .inl (fun _ => 0)), .inl (G.2.2.1 0, 4096, .inl (fun _ => 0)), .inl (G.2.2.1 0, 5, .inl (fun _ => 0)), .inl (G.2.2.1 0, 6, .inl (fun _ => 0)), .inl (G.2.2.1 0, 4, .inl fU), .inl (G.2.2.1 0, 4, .inl (fun _ => 0)), .inr (5, [.int 0, .int 0, .int 0, .null, .null, .null, .null, .null, .null, .null, .null, .null, .null, .int 0, .null, .null, .null, .null, .null, .null, .null, .null, .int 0, .int 0])]) rfl ?_
  refine aw_dup dd_lw_law_11 rfl ?_
  refine aw_cIv mm_mo_init (2 * rem + 1) (16 * rem + 1) _ [] _ (wc_mo_init G (.inr (0, [.ref (G.1 + 1), .ref (G.1 + 6), .ref (G.1 + 9), .ref (G.1 + 10), .ref (G.1 + 11), .ref (G.1 + 12), .int 0])) (.inr (1, [.int 0, .ref (G.1 + 2), .ref (G.1 + 3), .ref (G.1 + 4), .ref (G.1 + 5)])) (.inl (G.2.2.1 0, 64, .inl fA)) (.inr (6, [.int 0, .ref G.2.2.2.2, .int 0])) (.inr (6, [.int 0, .ref G.2.2.2.2, .int 0])) (.inr (6, [.int 0, .ref G.2.2.2.2, .int 0])) (.inr (2, [.ref (G.1 + 1), .ref (G.1 + 7), .ref (G.1 + 8), .int 0, .int 0])) (.inl (G.2.2.1 0, 4096, .inl (fun _ => 0))) (.inl (G.2.2.1 0, 4096, .inl (fun _ => 0))) (.inl (G.2.2.1 0, 5, .inl (fun _ => 0))) (.inl (G.2.2.1 0, 6, .inl (fun _ => 0))) (.inl (G.2.2.1 0, 4, .inl fU)) (.inl (G.2.2.1 0, 4, .inl (fun _ => 0)))) dd_lw_law_12 ci_lw_90 my_mo_init np_mo_init rfl (by decide) (by omega) (by omega) (Nat.le_of_ble_eq_true rfl) (Nat.le_of_ble_eq_true rfl) ?_
  refine aw_astore_n (lv' := [(2, .ref (G.1 + 13)), (1, .ref (G.1 + 0)), (0, _)]) dd_lw_law_15 rfl (by decide) rfl ?_
  refine aw_iconst (v := 1) dd_lw_law_16 (by decide) ?_
  refine aw_newl (N := 1) (kc' := (2 * rem + 0)) (ks' := (16 * rem + 0)) dd_lw_law_17 ac_long (by decide) (by decide) (by decide) rfl rfl ?_
  refine aw_h (h' := hp_f G (ka_0 G fA fU) ma_0 (fun _ => 0) []) rfl ?_
  refine aw_astore_n (lv' := [(3, .ref (G.1 + 32)), (2, .ref (G.1 + 13)), (1, .ref (G.1 + 0)), (0, _)]) dd_lw_law_19 rfl (by decide) rfl ?_
  refine aw_iconst (v := (nI 0)) dd_lw_law_20 (by decide) ?_
  refine aw_istore (lv' := [(4, _), (3, _), (2, _), (1, _), (0, _)]) dd_lw_law_21 (by decide) rfl ?_
  exact wl_lw_law G hL2 rem 0 (by omega) (Nat.zero_le _) _ _ _ _ _ (ka_R hE hfA hfU) ma_R wa_0
