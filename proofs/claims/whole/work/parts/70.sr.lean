/-! ===== the class: the search ===== -/
theorem wl_ar_fill (G : ag_T) (h : List va_E) {i n : Nat} (hn : n < 2 ^ 31) {v : Int32} {f0 : Nat → Int32} (hi : h[i]? = some (.inl (G.2.2.1 0, n, .inl f0))) : ∀ (k r : Nat), r + k = n → ∀ f : Nat → Int32, (∀ j, j < r → f j = v) → aw_w G mm_ar_fill 0 0 0 0 5 [(3, .int (nI n)), (2, .int (nI r)), (0, .ref (G.1 + i)), (1, .int v)] [] (h.set i (.inl (G.2.2.1 0, n, .inl f))) (qe_v fun h' => ∃ f : Nat → Int32, h' = h.set i (.inl (G.2.2.1 0, n, .inl f)) ∧ ∀ j, j < n → f j = v) := by
  intro k
  induction k with
  | zero =>
    intro r hr f hf
    have e : r = n := by omega
    subst e
    refine aw_iload_n dd_ar_fill_5 rfl 1 rfl ?_
    refine aw_iload_n dd_ar_fill_6 rfl 0 rfl ?_
    refine aw_icmp_ge (tgt := 20) dd_ar_fill_7 (by decide) (fun _ => ?_) (fun h9 => absurd (nI_le (Nat.le_refl _) hn) h9)
    exact aw_vret dd_ar_fill_20 rfl ⟨rfl, f, rfl, hf⟩
  | succ k ih =>
    intro r hr f hf
    refine aw_iload_n dd_ar_fill_5 rfl 1 rfl ?_
    refine aw_iload_n dd_ar_fill_6 rfl 0 rfl ?_
    refine aw_icmp_ge (tgt := 20) dd_ar_fill_7 (by decide) (fun h9 => absurd h9 (nI_ge (by omega) hn)) (fun _ => ?_)
    refine aw_aload_n dd_ar_fill_10 rfl 2 rfl ?_
    refine aw_iload_n dd_ar_fill_11 rfl 1 rfl ?_
    refine aw_iload_n dd_ar_fill_12 rfl 3 rfl ?_
    refine aw_isN i r dd_ar_fill_13 (st_e hi) (by omega) hn ?_
    rw [List.set_set]
    refine aw_iinc (v := nI (r + 1)) (lv' := [(2, _), (3, _), (0, _), (1, _)]) dd_ar_fill_14 1 rfl (nI_1 _) (by decide) rfl ?_
    refine aw_goto (tgt := 5) dd_ar_fill_17 (by decide) ?_
    refine aw_lv [1, 0, 2, 3] rfl (ih (r + 1) (by omega) _ (fun j hj => ?_))
    unfold upd
    split
    · rfl
    · exact hf j (by omega)
theorem wc_ar_fill (G : ag_T) (h : List va_E) {i n : Nat} (hn : n < 2 ^ 31) {v : Int32} {f0 : Nat → Int32} (hi : h[i]? = some (.inl (G.2.2.1 0, n, .inl f0))) : aw_w G mm_ar_fill 0 0 0 0 0 (lv_args 0 [.ref (G.1 + i), .int v]) [] h (qe_v fun h' => ∃ f : Nat → Int32, h' = h.set i (.inl (G.2.2.1 0, n, .inl f)) ∧ ∀ j, j < n → f j = v) := by
  refine aw_iconst (v := (nI 0)) dd_ar_fill_0 (by decide) ?_
  refine aw_istore_n (lv' := [(2, _), (0, _), (1, _)]) dd_ar_fill_1 rfl (by decide) rfl ?_
  refine aw_aload_n dd_ar_fill_2 rfl 1 rfl ?_
  refine aw_alen i 0 (v := nI n) dd_ar_fill_3 hi rfl rfl ?_
  refine aw_istore_n (lv' := [(3, _), (2, _), (0, _), (1, _)]) dd_ar_fill_4 rfl (by decide) rfl ?_
  have e9 : h.set i (.inl (G.2.2.1 0, n, .inl f0)) = h := by
    apply List.ext_getElem?
    intro j
    by_cases e : i = j
    · subst e; rw [st_e hi, hi]
    · rw [List.getElem?_set_ne e]
  have w9 := wl_ar_fill G h hn (v := v) hi n 0 (Nat.zero_add _) f0 (fun j hj => absurd hj (Nat.not_lt_zero j))
  rw [e9] at w9
  exact w9
def ks_f (κ : ck_T) (fc us : Int32) (g f : Nat → Int32) : ck_T := (va_up (va_up κ.1 1 fc) 2 us, va_up (va_up κ.2.1 1 g) 2 f, κ.2.2)
theorem ks_1 (κ : ck_T) (fc us : Int32) (g f : Nat → Int32) (t : Nat) (v : Int32) : kk_a (ks_f κ fc us g f) 1 t v = ks_f κ fc us (upd g t v) f := by
  unfold kk_a ks_f
  refine Prod.ext rfl (Prod.ext (funext fun i => ?_) rfl)
  unfold va_up
  by_cases h : i = 1
  · subst h; simp
  · simp [h]
theorem ks_2 (κ : ck_T) (fc us : Int32) (g f : Nat → Int32) (t : Nat) (v : Int32) : kk_a (ks_f κ fc us g f) 2 t v = ks_f κ fc us g (upd f t v) := by
  unfold kk_a ks_f
  refine Prod.ext rfl (Prod.ext (funext fun i => ?_) rfl)
  unfold va_up
  by_cases h : i = 2
  · subst h; simp
  · simp [h]
theorem ks_c (κ : ck_T) (fc us : Int32) (g f : Nat → Int32) (v : Int32) : kk_s (ks_f κ fc us g f) 1 v = ks_f κ v us g f := by
  unfold kk_s ks_f
  refine Prod.ext (funext fun i => ?_) rfl
  unfold va_up
  by_cases h : i = 1
  · subst h; simp
  · simp [h]
theorem ks_u (κ : ck_T) (fc us : Int32) (g f : Nat → Int32) (v : Int32) : kk_s (ks_f κ fc us g f) 2 v = ks_f κ fc v g f := by
  unfold kk_s ks_f
  refine Prod.ext (funext fun i => ?_) rfl
  unfold va_up
  by_cases h : i = 2
  · subst h; simp
  · simp [h]
theorem ks_0 (κ : ck_T) : ks_f κ (κ.1 1) (κ.1 2) (κ.2.1 1) (κ.2.1 2) = κ := by
  unfold ks_f
  refine Prod.ext (funext fun i => ?_) (Prod.ext (funext fun i => ?_) rfl)
  · unfold va_up
    by_cases h : i = 2
    · subst h; simp
    · by_cases h2 : i = 1
      · subst h2; simp
      · simp [h, h2]
  · unfold va_up
    by_cases h : i = 2
    · subst h; simp
    · by_cases h2 : i = 1
      · subst h2; simp
      · simp [h, h2]
theorem ks_a (G : ag_T) (κ : ck_T) (μ : cm_T) (o : Nat → Int64) (rest : List va_E) (fc us : Int32) (g f f' : Nat → Int32) : (hp_f G (ks_f κ fc us g f) μ o rest).set 8 (.inl (G.2.2.1 0, 4096, .inl f')) = hp_f G (ks_f κ fc us g f') μ o rest := rfl
theorem wc_se_pairBit (G : ag_T) (κ : ck_T) (μ : cm_T) (o : Nat → Int64) (rest : List va_E) {n : Nat} (hn : κ.1 0 = nI n) (hn6 : n ≤ 6) (v r : Nat) : aw_w G mm_se_pairBit 0 0 0 0 0 (lv_args 0 [.ref (G.1 + 6), .int (nI v), .int (nI r)]) [] (hp_f G κ μ o rest) (q_i (nI (v * n + r)) (hp_f G κ μ o rest)) := by
  refine aw_iload_n dd_se_pairBit_0 rfl 1 rfl ?_
  refine aw_aload_n dd_se_pairBit_1 rfl 0 rfl ?_
  refine aw_getf _ 2 0 dd_se_pairBit_2 fl_se_9 rfl rfl ?_
  refine aw_getf _ 1 0 dd_se_pairBit_5 fl_se_71 rfl rfl ?_
  refine aw_top (hn) ?_
  refine aw_imul dd_se_pairBit_8 ?_
  refine aw_top (nI_mul _ _) ?_
  refine aw_iload_n dd_se_pairBit_9 rfl 2 rfl ?_
  refine aw_iadd dd_se_pairBit_10 ?_
  refine aw_top (nI_add _ _) ?_
  exact aw_iret dd_se_pairBit_11 rfl ⟨rfl, rfl⟩
theorem wc_se_assignedIn (G : ag_T) (κ : ck_T) (μ : cm_T) (o : Nat → Int64) (rest : List va_E) {n : Nat} (hn : κ.1 0 = nI n) (hn6 : n ≤ 6) {s v : Nat} (hs : s < 2 ^ 31) (hv : v * n < 32) : aw_w G mm_se_assignedIn 1 22 0 0 0 (lv_args 0 [.ref (G.1 + 6), .int (nI s), .int (nI v)]) [] (hp_f G κ μ o rest) (q_i (nI (pi_r n s v)) (hp_f G κ μ o rest)) := by
  refine aw_iload_n dd_se_assignedIn_0 rfl 1 rfl ?_
  refine aw_aload_n dd_se_assignedIn_1 rfl 0 rfl ?_
  refine aw_iload_n dd_se_assignedIn_2 rfl 2 rfl ?_
  refine aw_iconst (v := (nI 0)) dd_se_assignedIn_3 (by decide) ?_
  refine aw_cVi mm_se_pairBit 0 0 _ 2 [_, _] _ (wc_se_pairBit G κ μ o rest hn hn6 v 0) dd_se_assignedIn_4 cv_se_52 my_se_pairBit np_se_pairBit rfl rfl rfl (by decide) rfl rfl (Nat.le_of_ble_eq_true rfl) (Nat.le_of_ble_eq_true rfl) ?_
  refine aw_ishr dd_se_assignedIn_7 ?_
  refine aw_top (nI_shr hs hv) ?_
  refine aw_iconst (v := (nI 1)) dd_se_assignedIn_8 (by decide) ?_
  refine aw_aload_n dd_se_assignedIn_9 rfl 0 rfl ?_
  refine aw_getf _ 2 0 dd_se_assignedIn_10 fl_se_9 rfl rfl ?_
  refine aw_getf _ 1 0 dd_se_assignedIn_13 fl_se_71 rfl rfl ?_
  refine aw_top (hn) ?_
  refine aw_ishl dd_se_assignedIn_16 ?_
  refine aw_top (nI_shl _ (by omega)) ?_
  refine aw_iconst (v := (nI 1)) dd_se_assignedIn_17 (by decide) ?_
  refine aw_isub dd_se_assignedIn_18 ?_
  refine aw_top (nI_sub (by rw [Nat.one_shiftLeft]; exact Nat.two_pow_pos n)) ?_
  refine aw_iand dd_se_assignedIn_19 ?_
  refine aw_top (nI_and _ _) ?_
  rw [Nat.one_shiftLeft, Nat.add_zero]
  exact aw_iret dd_se_assignedIn_20 rfl ⟨rfl, rfl⟩
theorem wc_se_authorizedIn (G : ag_T) (κ : ck_T) (μ : cm_T) (o : Nat → Int64) (rest : List va_E) {n : Nat} {bel : Nat → Nat} (hC : rk_c κ n bel) {s v : Nat} (hs : s < 2 ^ 31) (hv : v * n < 32) : aw_w G mm_se_authorizedIn 2 44 0 0 0 (lv_args 0 [.ref (G.1 + 6), .int (nI s), .int (nI v)]) [] (hp_f G κ μ o rest) (q_i (nI (pc_f bel (pi_r n s v) n)) (hp_f G κ μ o rest)) := by
  refine aw_aload_n dd_se_authorizedIn_0 rfl 0 rfl ?_
  refine aw_getf _ 2 0 dd_se_authorizedIn_1 fl_se_9 rfl rfl ?_
  refine aw_getf _ 1 1 dd_se_authorizedIn_4 fl_se_80 rfl rfl ?_
  refine aw_aload_n dd_se_authorizedIn_7 rfl 0 rfl ?_
  refine aw_iload_n dd_se_authorizedIn_8 rfl 1 rfl ?_
  refine aw_iload_n dd_se_authorizedIn_9 rfl 2 rfl ?_
  refine aw_cVi mm_se_assignedIn 0 0 _ 2 [_, _] _ (wc_se_assignedIn G κ μ o rest hC.1 hC.2.1 hs hv) dd_se_authorizedIn_10 cv_se_68 my_se_assignedIn np_se_assignedIn rfl rfl rfl (by decide) rfl rfl (Nat.le_of_ble_eq_true rfl) (Nat.le_of_ble_eq_true rfl) ?_
  refine aw_iaN _ (pi_r n s v) dd_se_authorizedIn_13 rfl (pi_lt n s v hC.2.1) (by decide) ?_
  refine aw_top (hC.2.2.1 _ (pi_lt n s v hC.2.1)) ?_
  exact aw_iret dd_se_authorizedIn_14 rfl ⟨rfl, rfl⟩
theorem wl_se_authorizedOfAll (G : ag_T) (κ : ck_T) (μ : cm_T) (o : Nat → Int64) (rest : List va_E) {n : Nat} {bel : Nat → Nat} (hC : rk_c κ n bel) {u : Nat} (hus : κ.1 2 = nI u) (hu5 : u ≤ 5) (h12 : u * n ≤ 12) {s : Nat} (hs : s < 2 ^ 31) : ∀ (k r : Nat), r + k = u → aw_w G mm_se_authorizedOfAll 3 66 0 0 4 [(3, .int (nI r)), (2, .int (nI (pi_a n (fun t => pc_f bel t n) s r))), (0, .ref (G.1 + 6)), (1, .int (nI s))] [] (hp_f G κ μ o rest) (q_i (nI (pi_a n (fun t => pc_f bel t n) s u)) (hp_f G κ μ o rest)) := by
  intro k
  induction k with
  | zero =>
    intro r hr
    have e : r = u := by omega
    subst e
    refine aw_iload_n dd_se_authorizedOfAll_4 rfl 0 rfl ?_
    refine aw_aload_n dd_se_authorizedOfAll_5 rfl 2 rfl ?_
    refine aw_getf _ 2 4 dd_se_authorizedOfAll_6 fl_se_22 rfl rfl ?_
    refine aw_top (hus) ?_
    refine aw_icmp_ge (tgt := 27) dd_se_authorizedOfAll_9 (by decide) (fun _ => ?_) (fun h9 => absurd (nI_le (Nat.le_refl _) (by omega)) h9)
    refine aw_iload_n dd_se_authorizedOfAll_27 rfl 1 rfl ?_
    exact aw_iret dd_se_authorizedOfAll_28 rfl ⟨rfl, rfl⟩
  | succ k ih =>
    intro r hr
    refine aw_iload_n dd_se_authorizedOfAll_4 rfl 0 rfl ?_
    refine aw_aload_n dd_se_authorizedOfAll_5 rfl 2 rfl ?_
    refine aw_getf _ 2 4 dd_se_authorizedOfAll_6 fl_se_22 rfl rfl ?_
    refine aw_top (hus) ?_
    refine aw_icmp_ge (tgt := 27) dd_se_authorizedOfAll_9 (by decide) (fun h9 => absurd h9 (nI_ge (by omega) (by omega))) (fun _ => ?_)
    refine aw_iload_n dd_se_authorizedOfAll_12 rfl 1 rfl ?_
    refine aw_aload_n dd_se_authorizedOfAll_13 rfl 2 rfl ?_
    refine aw_iload_n dd_se_authorizedOfAll_14 rfl 3 rfl ?_
    refine aw_iload_n dd_se_authorizedOfAll_15 rfl 0 rfl ?_
    refine aw_cVi mm_se_authorizedIn 0 0 _ 2 [_, _] _ (wc_se_authorizedIn G κ μ o rest hC hs (by have := vn_le (v := r) (u := u) (n := n) (by omega) h12; omega)) dd_se_authorizedOfAll_16 cv_se_33 my_se_authorizedIn np_se_authorizedIn rfl rfl rfl (by decide) rfl rfl (Nat.le_of_ble_eq_true rfl) (Nat.le_of_ble_eq_true rfl) ?_
    refine aw_ior dd_se_authorizedOfAll_19 ?_
    refine aw_top (nI_or _ _) ?_
    refine aw_istore_n (lv' := [(2, _), (3, _), (0, _), (1, _)]) dd_se_authorizedOfAll_20 rfl (by decide) rfl ?_
    refine aw_iinc (v := nI (r + 1)) (lv' := [(3, _), (2, _), (0, _), (1, _)]) dd_se_authorizedOfAll_21 1 rfl (nI_1 _) (by decide) rfl ?_
    refine aw_goto (tgt := 4) dd_se_authorizedOfAll_24 (by decide) ?_
    exact ih (r + 1) (by omega)
theorem wc_se_authorizedOfAll (G : ag_T) (κ : ck_T) (μ : cm_T) (o : Nat → Int64) (rest : List va_E) {n : Nat} {bel : Nat → Nat} (hC : rk_c κ n bel) {u : Nat} (hus : κ.1 2 = nI u) (hu5 : u ≤ 5) (h12 : u * n ≤ 12) {s : Nat} (hs : s < 2 ^ 31) : aw_w G mm_se_authorizedOfAll 3 66 0 0 0 (lv_args 0 [.ref (G.1 + 6), .int (nI s)]) [] (hp_f G κ μ o rest) (q_i (nI (pi_a n (fun t => pc_f bel t n) s u)) (hp_f G κ μ o rest)) := by
  refine aw_iconst (v := (nI 0)) dd_se_authorizedOfAll_0 (by decide) ?_
  refine aw_istore_n (lv' := [(2, _), (0, _), (1, _)]) dd_se_authorizedOfAll_1 rfl (by decide) rfl ?_
  refine aw_iconst (v := (nI 0)) dd_se_authorizedOfAll_2 (by decide) ?_
  refine aw_istore_n (lv' := [(3, _), (2, _), (0, _), (1, _)]) dd_se_authorizedOfAll_3 rfl (by decide) rfl ?_
  exact wl_se_authorizedOfAll G κ μ o rest hC hus hu5 h12 hs u 0 (Nat.zero_add _)
def is_f (cl : Nat → Nat) (sl : pl_T) (rs : pr_T) (a h r : Nat) : Bool := if h.testBit r = true then pr_l rs false a (cl h) r else pr_l rs true a (cl h) r && pk_l sl (cl (h ||| 1 <<< r))
theorem wc_se_isStep (G : ag_T) (κ : ck_T) (μ : cm_T) (o : Nat → Int64) (rest : List va_E) {n : Nat} {bel : Nat → Nat} (hC : rk_c κ n bel) {sl : pl_T} (hSL : rk_L G κ rest 0 sl) {rs : pr_T} (hRu : rk_U G κ rest rs) {a h r : Nat} (ha : a < 64) (hh : h < 64) (hr : r < 6) : aw_w G mm_se_isStep 4 90 0 0 0 (lv_args 0 [.ref (G.1 + 6), .int (nI a), .int (nI h), .int (nI r)]) [] (hp_f G κ μ o rest) (q_i (zb_i (is_f (fun t => pc_f bel t n) sl rs a h r)) (hp_f G κ μ o rest)) := by
  have hcl := pc_64 hC.2.2.2 hh n
  have hs : h ||| 1 <<< r < 64 := bt_or (n := 6) hh (bt_1 hr)
  refine aw_iload_n dd_se_isStep_0 rfl 2 rfl ?_
  refine aw_iload_n dd_se_isStep_1 rfl 3 rfl ?_
  refine aw_cNi mm_ra_has 0 0 "RoleAnalyser" [_, _] _ (wc_ra_has G _ (by omega) (by omega)) dd_se_isStep_2 cs_se_37 my_ra_has np_ra_has rfl (by decide) rfl rfl (Nat.le_of_ble_eq_true rfl) (Nat.le_of_ble_eq_true rfl) ?_
  refine aw_if_eq (tgt := 28) dd_se_isStep_5 (by decide) (fun h1 => ?_) (fun h1 => ?_)
  · have h1 := zb_e0 h1
    rw [show is_f (fun t => pc_f bel t n) sl rs a h r = (pr_l rs true a (pc_f bel h n) r && pk_l sl (pc_f bel (h ||| 1 <<< r) n)) from if_neg (by rw [h1]; decide)]
    refine aw_aload_n dd_se_isStep_28 rfl 0 rfl ?_
    refine aw_getf _ 2 0 dd_se_isStep_29 fl_se_9 rfl rfl ?_
    refine aw_iconst (v := (zb_i true)) dd_se_isStep_32 (by decide) ?_
    refine aw_iload_n dd_se_isStep_33 rfl 1 rfl ?_
    refine aw_aload_n dd_se_isStep_34 rfl 0 rfl ?_
    refine aw_getf _ 2 0 dd_se_isStep_35 fl_se_9 rfl rfl ?_
    refine aw_getf _ 1 1 dd_se_isStep_38 fl_se_80 rfl rfl ?_
    refine aw_iload_n dd_se_isStep_41 rfl 2 rfl ?_
    refine aw_iaN _ (h) dd_se_isStep_42 rfl (hh) (by decide) ?_
    refine aw_top (hC.2.2.1 _ hh) ?_
    refine aw_iload_n dd_se_isStep_43 rfl 3 rfl ?_
    refine aw_cVi mm_po_isAllowed 0 0 _ 1 [_, _, _, _] _ (wc_po_isAllowed G κ μ o rest hRu true ha hcl hr) dd_se_isStep_44 cv_se_83 my_po_isAllowed np_po_isAllowed rfl rfl rfl (by decide) rfl rfl (Nat.le_of_ble_eq_true rfl) (Nat.le_of_ble_eq_true rfl) ?_
    refine aw_if_eq (tgt := 80) dd_se_isStep_47 (by decide) (fun h2 => ?_) (fun h2 => ?_)
    · have h2 := zb_e0 h2
      refine aw_iconst (v := 0) dd_se_isStep_80 (by decide) ?_
      exact aw_zret dd_se_isStep_81 rfl (by first | exact Or.inl rfl | exact Or.inr rfl) ⟨by first | (simp [zb_i, h2, h3]; done) | (simp [zb_i, h2]; done), rfl⟩
    · have h2 := zb_n0 h2
      refine aw_aload_n dd_se_isStep_50 rfl 0 rfl ?_
      refine aw_getf _ 2 0 dd_se_isStep_51 fl_se_9 rfl rfl ?_
      refine aw_getf _ 1 2 dd_se_isStep_54 fl_se_87 rfl rfl ?_
      refine aw_aload_n dd_se_isStep_57 rfl 0 rfl ?_
      refine aw_getf _ 2 0 dd_se_isStep_58 fl_se_9 rfl rfl ?_
      refine aw_getf _ 1 1 dd_se_isStep_61 fl_se_80 rfl rfl ?_
      refine aw_iload_n dd_se_isStep_64 rfl 2 rfl ?_
      refine aw_iconst (v := (nI 1)) dd_se_isStep_65 (by decide) ?_
      refine aw_iload_n dd_se_isStep_66 rfl 3 rfl ?_
      refine aw_ishl dd_se_isStep_67 ?_
      refine aw_top (nI_shl 1 (by omega)) ?_
      refine aw_ior dd_se_isStep_68 ?_
      refine aw_top (nI_or _ _) ?_
      refine aw_iaN _ (h ||| 1 <<< r) dd_se_isStep_69 rfl (hs) (by decide) ?_
      refine aw_top (hC.2.2.1 _ hs) ?_
      refine aw_cNi mm_ra_areKept 0 0 "RoleAnalyser" [_, _] _ (wc_ra_areKept0 G κ μ o rest hSL (pc_64 hC.2.2.2 hs n)) dd_se_isStep_70 cs_se_91 my_ra_areKept np_ra_areKept rfl (by decide) rfl rfl (Nat.le_of_ble_eq_true rfl) (Nat.le_of_ble_eq_true rfl) ?_
      refine aw_if_eq (tgt := 80) dd_se_isStep_73 (by decide) (fun h3 => ?_) (fun h3 => ?_)
      · have h3 := zb_e0 h3
        refine aw_iconst (v := 0) dd_se_isStep_80 (by decide) ?_
        exact aw_zret dd_se_isStep_81 rfl (by first | exact Or.inl rfl | exact Or.inr rfl) ⟨by first | (simp [zb_i, h2, h3]; done) | (simp [zb_i, h2]; done), rfl⟩
      · have h3 := zb_n0 h3
        refine aw_iconst (v := 1) dd_se_isStep_76 (by decide) ?_
        refine aw_goto (tgt := 81) dd_se_isStep_77 (by decide) ?_
        exact aw_zret dd_se_isStep_81 rfl (by first | exact Or.inl rfl | exact Or.inr rfl) ⟨by first | (simp [zb_i, h2, h3]; done) | (simp [zb_i, h2]; done), rfl⟩
  · have h1 := zb_n0 h1
    rw [show is_f (fun t => pc_f bel t n) sl rs a h r = pr_l rs false a (pc_f bel h n) r from if_pos h1]
    refine aw_aload_n dd_se_isStep_8 rfl 0 rfl ?_
    refine aw_getf _ 2 0 dd_se_isStep_9 fl_se_9 rfl rfl ?_
    refine aw_iconst (v := (zb_i false)) dd_se_isStep_12 (by decide) ?_
    refine aw_iload_n dd_se_isStep_13 rfl 1 rfl ?_
    refine aw_aload_n dd_se_isStep_14 rfl 0 rfl ?_
    refine aw_getf _ 2 0 dd_se_isStep_15 fl_se_9 rfl rfl ?_
    refine aw_getf _ 1 1 dd_se_isStep_18 fl_se_80 rfl rfl ?_
    refine aw_iload_n dd_se_isStep_21 rfl 2 rfl ?_
    refine aw_iaN _ (h) dd_se_isStep_22 rfl (hh) (by decide) ?_
    refine aw_top (hC.2.2.1 _ hh) ?_
    refine aw_iload_n dd_se_isStep_23 rfl 3 rfl ?_
    refine aw_cVi mm_po_isAllowed 0 0 _ 1 [_, _, _, _] _ (wc_po_isAllowed G κ μ o rest hRu false ha hcl hr) dd_se_isStep_24 cv_se_83 my_po_isAllowed np_po_isAllowed rfl rfl rfl (by decide) rfl rfl (Nat.le_of_ble_eq_true rfl) (Nat.le_of_ble_eq_true rfl) ?_
    exact aw_zret dd_se_isStep_27 rfl (zb_01 _) ⟨rfl, rfl⟩
theorem wc_se_reach (G : ag_T) (κ : ck_T) (μ : cm_T) (o : Nat → Int64) (rest : List va_E) {N s : Nat} (hN : N < 4096) (hs : s < 4096) (us c : Int32) (g f : Nat → Int32) : aw_w G mm_se_reach 0 0 0 0 0 (lv_args 0 [.ref (G.1 + 6), .int (nI s), .int c]) [] (hp_f G (ks_f κ (nI N) us g f) μ o rest) (q_v (hp_f G (ks_f κ (nI (N + 1)) us (upd g N (nI s)) (upd f s c)) μ o rest)) := by
  refine aw_aload_n dd_se_reach_0 rfl 0 rfl ?_
  refine aw_getf _ 2 2 dd_se_reach_1 fl_se_19 rfl rfl ?_
  refine aw_iload_n dd_se_reach_4 rfl 1 rfl ?_
  refine aw_iload_n dd_se_reach_5 rfl 2 rfl ?_
  refine aw_isN _ (s) dd_se_reach_6 rfl (hs) (by decide) ?_
  refine aw_h (hs_ka2 G _ _ _ _ _ _) ?_
  rw [ks_2]
  refine aw_aload_n dd_se_reach_7 rfl 0 rfl ?_
  refine aw_getf _ 2 1 dd_se_reach_8 fl_se_15 rfl rfl ?_
  refine aw_aload_n dd_se_reach_11 rfl 0 rfl ?_
  refine aw_getf _ 2 3 dd_se_reach_12 fl_se_30 rfl rfl ?_
  refine aw_top (y := nI N) rfl ?_
  refine aw_iload_n dd_se_reach_15 rfl 1 rfl ?_
  refine aw_isN _ (N) dd_se_reach_16 rfl (hN) (by decide) ?_
  refine aw_h (hs_ka1 G _ _ _ _ _ _) ?_
  rw [ks_1]
  refine aw_aload_n dd_se_reach_17 rfl 0 rfl ?_
  refine aw_dup dd_se_reach_18 rfl ?_
  refine aw_getf _ 2 3 dd_se_reach_19 fl_se_30 rfl rfl ?_
  refine aw_top (y := nI N) rfl ?_
  refine aw_iconst (v := 1) dd_se_reach_22 (by decide) ?_
  refine aw_iadd dd_se_reach_23 ?_
  refine aw_top (nI_1 _) ?_
  refine aw_putf _ 2 3 dd_se_reach_24 fl_se_30 nf_se_3 rfl (rfl) (rfl) (Nat.le_of_ble_eq_true rfl) ?_
  refine aw_h (hs_ks1 G _ _ _ _ _) ?_
  rw [ks_c]
  exact aw_vret dd_se_reach_27 rfl ⟨rfl, rfl⟩
theorem wc_se_stateBefore (G : ag_T) (κ : ck_T) (μ : cm_T) (o : Nat → Int64) (rest : List va_E) {n : Nat} (hn : κ.1 0 = nI n) (hn6 : n ≤ 6) {s c : Nat} (hs : s < 4096) (hc : c < 1000) (hf : κ.2.1 2 s = nI c) (h32 : c / 100 * n + c % 100 / 10 < 32) : aw_w G mm_se_stateBefore 1 22 0 0 0 (lv_args 0 [.ref (G.1 + 6), .int (nI s)]) [] (hp_f G κ μ o rest) (q_i (nI (s ^^^ 1 <<< (c / 100 * n + c % 100 / 10))) (hp_f G κ μ o rest)) := by
  refine aw_aload_n dd_se_stateBefore_0 rfl 0 rfl ?_
  refine aw_getf _ 2 2 dd_se_stateBefore_1 fl_se_19 rfl rfl ?_
  refine aw_iload_n dd_se_stateBefore_4 rfl 1 rfl ?_
  refine aw_iaN _ (s) dd_se_stateBefore_5 rfl (hs) (by decide) ?_
  refine aw_top hf ?_
  refine aw_istore_n (lv' := [(2, _), (0, _), (1, _)]) dd_se_stateBefore_6 rfl (by decide) rfl ?_
  refine aw_iload_n dd_se_stateBefore_7 rfl 2 rfl ?_
  refine aw_iconst (v := (nI 1)) dd_se_stateBefore_8 (by decide) ?_
  refine aw_aload_n dd_se_stateBefore_9 rfl 1 rfl ?_
  refine aw_iload_n dd_se_stateBefore_10 rfl 0 rfl ?_
  refine aw_bipush (v := (nI 100)) dd_se_stateBefore_11 (by decide) ?_
  refine aw_idiv dd_se_stateBefore_13 (by decide) ?_
  refine aw_top (nI_div (by omega) (by decide)) ?_
  refine aw_iload_n dd_se_stateBefore_14 rfl 0 rfl ?_
  refine aw_bipush (v := (nI 100)) dd_se_stateBefore_15 (by decide) ?_
  refine aw_irem dd_se_stateBefore_17 (by decide) ?_
  refine aw_top (nI_rem (by omega) (by decide)) ?_
  refine aw_bipush (v := (nI 10)) dd_se_stateBefore_18 (by decide) ?_
  refine aw_idiv dd_se_stateBefore_20 (by decide) ?_
  refine aw_top (nI_div (by omega) (by decide)) ?_
  refine aw_cVi mm_se_pairBit 0 0 _ 2 [_, _] _ (wc_se_pairBit G κ μ o rest hn hn6 _ _) dd_se_stateBefore_21 cv_se_52 my_se_pairBit np_se_pairBit rfl rfl rfl (by decide) rfl rfl (Nat.le_of_ble_eq_true rfl) (Nat.le_of_ble_eq_true rfl) ?_
  refine aw_ishl dd_se_stateBefore_24 ?_
  refine aw_top (nI_shl 1 h32) ?_
  refine aw_ixor dd_se_stateBefore_25 ?_
  refine aw_top (nI_xor _ _) ?_
  exact aw_iret dd_se_stateBefore_26 rfl ⟨rfl, rfl⟩
