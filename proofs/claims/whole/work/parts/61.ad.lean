/-! ===== ArrayList.add ===== -/
def ad_P (G : ag_T) (κ : ck_T) (rest : List va_E) (k n p : Nat) (κ' : ck_T) (rest' : List va_E) : Prop :=
  κ'.2.1 = κ.2.1 ∧ (∀ i, ¬ i = 4 + 2 * k → ¬ i = 5 + 2 * k → κ'.1 i = κ.1 i) ∧ (∀ k', ¬ k' = k → κ'.2.2 k' = κ.2.2 k') ∧ κ'.1 (5 + 2 * k) = nI (n + 1) ∧
  ((∃ (j : Nat) (a : Nat → Option Nat), κ.2.2 k = .ref (G.1 + (j + 33)) ∧ κ'.2.2 k = κ.2.2 k ∧ rest[j]? = some (oa_c G a) ∧ rest' = rest.set j (oa_c G (va_up a n (some (G.1 + (p + 33))))))
   ∨ (κ.2.2 k = .ref G.2.2.2.2 ∧ n = 0 ∧ κ'.2.2 k = .ref (G.1 + (rest.length + 33)) ∧ rest' = rest ++ [oa_c G (va_up (fun _ => none) 0 (some (G.1 + (p + 33))))]))
theorem wc_al_grow20 (G : ag_T) (κ : ck_T) (μ : cm_T) (o : Nat → Int64) (rest : List va_E) (he : κ.2.2 0 = .ref G.2.2.2.2) (hsz : κ.1 5 = nI 0) : aw_w G mm_al_grow2 1 21 1 10 0 (lv_args 0 [.ref (G.1 + 3), .int (nI 1)]) [] (hp_f G κ μ o rest) (q_r (.ref (G.1 + (rest.length + 33))) (hp_f G (kk_r κ 0 (.ref (G.1 + (rest.length + 33)))) μ o (rest ++ [oa_c G (fun _ => none)]))) := by
  refine aw_aload_n dd_al_grow2_0 rfl 0 rfl ?_
  refine aw_getf _ 6 1 dd_al_grow2_1 fl_al_9 rfl (congrArg some he) ?_
  refine aw_elen dd_al_grow2_4 ?_
  refine aw_istore_n (lv' := [(2, _), (0, _), (1, _)]) dd_al_grow2_5 rfl (by decide) rfl ?_
  refine aw_iload_n dd_al_grow2_6 rfl 0 rfl ?_
  refine aw_if_gt (tgt := 20) dd_al_grow2_7 (by decide) (fun h9 => absurd h9 (by decide)) (fun _ => ?_)
  refine aw_aload_n dd_al_grow2_10 rfl 1 rfl ?_
  refine aw_getf _ 6 1 dd_al_grow2_11 fl_al_9 rfl (congrArg some he) ?_
  refine aw_gets dd_al_grow2_14 kf_al_39 ?_
  refine aw_acmp_eq (rx := some G.2.2.2.2) (ry := some G.2.2.2.2) (tgt := 45) dd_al_grow2_17 (by decide) (fun _ => ?_) (fun h9 => absurd rfl h9)
  refine aw_aload_n dd_al_grow2_45 rfl 1 rfl ?_
  refine aw_bipush (v := (nI 10)) dd_al_grow2_46 (by decide) ?_
  refine aw_iload_n dd_al_grow2_48 rfl 2 rfl ?_
  refine aw_cSi mm_ma_max 1 10 [_, _] _ (wc_ma_max G _ 1 (by decide)) dd_al_grow2_49 cs_al_79 my_ma_max np_ma_max rfl (by decide) rfl rfl (Nat.le_of_ble_eq_true rfl) (Nat.le_of_ble_eq_true rfl) ?_
  refine aw_newq (N := 10) (kc' := 0) (ks' := 0) dd_al_grow2_52 kc_al_7 (by decide) (by decide) (by decide) rfl rfl ?_
  rw [hp_l, hp_a]
  refine aw_dup_x1 dd_al_grow2_55 rfl rfl ?_
  refine aw_putf _ 6 1 dd_al_grow2_56 fl_al_9 nf_al_1 rfl (rfl) (rfl) (Nat.le_of_ble_eq_true rfl) ?_
  refine aw_h (hs_kr0 G _ _ _ _ _) ?_
  exact aw_aret dd_al_grow2_59 rfl (Or.inr ⟨_, rfl⟩) (Or.inr ⟨_, rfl⟩) ⟨rfl, rfl⟩
theorem wc_al_grow10 (G : ag_T) (κ : ck_T) (μ : cm_T) (o : Nat → Int64) (rest : List va_E) (he : κ.2.2 0 = .ref G.2.2.2.2) (hsz : κ.1 5 = nI 0) : aw_w G mm_al_grow1 2 44 1 10 0 (lv_args 0 [.ref (G.1 + 3)]) [] (hp_f G κ μ o rest) (q_r (.ref (G.1 + (rest.length + 33))) (hp_f G (kk_r κ 0 (.ref (G.1 + (rest.length + 33)))) μ o (rest ++ [oa_c G (fun _ => none)]))) := by
  refine aw_aload_n dd_al_grow1_0 rfl 0 rfl ?_
  refine aw_aload_n dd_al_grow1_1 rfl 0 rfl ?_
  refine aw_getf _ 6 2 dd_al_grow1_2 fl_al_48 rfl rfl ?_
  refine aw_top (hsz) ?_
  refine aw_iconst (v := 1) dd_al_grow1_5 (by decide) ?_
  refine aw_iadd dd_al_grow1_6 ?_
  refine aw_top (nI_1 _) ?_
  refine aw_cVr mm_al_grow2 0 0 _ 6 [_] _ (wc_al_grow20 G κ μ o rest he hsz) dd_al_grow1_7 cv_al_69 my_al_grow2 np_al_grow2 rfl rfl rfl (by decide) rfl rfl (Nat.le_of_ble_eq_true rfl) (Nat.le_of_ble_eq_true rfl) ?_
  exact aw_aret dd_al_grow1_10 rfl (Or.inr ⟨_, rfl⟩) (Or.inr ⟨_, rfl⟩) ⟨rfl, rfl⟩
theorem wc_al_add2e0 (G : ag_T) (κ : ck_T) (μ : cm_T) (o : Nat → Int64) (rest : List va_E) (he : κ.2.2 0 = .ref G.2.2.2.2) (hsz : κ.1 5 = nI 0) {p ci : Nat} {fs : List Value} (hp : rest[p]? = some (.inr (ci, fs))) (hc9 : ∃ r, am_cl[ci]? = some r ∧ Cond.castable r.1 "java/lang/Object" ∈ aw_N) : aw_w G mm_al_add2 3 64 1 10 0 (lv_args 0 [.ref (G.1 + 3), .ref (G.1 + (p + 33)), .ref G.2.2.2.2, .int (nI 0)]) [] (hp_f G κ μ o rest) (q_v (hp_f G (kk_s (kk_r κ 0 (.ref (G.1 + (rest.length + 33)))) 5 (nI 1)) μ o (rest ++ [oa_c G (va_up (fun _ => none) 0 (some (G.1 + (p + 33))))]))) := by
  refine aw_iload_n dd_al_add2_0 rfl 3 rfl ?_
  refine aw_aload_n dd_al_add2_1 rfl 2 rfl ?_
  refine aw_elen dd_al_add2_2 ?_
  refine aw_icmp_ne (tgt := 11) dd_al_add2_3 (by decide) (fun h9 => absurd (rfl) h9) (fun _ => ?_)
  refine aw_aload_n dd_al_add2_6 rfl 0 rfl ?_
  refine aw_cVr mm_al_grow1 0 0 _ 6 [] _ (wc_al_grow10 G κ μ o rest he hsz) dd_al_add2_7 cv_al_129 my_al_grow1 np_al_grow1 rfl rfl rfl (by decide) rfl rfl (Nat.le_of_ble_eq_true rfl) (Nat.le_of_ble_eq_true rfl) ?_
  refine aw_astore_n (lv' := [(2, _), (0, _), (1, _), (3, _)]) dd_al_add2_10 rfl (by decide) rfl ?_
  refine aw_aload_n dd_al_add2_11 rfl 0 rfl ?_
  refine aw_iload_n dd_al_add2_12 rfl 3 rfl ?_
  refine aw_aload_n dd_al_add2_13 rfl 2 rfl ?_
  refine aw_aast (rest.length + 33) (p + 33) ci (n := 10) 0 dd_al_add2_14 List.getElem?_concat_length (ga_l1 hp) hc9 (by decide) (by decide) ?_
  rw [hs_r]
  rw [show (rest ++ [oa_c G (fun _ => none)]).set rest.length (.inl (G.2.2.1 3, 10, .inr (.inr (.inr (.inr (va_up (fun _ => none) 0 (some (G.1 + (p + 33))))))))) = rest ++ [oa_c G (va_up (fun _ => none) 0 (some (G.1 + (p + 33))))] by rw [List.set_append_right _ _ (Nat.le_refl _), Nat.sub_self]; rfl]
  refine aw_aload_n dd_al_add2_15 rfl 1 rfl ?_
  refine aw_iload_n dd_al_add2_16 rfl 3 rfl ?_
  refine aw_iconst (v := 1) dd_al_add2_17 (by decide) ?_
  refine aw_iadd dd_al_add2_18 ?_
  refine aw_top (nI_1 _) ?_
  refine aw_putf _ 6 2 dd_al_add2_19 fl_al_48 nf_al_2 rfl (rfl) (rfl) (Nat.le_of_ble_eq_true rfl) ?_
  refine aw_h (hs_ks5 G _ _ _ _ _) ?_
  exact aw_vret dd_al_add2_22 rfl ⟨rfl, rfl⟩
theorem wc_al_add2n0 (G : ag_T) (κ : ck_T) (μ : cm_T) (o : Nat → Int64) (rest : List va_E) {n j : Nat} {a : Nat → Option Nat} (hn : n < 8) (hsz : κ.1 5 = nI n) (he : κ.2.2 0 = .ref (G.1 + (j + 33))) (ha : rest[j]? = some (oa_c G a)) {p ci : Nat} {fs : List Value} (hp : rest[p]? = some (.inr (ci, fs))) (hc9 : ∃ r, am_cl[ci]? = some r ∧ Cond.castable r.1 "java/lang/Object" ∈ aw_N) : aw_w G mm_al_add2 3 64 1 10 0 (lv_args 0 [.ref (G.1 + 3), .ref (G.1 + (p + 33)), .ref (G.1 + (j + 33)), .int (nI n)]) [] (hp_f G κ μ o rest) (q_v (hp_f G (kk_s κ 5 (nI (n + 1))) μ o (rest.set j (oa_c G (va_up a n (some (G.1 + (p + 33)))))))) := by
  refine aw_iload_n dd_al_add2_0 rfl 3 rfl ?_
  refine aw_aload_n dd_al_add2_1 rfl 2 rfl ?_
  refine aw_alen (j + 33) 3 (v := nI 10) dd_al_add2_2 ha rfl rfl ?_
  refine aw_icmp_ne (tgt := 11) dd_al_add2_3 (by decide) (fun _ => ?_) (fun h9 => absurd h9 (fun h9 => absurd ((nI_eq (by omega) (by decide)).mp h9) (by omega)))
  refine aw_aload_n dd_al_add2_11 rfl 2 rfl ?_
  refine aw_iload_n dd_al_add2_12 rfl 3 rfl ?_
  refine aw_aload_n dd_al_add2_13 rfl 1 rfl ?_
  refine aw_aast (j + 33) (p + 33) ci (n := 10) n dd_al_add2_14 ha hp hc9 (by omega) (by decide) ?_
  rw [hs_r]
  refine aw_aload_n dd_al_add2_15 rfl 0 rfl ?_
  refine aw_iload_n dd_al_add2_16 rfl 3 rfl ?_
  refine aw_iconst (v := 1) dd_al_add2_17 (by decide) ?_
  refine aw_iadd dd_al_add2_18 ?_
  refine aw_top (nI_1 _) ?_
  refine aw_putf _ 6 2 dd_al_add2_19 fl_al_48 nf_al_2 rfl (rfl) (rfl) (Nat.le_of_ble_eq_true rfl) ?_
  refine aw_h (hs_ks5 G _ _ _ _ _) ?_
  exact aw_vret dd_al_add2_22 rfl ⟨rfl, rfl⟩
theorem wc_al_add1e0 (G : ag_T) (κ : ck_T) (μ : cm_T) (o : Nat → Int64) (rest : List va_E) (he : κ.2.2 0 = .ref G.2.2.2.2) (hsz : κ.1 5 = nI 0) {p ci : Nat} {fs : List Value} (hp : rest[p]? = some (.inr (ci, fs))) (hc9 : ∃ r, am_cl[ci]? = some r ∧ Cond.castable r.1 "java/lang/Object" ∈ aw_N) : aw_w G mm_al_add1 4 87 1 10 0 (lv_args 0 [.ref (G.1 + 3), .ref (G.1 + (p + 33))]) [] (hp_f G κ μ o rest) (qe_i fun _ h' => ∃ κ' rest', h' = hp_f G κ' μ o rest' ∧ ad_P G κ rest 0 0 p κ' rest') := by
  refine aw_aload_n dd_al_add1_0 rfl 0 rfl ?_
  refine aw_dup dd_al_add1_1 rfl ?_
  refine aw_getf _ 6 0 dd_al_add1_2 fl_al_63 rfl rfl ?_
  refine aw_iconst (v := 1) dd_al_add1_5 (by decide) ?_
  refine aw_iadd dd_al_add1_6 ?_
  refine aw_putf _ 6 0 dd_al_add1_7 fl_al_63 nf_al_0 rfl (rfl) (rfl) (Nat.le_of_ble_eq_true rfl) ?_
  refine aw_h (hs_ks4 G _ _ _ _ _) ?_
  refine aw_aload_n dd_al_add1_10 rfl 0 rfl ?_
  refine aw_aload_n dd_al_add1_11 rfl 1 rfl ?_
  refine aw_aload_n dd_al_add1_12 rfl 0 rfl ?_
  refine aw_getf _ 6 1 dd_al_add1_13 fl_al_9 rfl (congrArg some he) ?_
  refine aw_aload_n dd_al_add1_16 rfl 0 rfl ?_
  refine aw_getf _ 6 2 dd_al_add1_17 fl_al_48 rfl rfl ?_
  refine aw_top (hsz) ?_
  refine aw_cVv mm_al_add2 0 0 _ 6 [_, _, _] _ (wc_al_add2e0 G (kk_s κ 4 (κ.1 4 + 1)) μ o rest he hsz hp hc9) dd_al_add1_20 cv_al_131 my_al_add2 np_al_add2 rfl rfl rfl (by decide) rfl rfl (Nat.le_of_ble_eq_true rfl) (Nat.le_of_ble_eq_true rfl) ?_
  refine aw_iconst (v := 1) dd_al_add1_23 (by decide) ?_
  exact aw_zret dd_al_add1_24 rfl (by first | exact Or.inl rfl | exact Or.inr rfl) ⟨1, rfl, _, _, rfl, rfl, fun i h1 h2 => by simp [kk_s, kk_r, va_up, h1, h2], fun k' h1 => by simp [kk_s, kk_r, va_up, h1], rfl, Or.inr ⟨he, rfl, rfl, rfl⟩⟩
theorem wc_al_add1n0 (G : ag_T) (κ : ck_T) (μ : cm_T) (o : Nat → Int64) (rest : List va_E) {n j : Nat} {a : Nat → Option Nat} (hn : n < 8) (hsz : κ.1 5 = nI n) (he : κ.2.2 0 = .ref (G.1 + (j + 33))) (ha : rest[j]? = some (oa_c G a)) {p ci : Nat} {fs : List Value} (hp : rest[p]? = some (.inr (ci, fs))) (hc9 : ∃ r, am_cl[ci]? = some r ∧ Cond.castable r.1 "java/lang/Object" ∈ aw_N) : aw_w G mm_al_add1 4 87 1 10 0 (lv_args 0 [.ref (G.1 + 3), .ref (G.1 + (p + 33))]) [] (hp_f G κ μ o rest) (qe_i fun _ h' => ∃ κ' rest', h' = hp_f G κ' μ o rest' ∧ ad_P G κ rest 0 n p κ' rest') := by
  refine aw_aload_n dd_al_add1_0 rfl 0 rfl ?_
  refine aw_dup dd_al_add1_1 rfl ?_
  refine aw_getf _ 6 0 dd_al_add1_2 fl_al_63 rfl rfl ?_
  refine aw_iconst (v := 1) dd_al_add1_5 (by decide) ?_
  refine aw_iadd dd_al_add1_6 ?_
  refine aw_putf _ 6 0 dd_al_add1_7 fl_al_63 nf_al_0 rfl (rfl) (rfl) (Nat.le_of_ble_eq_true rfl) ?_
  refine aw_h (hs_ks4 G _ _ _ _ _) ?_
  refine aw_aload_n dd_al_add1_10 rfl 0 rfl ?_
  refine aw_aload_n dd_al_add1_11 rfl 1 rfl ?_
  refine aw_aload_n dd_al_add1_12 rfl 0 rfl ?_
  refine aw_getf _ 6 1 dd_al_add1_13 fl_al_9 rfl (congrArg some he) ?_
  refine aw_aload_n dd_al_add1_16 rfl 0 rfl ?_
  refine aw_getf _ 6 2 dd_al_add1_17 fl_al_48 rfl rfl ?_
  refine aw_top (hsz) ?_
  refine aw_cVv mm_al_add2 0 0 _ 6 [_, _, _] _ (wc_al_add2n0 G (kk_s κ 4 (κ.1 4 + 1)) μ o rest hn hsz he ha hp hc9) dd_al_add1_20 cv_al_131 my_al_add2 np_al_add2 rfl rfl rfl (by decide) rfl rfl (Nat.le_of_ble_eq_true rfl) (Nat.le_of_ble_eq_true rfl) ?_
  refine aw_iconst (v := 1) dd_al_add1_23 (by decide) ?_
  exact aw_zret dd_al_add1_24 rfl (by first | exact Or.inl rfl | exact Or.inr rfl) ⟨1, rfl, _, _, rfl, rfl, fun i h1 h2 => by simp [kk_s, va_up, h1, h2], fun k' h1 => rfl, rfl, Or.inl ⟨j, a, he, rfl, ha, rfl⟩⟩
theorem wc_al_add0 (G : ag_T) (κ : ck_T) (μ : cm_T) (o : Nat → Int64) (rest : List va_E) {α : Type} {ob : α → va_E} {ls : List α} (hL : rk_o ob G κ rest 0 ls) (h8 : ls.length < 8) {p ci : Nat} {fs : List Value} (hp : rest[p]? = some (.inr (ci, fs))) (hc9 : ∃ r, am_cl[ci]? = some r ∧ Cond.castable r.1 "java/lang/Object" ∈ aw_N) : aw_w G mm_al_add1 4 87 1 10 0 (lv_args 0 [.ref (G.1 + 3), .ref (G.1 + (p + 33))]) [] (hp_f G κ μ o rest) (qe_i fun _ h' => ∃ κ' rest', h' = hp_f G κ' μ o rest' ∧ ad_P G κ rest 0 ls.length p κ' rest') := by
  obtain ⟨ps, h1, h2, h3, h4, h5⟩ := hL
  rcases h4 with ⟨e, he⟩ | ⟨h0, j, a, g1, g2, g3⟩
  · subst e
    have e0 : ls.length = 0 := h1.symm
    rw [e0]
    exact wc_al_add1e0 G κ μ o rest he (by rw [← e0]; exact h2) hp hc9
  · exact wc_al_add1n0 G κ μ o rest h8 h2 g1 g2 hp hc9
theorem wc_al_grow21 (G : ag_T) (κ : ck_T) (μ : cm_T) (o : Nat → Int64) (rest : List va_E) (he : κ.2.2 1 = .ref G.2.2.2.2) (hsz : κ.1 7 = nI 0) : aw_w G mm_al_grow2 1 21 1 10 0 (lv_args 0 [.ref (G.1 + 4), .int (nI 1)]) [] (hp_f G κ μ o rest) (q_r (.ref (G.1 + (rest.length + 33))) (hp_f G (kk_r κ 1 (.ref (G.1 + (rest.length + 33)))) μ o (rest ++ [oa_c G (fun _ => none)]))) := by
  refine aw_aload_n dd_al_grow2_0 rfl 0 rfl ?_
  refine aw_getf _ 6 1 dd_al_grow2_1 fl_al_9 rfl (congrArg some he) ?_
  refine aw_elen dd_al_grow2_4 ?_
  refine aw_istore_n (lv' := [(2, _), (0, _), (1, _)]) dd_al_grow2_5 rfl (by decide) rfl ?_
  refine aw_iload_n dd_al_grow2_6 rfl 0 rfl ?_
  refine aw_if_gt (tgt := 20) dd_al_grow2_7 (by decide) (fun h9 => absurd h9 (by decide)) (fun _ => ?_)
  refine aw_aload_n dd_al_grow2_10 rfl 1 rfl ?_
  refine aw_getf _ 6 1 dd_al_grow2_11 fl_al_9 rfl (congrArg some he) ?_
  refine aw_gets dd_al_grow2_14 kf_al_39 ?_
  refine aw_acmp_eq (rx := some G.2.2.2.2) (ry := some G.2.2.2.2) (tgt := 45) dd_al_grow2_17 (by decide) (fun _ => ?_) (fun h9 => absurd rfl h9)
  refine aw_aload_n dd_al_grow2_45 rfl 1 rfl ?_
  refine aw_bipush (v := (nI 10)) dd_al_grow2_46 (by decide) ?_
  refine aw_iload_n dd_al_grow2_48 rfl 2 rfl ?_
  refine aw_cSi mm_ma_max 1 10 [_, _] _ (wc_ma_max G _ 1 (by decide)) dd_al_grow2_49 cs_al_79 my_ma_max np_ma_max rfl (by decide) rfl rfl (Nat.le_of_ble_eq_true rfl) (Nat.le_of_ble_eq_true rfl) ?_
  refine aw_newq (N := 10) (kc' := 0) (ks' := 0) dd_al_grow2_52 kc_al_7 (by decide) (by decide) (by decide) rfl rfl ?_
  rw [hp_l, hp_a]
  refine aw_dup_x1 dd_al_grow2_55 rfl rfl ?_
  refine aw_putf _ 6 1 dd_al_grow2_56 fl_al_9 nf_al_1 rfl (rfl) (rfl) (Nat.le_of_ble_eq_true rfl) ?_
  refine aw_h (hs_kr1 G _ _ _ _ _) ?_
  exact aw_aret dd_al_grow2_59 rfl (Or.inr ⟨_, rfl⟩) (Or.inr ⟨_, rfl⟩) ⟨rfl, rfl⟩
theorem wc_al_grow11 (G : ag_T) (κ : ck_T) (μ : cm_T) (o : Nat → Int64) (rest : List va_E) (he : κ.2.2 1 = .ref G.2.2.2.2) (hsz : κ.1 7 = nI 0) : aw_w G mm_al_grow1 2 44 1 10 0 (lv_args 0 [.ref (G.1 + 4)]) [] (hp_f G κ μ o rest) (q_r (.ref (G.1 + (rest.length + 33))) (hp_f G (kk_r κ 1 (.ref (G.1 + (rest.length + 33)))) μ o (rest ++ [oa_c G (fun _ => none)]))) := by
  refine aw_aload_n dd_al_grow1_0 rfl 0 rfl ?_
  refine aw_aload_n dd_al_grow1_1 rfl 0 rfl ?_
  refine aw_getf _ 6 2 dd_al_grow1_2 fl_al_48 rfl rfl ?_
  refine aw_top (hsz) ?_
  refine aw_iconst (v := 1) dd_al_grow1_5 (by decide) ?_
  refine aw_iadd dd_al_grow1_6 ?_
  refine aw_top (nI_1 _) ?_
  refine aw_cVr mm_al_grow2 0 0 _ 6 [_] _ (wc_al_grow21 G κ μ o rest he hsz) dd_al_grow1_7 cv_al_69 my_al_grow2 np_al_grow2 rfl rfl rfl (by decide) rfl rfl (Nat.le_of_ble_eq_true rfl) (Nat.le_of_ble_eq_true rfl) ?_
  exact aw_aret dd_al_grow1_10 rfl (Or.inr ⟨_, rfl⟩) (Or.inr ⟨_, rfl⟩) ⟨rfl, rfl⟩
theorem wc_al_add2e1 (G : ag_T) (κ : ck_T) (μ : cm_T) (o : Nat → Int64) (rest : List va_E) (he : κ.2.2 1 = .ref G.2.2.2.2) (hsz : κ.1 7 = nI 0) {p ci : Nat} {fs : List Value} (hp : rest[p]? = some (.inr (ci, fs))) (hc9 : ∃ r, am_cl[ci]? = some r ∧ Cond.castable r.1 "java/lang/Object" ∈ aw_N) : aw_w G mm_al_add2 3 64 1 10 0 (lv_args 0 [.ref (G.1 + 4), .ref (G.1 + (p + 33)), .ref G.2.2.2.2, .int (nI 0)]) [] (hp_f G κ μ o rest) (q_v (hp_f G (kk_s (kk_r κ 1 (.ref (G.1 + (rest.length + 33)))) 7 (nI 1)) μ o (rest ++ [oa_c G (va_up (fun _ => none) 0 (some (G.1 + (p + 33))))]))) := by
  refine aw_iload_n dd_al_add2_0 rfl 3 rfl ?_
  refine aw_aload_n dd_al_add2_1 rfl 2 rfl ?_
  refine aw_elen dd_al_add2_2 ?_
  refine aw_icmp_ne (tgt := 11) dd_al_add2_3 (by decide) (fun h9 => absurd (rfl) h9) (fun _ => ?_)
  refine aw_aload_n dd_al_add2_6 rfl 0 rfl ?_
  refine aw_cVr mm_al_grow1 0 0 _ 6 [] _ (wc_al_grow11 G κ μ o rest he hsz) dd_al_add2_7 cv_al_129 my_al_grow1 np_al_grow1 rfl rfl rfl (by decide) rfl rfl (Nat.le_of_ble_eq_true rfl) (Nat.le_of_ble_eq_true rfl) ?_
  refine aw_astore_n (lv' := [(2, _), (0, _), (1, _), (3, _)]) dd_al_add2_10 rfl (by decide) rfl ?_
  refine aw_aload_n dd_al_add2_11 rfl 0 rfl ?_
  refine aw_iload_n dd_al_add2_12 rfl 3 rfl ?_
  refine aw_aload_n dd_al_add2_13 rfl 2 rfl ?_
  refine aw_aast (rest.length + 33) (p + 33) ci (n := 10) 0 dd_al_add2_14 List.getElem?_concat_length (ga_l1 hp) hc9 (by decide) (by decide) ?_
  rw [hs_r]
  rw [show (rest ++ [oa_c G (fun _ => none)]).set rest.length (.inl (G.2.2.1 3, 10, .inr (.inr (.inr (.inr (va_up (fun _ => none) 0 (some (G.1 + (p + 33))))))))) = rest ++ [oa_c G (va_up (fun _ => none) 0 (some (G.1 + (p + 33))))] by rw [List.set_append_right _ _ (Nat.le_refl _), Nat.sub_self]; rfl]
  refine aw_aload_n dd_al_add2_15 rfl 1 rfl ?_
  refine aw_iload_n dd_al_add2_16 rfl 3 rfl ?_
  refine aw_iconst (v := 1) dd_al_add2_17 (by decide) ?_
  refine aw_iadd dd_al_add2_18 ?_
  refine aw_top (nI_1 _) ?_
  refine aw_putf _ 6 2 dd_al_add2_19 fl_al_48 nf_al_2 rfl (rfl) (rfl) (Nat.le_of_ble_eq_true rfl) ?_
  refine aw_h (hs_ks7 G _ _ _ _ _) ?_
  exact aw_vret dd_al_add2_22 rfl ⟨rfl, rfl⟩
theorem wc_al_add2n1 (G : ag_T) (κ : ck_T) (μ : cm_T) (o : Nat → Int64) (rest : List va_E) {n j : Nat} {a : Nat → Option Nat} (hn : n < 8) (hsz : κ.1 7 = nI n) (he : κ.2.2 1 = .ref (G.1 + (j + 33))) (ha : rest[j]? = some (oa_c G a)) {p ci : Nat} {fs : List Value} (hp : rest[p]? = some (.inr (ci, fs))) (hc9 : ∃ r, am_cl[ci]? = some r ∧ Cond.castable r.1 "java/lang/Object" ∈ aw_N) : aw_w G mm_al_add2 3 64 1 10 0 (lv_args 0 [.ref (G.1 + 4), .ref (G.1 + (p + 33)), .ref (G.1 + (j + 33)), .int (nI n)]) [] (hp_f G κ μ o rest) (q_v (hp_f G (kk_s κ 7 (nI (n + 1))) μ o (rest.set j (oa_c G (va_up a n (some (G.1 + (p + 33)))))))) := by
  refine aw_iload_n dd_al_add2_0 rfl 3 rfl ?_
  refine aw_aload_n dd_al_add2_1 rfl 2 rfl ?_
  refine aw_alen (j + 33) 3 (v := nI 10) dd_al_add2_2 ha rfl rfl ?_
  refine aw_icmp_ne (tgt := 11) dd_al_add2_3 (by decide) (fun _ => ?_) (fun h9 => absurd h9 (fun h9 => absurd ((nI_eq (by omega) (by decide)).mp h9) (by omega)))
  refine aw_aload_n dd_al_add2_11 rfl 2 rfl ?_
  refine aw_iload_n dd_al_add2_12 rfl 3 rfl ?_
  refine aw_aload_n dd_al_add2_13 rfl 1 rfl ?_
  refine aw_aast (j + 33) (p + 33) ci (n := 10) n dd_al_add2_14 ha hp hc9 (by omega) (by decide) ?_
  rw [hs_r]
  refine aw_aload_n dd_al_add2_15 rfl 0 rfl ?_
  refine aw_iload_n dd_al_add2_16 rfl 3 rfl ?_
  refine aw_iconst (v := 1) dd_al_add2_17 (by decide) ?_
  refine aw_iadd dd_al_add2_18 ?_
  refine aw_top (nI_1 _) ?_
  refine aw_putf _ 6 2 dd_al_add2_19 fl_al_48 nf_al_2 rfl (rfl) (rfl) (Nat.le_of_ble_eq_true rfl) ?_
  refine aw_h (hs_ks7 G _ _ _ _ _) ?_
  exact aw_vret dd_al_add2_22 rfl ⟨rfl, rfl⟩
theorem wc_al_add1e1 (G : ag_T) (κ : ck_T) (μ : cm_T) (o : Nat → Int64) (rest : List va_E) (he : κ.2.2 1 = .ref G.2.2.2.2) (hsz : κ.1 7 = nI 0) {p ci : Nat} {fs : List Value} (hp : rest[p]? = some (.inr (ci, fs))) (hc9 : ∃ r, am_cl[ci]? = some r ∧ Cond.castable r.1 "java/lang/Object" ∈ aw_N) : aw_w G mm_al_add1 4 87 1 10 0 (lv_args 0 [.ref (G.1 + 4), .ref (G.1 + (p + 33))]) [] (hp_f G κ μ o rest) (qe_i fun _ h' => ∃ κ' rest', h' = hp_f G κ' μ o rest' ∧ ad_P G κ rest 1 0 p κ' rest') := by
  refine aw_aload_n dd_al_add1_0 rfl 0 rfl ?_
  refine aw_dup dd_al_add1_1 rfl ?_
  refine aw_getf _ 6 0 dd_al_add1_2 fl_al_63 rfl rfl ?_
  refine aw_iconst (v := 1) dd_al_add1_5 (by decide) ?_
  refine aw_iadd dd_al_add1_6 ?_
  refine aw_putf _ 6 0 dd_al_add1_7 fl_al_63 nf_al_0 rfl (rfl) (rfl) (Nat.le_of_ble_eq_true rfl) ?_
  refine aw_h (hs_ks6 G _ _ _ _ _) ?_
  refine aw_aload_n dd_al_add1_10 rfl 0 rfl ?_
  refine aw_aload_n dd_al_add1_11 rfl 1 rfl ?_
  refine aw_aload_n dd_al_add1_12 rfl 0 rfl ?_
  refine aw_getf _ 6 1 dd_al_add1_13 fl_al_9 rfl (congrArg some he) ?_
  refine aw_aload_n dd_al_add1_16 rfl 0 rfl ?_
  refine aw_getf _ 6 2 dd_al_add1_17 fl_al_48 rfl rfl ?_
  refine aw_top (hsz) ?_
  refine aw_cVv mm_al_add2 0 0 _ 6 [_, _, _] _ (wc_al_add2e1 G (kk_s κ 6 (κ.1 6 + 1)) μ o rest he hsz hp hc9) dd_al_add1_20 cv_al_131 my_al_add2 np_al_add2 rfl rfl rfl (by decide) rfl rfl (Nat.le_of_ble_eq_true rfl) (Nat.le_of_ble_eq_true rfl) ?_
  refine aw_iconst (v := 1) dd_al_add1_23 (by decide) ?_
  exact aw_zret dd_al_add1_24 rfl (by first | exact Or.inl rfl | exact Or.inr rfl) ⟨1, rfl, _, _, rfl, rfl, fun i h1 h2 => by simp [kk_s, kk_r, va_up, h1, h2], fun k' h1 => by simp [kk_s, kk_r, va_up, h1], rfl, Or.inr ⟨he, rfl, rfl, rfl⟩⟩
theorem wc_al_add1n1 (G : ag_T) (κ : ck_T) (μ : cm_T) (o : Nat → Int64) (rest : List va_E) {n j : Nat} {a : Nat → Option Nat} (hn : n < 8) (hsz : κ.1 7 = nI n) (he : κ.2.2 1 = .ref (G.1 + (j + 33))) (ha : rest[j]? = some (oa_c G a)) {p ci : Nat} {fs : List Value} (hp : rest[p]? = some (.inr (ci, fs))) (hc9 : ∃ r, am_cl[ci]? = some r ∧ Cond.castable r.1 "java/lang/Object" ∈ aw_N) : aw_w G mm_al_add1 4 87 1 10 0 (lv_args 0 [.ref (G.1 + 4), .ref (G.1 + (p + 33))]) [] (hp_f G κ μ o rest) (qe_i fun _ h' => ∃ κ' rest', h' = hp_f G κ' μ o rest' ∧ ad_P G κ rest 1 n p κ' rest') := by
  refine aw_aload_n dd_al_add1_0 rfl 0 rfl ?_
  refine aw_dup dd_al_add1_1 rfl ?_
  refine aw_getf _ 6 0 dd_al_add1_2 fl_al_63 rfl rfl ?_
  refine aw_iconst (v := 1) dd_al_add1_5 (by decide) ?_
  refine aw_iadd dd_al_add1_6 ?_
  refine aw_putf _ 6 0 dd_al_add1_7 fl_al_63 nf_al_0 rfl (rfl) (rfl) (Nat.le_of_ble_eq_true rfl) ?_
  refine aw_h (hs_ks6 G _ _ _ _ _) ?_
  refine aw_aload_n dd_al_add1_10 rfl 0 rfl ?_
  refine aw_aload_n dd_al_add1_11 rfl 1 rfl ?_
  refine aw_aload_n dd_al_add1_12 rfl 0 rfl ?_
  refine aw_getf _ 6 1 dd_al_add1_13 fl_al_9 rfl (congrArg some he) ?_
  refine aw_aload_n dd_al_add1_16 rfl 0 rfl ?_
  refine aw_getf _ 6 2 dd_al_add1_17 fl_al_48 rfl rfl ?_
  refine aw_top (hsz) ?_
  refine aw_cVv mm_al_add2 0 0 _ 6 [_, _, _] _ (wc_al_add2n1 G (kk_s κ 6 (κ.1 6 + 1)) μ o rest hn hsz he ha hp hc9) dd_al_add1_20 cv_al_131 my_al_add2 np_al_add2 rfl rfl rfl (by decide) rfl rfl (Nat.le_of_ble_eq_true rfl) (Nat.le_of_ble_eq_true rfl) ?_
  refine aw_iconst (v := 1) dd_al_add1_23 (by decide) ?_
  exact aw_zret dd_al_add1_24 rfl (by first | exact Or.inl rfl | exact Or.inr rfl) ⟨1, rfl, _, _, rfl, rfl, fun i h1 h2 => by simp [kk_s, va_up, h1, h2], fun k' h1 => rfl, rfl, Or.inl ⟨j, a, he, rfl, ha, rfl⟩⟩
theorem wc_al_add1 (G : ag_T) (κ : ck_T) (μ : cm_T) (o : Nat → Int64) (rest : List va_E) {α : Type} {ob : α → va_E} {ls : List α} (hL : rk_o ob G κ rest 1 ls) (h8 : ls.length < 8) {p ci : Nat} {fs : List Value} (hp : rest[p]? = some (.inr (ci, fs))) (hc9 : ∃ r, am_cl[ci]? = some r ∧ Cond.castable r.1 "java/lang/Object" ∈ aw_N) : aw_w G mm_al_add1 4 87 1 10 0 (lv_args 0 [.ref (G.1 + 4), .ref (G.1 + (p + 33))]) [] (hp_f G κ μ o rest) (qe_i fun _ h' => ∃ κ' rest', h' = hp_f G κ' μ o rest' ∧ ad_P G κ rest 1 ls.length p κ' rest') := by
  obtain ⟨ps, h1, h2, h3, h4, h5⟩ := hL
  rcases h4 with ⟨e, he⟩ | ⟨h0, j, a, g1, g2, g3⟩
  · subst e
    have e0 : ls.length = 0 := h1.symm
    rw [e0]
    exact wc_al_add1e1 G κ μ o rest he (by rw [← e0]; exact h2) hp hc9
  · exact wc_al_add1n1 G κ μ o rest h8 h2 g1 g2 hp hc9
theorem wc_al_grow22 (G : ag_T) (κ : ck_T) (μ : cm_T) (o : Nat → Int64) (rest : List va_E) (he : κ.2.2 2 = .ref G.2.2.2.2) (hsz : κ.1 9 = nI 0) : aw_w G mm_al_grow2 1 21 1 10 0 (lv_args 0 [.ref (G.1 + 5), .int (nI 1)]) [] (hp_f G κ μ o rest) (q_r (.ref (G.1 + (rest.length + 33))) (hp_f G (kk_r κ 2 (.ref (G.1 + (rest.length + 33)))) μ o (rest ++ [oa_c G (fun _ => none)]))) := by
  refine aw_aload_n dd_al_grow2_0 rfl 0 rfl ?_
  refine aw_getf _ 6 1 dd_al_grow2_1 fl_al_9 rfl (congrArg some he) ?_
  refine aw_elen dd_al_grow2_4 ?_
  refine aw_istore_n (lv' := [(2, _), (0, _), (1, _)]) dd_al_grow2_5 rfl (by decide) rfl ?_
  refine aw_iload_n dd_al_grow2_6 rfl 0 rfl ?_
  refine aw_if_gt (tgt := 20) dd_al_grow2_7 (by decide) (fun h9 => absurd h9 (by decide)) (fun _ => ?_)
  refine aw_aload_n dd_al_grow2_10 rfl 1 rfl ?_
  refine aw_getf _ 6 1 dd_al_grow2_11 fl_al_9 rfl (congrArg some he) ?_
  refine aw_gets dd_al_grow2_14 kf_al_39 ?_
  refine aw_acmp_eq (rx := some G.2.2.2.2) (ry := some G.2.2.2.2) (tgt := 45) dd_al_grow2_17 (by decide) (fun _ => ?_) (fun h9 => absurd rfl h9)
  refine aw_aload_n dd_al_grow2_45 rfl 1 rfl ?_
  refine aw_bipush (v := (nI 10)) dd_al_grow2_46 (by decide) ?_
  refine aw_iload_n dd_al_grow2_48 rfl 2 rfl ?_
  refine aw_cSi mm_ma_max 1 10 [_, _] _ (wc_ma_max G _ 1 (by decide)) dd_al_grow2_49 cs_al_79 my_ma_max np_ma_max rfl (by decide) rfl rfl (Nat.le_of_ble_eq_true rfl) (Nat.le_of_ble_eq_true rfl) ?_
  refine aw_newq (N := 10) (kc' := 0) (ks' := 0) dd_al_grow2_52 kc_al_7 (by decide) (by decide) (by decide) rfl rfl ?_
  rw [hp_l, hp_a]
  refine aw_dup_x1 dd_al_grow2_55 rfl rfl ?_
  refine aw_putf _ 6 1 dd_al_grow2_56 fl_al_9 nf_al_1 rfl (rfl) (rfl) (Nat.le_of_ble_eq_true rfl) ?_
  refine aw_h (hs_kr2 G _ _ _ _ _) ?_
  exact aw_aret dd_al_grow2_59 rfl (Or.inr ⟨_, rfl⟩) (Or.inr ⟨_, rfl⟩) ⟨rfl, rfl⟩
theorem wc_al_grow12 (G : ag_T) (κ : ck_T) (μ : cm_T) (o : Nat → Int64) (rest : List va_E) (he : κ.2.2 2 = .ref G.2.2.2.2) (hsz : κ.1 9 = nI 0) : aw_w G mm_al_grow1 2 44 1 10 0 (lv_args 0 [.ref (G.1 + 5)]) [] (hp_f G κ μ o rest) (q_r (.ref (G.1 + (rest.length + 33))) (hp_f G (kk_r κ 2 (.ref (G.1 + (rest.length + 33)))) μ o (rest ++ [oa_c G (fun _ => none)]))) := by
  refine aw_aload_n dd_al_grow1_0 rfl 0 rfl ?_
  refine aw_aload_n dd_al_grow1_1 rfl 0 rfl ?_
  refine aw_getf _ 6 2 dd_al_grow1_2 fl_al_48 rfl rfl ?_
  refine aw_top (hsz) ?_
  refine aw_iconst (v := 1) dd_al_grow1_5 (by decide) ?_
  refine aw_iadd dd_al_grow1_6 ?_
  refine aw_top (nI_1 _) ?_
  refine aw_cVr mm_al_grow2 0 0 _ 6 [_] _ (wc_al_grow22 G κ μ o rest he hsz) dd_al_grow1_7 cv_al_69 my_al_grow2 np_al_grow2 rfl rfl rfl (by decide) rfl rfl (Nat.le_of_ble_eq_true rfl) (Nat.le_of_ble_eq_true rfl) ?_
  exact aw_aret dd_al_grow1_10 rfl (Or.inr ⟨_, rfl⟩) (Or.inr ⟨_, rfl⟩) ⟨rfl, rfl⟩
theorem wc_al_add2e2 (G : ag_T) (κ : ck_T) (μ : cm_T) (o : Nat → Int64) (rest : List va_E) (he : κ.2.2 2 = .ref G.2.2.2.2) (hsz : κ.1 9 = nI 0) {p ci : Nat} {fs : List Value} (hp : rest[p]? = some (.inr (ci, fs))) (hc9 : ∃ r, am_cl[ci]? = some r ∧ Cond.castable r.1 "java/lang/Object" ∈ aw_N) : aw_w G mm_al_add2 3 64 1 10 0 (lv_args 0 [.ref (G.1 + 5), .ref (G.1 + (p + 33)), .ref G.2.2.2.2, .int (nI 0)]) [] (hp_f G κ μ o rest) (q_v (hp_f G (kk_s (kk_r κ 2 (.ref (G.1 + (rest.length + 33)))) 9 (nI 1)) μ o (rest ++ [oa_c G (va_up (fun _ => none) 0 (some (G.1 + (p + 33))))]))) := by
  refine aw_iload_n dd_al_add2_0 rfl 3 rfl ?_
  refine aw_aload_n dd_al_add2_1 rfl 2 rfl ?_
  refine aw_elen dd_al_add2_2 ?_
  refine aw_icmp_ne (tgt := 11) dd_al_add2_3 (by decide) (fun h9 => absurd (rfl) h9) (fun _ => ?_)
  refine aw_aload_n dd_al_add2_6 rfl 0 rfl ?_
  refine aw_cVr mm_al_grow1 0 0 _ 6 [] _ (wc_al_grow12 G κ μ o rest he hsz) dd_al_add2_7 cv_al_129 my_al_grow1 np_al_grow1 rfl rfl rfl (by decide) rfl rfl (Nat.le_of_ble_eq_true rfl) (Nat.le_of_ble_eq_true rfl) ?_
  refine aw_astore_n (lv' := [(2, _), (0, _), (1, _), (3, _)]) dd_al_add2_10 rfl (by decide) rfl ?_
  refine aw_aload_n dd_al_add2_11 rfl 0 rfl ?_
  refine aw_iload_n dd_al_add2_12 rfl 3 rfl ?_
  refine aw_aload_n dd_al_add2_13 rfl 2 rfl ?_
  refine aw_aast (rest.length + 33) (p + 33) ci (n := 10) 0 dd_al_add2_14 List.getElem?_concat_length (ga_l1 hp) hc9 (by decide) (by decide) ?_
  rw [hs_r]
  rw [show (rest ++ [oa_c G (fun _ => none)]).set rest.length (.inl (G.2.2.1 3, 10, .inr (.inr (.inr (.inr (va_up (fun _ => none) 0 (some (G.1 + (p + 33))))))))) = rest ++ [oa_c G (va_up (fun _ => none) 0 (some (G.1 + (p + 33))))] by rw [List.set_append_right _ _ (Nat.le_refl _), Nat.sub_self]; rfl]
  refine aw_aload_n dd_al_add2_15 rfl 1 rfl ?_
  refine aw_iload_n dd_al_add2_16 rfl 3 rfl ?_
  refine aw_iconst (v := 1) dd_al_add2_17 (by decide) ?_
  refine aw_iadd dd_al_add2_18 ?_
  refine aw_top (nI_1 _) ?_
  refine aw_putf _ 6 2 dd_al_add2_19 fl_al_48 nf_al_2 rfl (rfl) (rfl) (Nat.le_of_ble_eq_true rfl) ?_
  refine aw_h (hs_ks9 G _ _ _ _ _) ?_
  exact aw_vret dd_al_add2_22 rfl ⟨rfl, rfl⟩
theorem wc_al_add2n2 (G : ag_T) (κ : ck_T) (μ : cm_T) (o : Nat → Int64) (rest : List va_E) {n j : Nat} {a : Nat → Option Nat} (hn : n < 8) (hsz : κ.1 9 = nI n) (he : κ.2.2 2 = .ref (G.1 + (j + 33))) (ha : rest[j]? = some (oa_c G a)) {p ci : Nat} {fs : List Value} (hp : rest[p]? = some (.inr (ci, fs))) (hc9 : ∃ r, am_cl[ci]? = some r ∧ Cond.castable r.1 "java/lang/Object" ∈ aw_N) : aw_w G mm_al_add2 3 64 1 10 0 (lv_args 0 [.ref (G.1 + 5), .ref (G.1 + (p + 33)), .ref (G.1 + (j + 33)), .int (nI n)]) [] (hp_f G κ μ o rest) (q_v (hp_f G (kk_s κ 9 (nI (n + 1))) μ o (rest.set j (oa_c G (va_up a n (some (G.1 + (p + 33)))))))) := by
  refine aw_iload_n dd_al_add2_0 rfl 3 rfl ?_
  refine aw_aload_n dd_al_add2_1 rfl 2 rfl ?_
  refine aw_alen (j + 33) 3 (v := nI 10) dd_al_add2_2 ha rfl rfl ?_
  refine aw_icmp_ne (tgt := 11) dd_al_add2_3 (by decide) (fun _ => ?_) (fun h9 => absurd h9 (fun h9 => absurd ((nI_eq (by omega) (by decide)).mp h9) (by omega)))
  refine aw_aload_n dd_al_add2_11 rfl 2 rfl ?_
  refine aw_iload_n dd_al_add2_12 rfl 3 rfl ?_
  refine aw_aload_n dd_al_add2_13 rfl 1 rfl ?_
  refine aw_aast (j + 33) (p + 33) ci (n := 10) n dd_al_add2_14 ha hp hc9 (by omega) (by decide) ?_
  rw [hs_r]
  refine aw_aload_n dd_al_add2_15 rfl 0 rfl ?_
  refine aw_iload_n dd_al_add2_16 rfl 3 rfl ?_
  refine aw_iconst (v := 1) dd_al_add2_17 (by decide) ?_
  refine aw_iadd dd_al_add2_18 ?_
  refine aw_top (nI_1 _) ?_
  refine aw_putf _ 6 2 dd_al_add2_19 fl_al_48 nf_al_2 rfl (rfl) (rfl) (Nat.le_of_ble_eq_true rfl) ?_
  refine aw_h (hs_ks9 G _ _ _ _ _) ?_
  exact aw_vret dd_al_add2_22 rfl ⟨rfl, rfl⟩
theorem wc_al_add1e2 (G : ag_T) (κ : ck_T) (μ : cm_T) (o : Nat → Int64) (rest : List va_E) (he : κ.2.2 2 = .ref G.2.2.2.2) (hsz : κ.1 9 = nI 0) {p ci : Nat} {fs : List Value} (hp : rest[p]? = some (.inr (ci, fs))) (hc9 : ∃ r, am_cl[ci]? = some r ∧ Cond.castable r.1 "java/lang/Object" ∈ aw_N) : aw_w G mm_al_add1 4 87 1 10 0 (lv_args 0 [.ref (G.1 + 5), .ref (G.1 + (p + 33))]) [] (hp_f G κ μ o rest) (qe_i fun _ h' => ∃ κ' rest', h' = hp_f G κ' μ o rest' ∧ ad_P G κ rest 2 0 p κ' rest') := by
  refine aw_aload_n dd_al_add1_0 rfl 0 rfl ?_
  refine aw_dup dd_al_add1_1 rfl ?_
  refine aw_getf _ 6 0 dd_al_add1_2 fl_al_63 rfl rfl ?_
  refine aw_iconst (v := 1) dd_al_add1_5 (by decide) ?_
  refine aw_iadd dd_al_add1_6 ?_
  refine aw_putf _ 6 0 dd_al_add1_7 fl_al_63 nf_al_0 rfl (rfl) (rfl) (Nat.le_of_ble_eq_true rfl) ?_
  refine aw_h (hs_ks8 G _ _ _ _ _) ?_
  refine aw_aload_n dd_al_add1_10 rfl 0 rfl ?_
  refine aw_aload_n dd_al_add1_11 rfl 1 rfl ?_
  refine aw_aload_n dd_al_add1_12 rfl 0 rfl ?_
  refine aw_getf _ 6 1 dd_al_add1_13 fl_al_9 rfl (congrArg some he) ?_
  refine aw_aload_n dd_al_add1_16 rfl 0 rfl ?_
  refine aw_getf _ 6 2 dd_al_add1_17 fl_al_48 rfl rfl ?_
  refine aw_top (hsz) ?_
  refine aw_cVv mm_al_add2 0 0 _ 6 [_, _, _] _ (wc_al_add2e2 G (kk_s κ 8 (κ.1 8 + 1)) μ o rest he hsz hp hc9) dd_al_add1_20 cv_al_131 my_al_add2 np_al_add2 rfl rfl rfl (by decide) rfl rfl (Nat.le_of_ble_eq_true rfl) (Nat.le_of_ble_eq_true rfl) ?_
  refine aw_iconst (v := 1) dd_al_add1_23 (by decide) ?_
  exact aw_zret dd_al_add1_24 rfl (by first | exact Or.inl rfl | exact Or.inr rfl) ⟨1, rfl, _, _, rfl, rfl, fun i h1 h2 => by simp [kk_s, kk_r, va_up, h1, h2], fun k' h1 => by simp [kk_s, kk_r, va_up, h1], rfl, Or.inr ⟨he, rfl, rfl, rfl⟩⟩
theorem wc_al_add1n2 (G : ag_T) (κ : ck_T) (μ : cm_T) (o : Nat → Int64) (rest : List va_E) {n j : Nat} {a : Nat → Option Nat} (hn : n < 8) (hsz : κ.1 9 = nI n) (he : κ.2.2 2 = .ref (G.1 + (j + 33))) (ha : rest[j]? = some (oa_c G a)) {p ci : Nat} {fs : List Value} (hp : rest[p]? = some (.inr (ci, fs))) (hc9 : ∃ r, am_cl[ci]? = some r ∧ Cond.castable r.1 "java/lang/Object" ∈ aw_N) : aw_w G mm_al_add1 4 87 1 10 0 (lv_args 0 [.ref (G.1 + 5), .ref (G.1 + (p + 33))]) [] (hp_f G κ μ o rest) (qe_i fun _ h' => ∃ κ' rest', h' = hp_f G κ' μ o rest' ∧ ad_P G κ rest 2 n p κ' rest') := by
  refine aw_aload_n dd_al_add1_0 rfl 0 rfl ?_
  refine aw_dup dd_al_add1_1 rfl ?_
  refine aw_getf _ 6 0 dd_al_add1_2 fl_al_63 rfl rfl ?_
  refine aw_iconst (v := 1) dd_al_add1_5 (by decide) ?_
  refine aw_iadd dd_al_add1_6 ?_
  refine aw_putf _ 6 0 dd_al_add1_7 fl_al_63 nf_al_0 rfl (rfl) (rfl) (Nat.le_of_ble_eq_true rfl) ?_
  refine aw_h (hs_ks8 G _ _ _ _ _) ?_
  refine aw_aload_n dd_al_add1_10 rfl 0 rfl ?_
  refine aw_aload_n dd_al_add1_11 rfl 1 rfl ?_
  refine aw_aload_n dd_al_add1_12 rfl 0 rfl ?_
  refine aw_getf _ 6 1 dd_al_add1_13 fl_al_9 rfl (congrArg some he) ?_
  refine aw_aload_n dd_al_add1_16 rfl 0 rfl ?_
  refine aw_getf _ 6 2 dd_al_add1_17 fl_al_48 rfl rfl ?_
  refine aw_top (hsz) ?_
  refine aw_cVv mm_al_add2 0 0 _ 6 [_, _, _] _ (wc_al_add2n2 G (kk_s κ 8 (κ.1 8 + 1)) μ o rest hn hsz he ha hp hc9) dd_al_add1_20 cv_al_131 my_al_add2 np_al_add2 rfl rfl rfl (by decide) rfl rfl (Nat.le_of_ble_eq_true rfl) (Nat.le_of_ble_eq_true rfl) ?_
  refine aw_iconst (v := 1) dd_al_add1_23 (by decide) ?_
  exact aw_zret dd_al_add1_24 rfl (by first | exact Or.inl rfl | exact Or.inr rfl) ⟨1, rfl, _, _, rfl, rfl, fun i h1 h2 => by simp [kk_s, va_up, h1, h2], fun k' h1 => rfl, rfl, Or.inl ⟨j, a, he, rfl, ha, rfl⟩⟩
theorem wc_al_add2 (G : ag_T) (κ : ck_T) (μ : cm_T) (o : Nat → Int64) (rest : List va_E) {α : Type} {ob : α → va_E} {ls : List α} (hL : rk_o ob G κ rest 2 ls) (h8 : ls.length < 8) {p ci : Nat} {fs : List Value} (hp : rest[p]? = some (.inr (ci, fs))) (hc9 : ∃ r, am_cl[ci]? = some r ∧ Cond.castable r.1 "java/lang/Object" ∈ aw_N) : aw_w G mm_al_add1 4 87 1 10 0 (lv_args 0 [.ref (G.1 + 5), .ref (G.1 + (p + 33))]) [] (hp_f G κ μ o rest) (qe_i fun _ h' => ∃ κ' rest', h' = hp_f G κ' μ o rest' ∧ ad_P G κ rest 2 ls.length p κ' rest') := by
  obtain ⟨ps, h1, h2, h3, h4, h5⟩ := hL
  rcases h4 with ⟨e, he⟩ | ⟨h0, j, a, g1, g2, g3⟩
  · subst e
    have e0 : ls.length = 0 := h1.symm
    rw [e0]
    exact wc_al_add1e2 G κ μ o rest he (by rw [← e0]; exact h2) hp hc9
  · exact wc_al_add1n2 G κ μ o rest h8 h2 g1 g2 hp hc9
