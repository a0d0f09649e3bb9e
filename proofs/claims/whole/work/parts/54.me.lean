/-! ===== the reference: limit, above ===== -/
theorem li_add {μ : cm_T} {K off : Nat} {ls : pl_T} (hL : rm_l μ K off ls) (h4 : ls.length < 4) {a : Nat} (ha : a < 64) {m : Int32} {μ' : cm_T} (e4 : μ'.2 4 K = nI (ls.length + 1)) (e5 : ∀ i, i ≤ ls.length → μ'.2 5 (off + i) = upd (μ.2 5) (off + ls.length) (nI a) (off + i)) (e6 : ∀ i, i ≤ ls.length → μ'.2 6 (off + i) = upd (μ.2 6) (off + ls.length) m (off + i)) : rm_l μ' K off (ls ++ [(a, m)]) := by
  refine ⟨by rw [e4, List.length_append]; rfl, by rw [List.length_append]; exact h4, fun i y hy => ?_⟩
  by_cases hi : i < ls.length
  · rw [List.getElem?_append_left hi] at hy
    obtain ⟨l1, l2, l3⟩ := hL.2.2 i y hy
    rw [e5 i (by omega), e6 i (by omega)]
    unfold upd
    rw [if_neg (by omega), if_neg (by omega)]
    exact ⟨l1, l2, l3⟩
  · have hi2 : i = ls.length := by
      have := (List.getElem?_eq_some_iff.mp hy).1
      rw [List.length_append] at this
      simp at this
      omega
    subst hi2
    rw [List.getElem?_concat_length] at hy
    cases hy
    rw [e5 _ (Nat.le_refl _), e6 _ (Nat.le_refl _)]
    unfold upd
    rw [if_pos rfl, if_pos rfl]
    exact ⟨rfl, rfl, ha⟩
theorem li_oth {μ : cm_T} {K off : Nat} {ls : pl_T} (hL : rm_l μ K off ls) {μ' : cm_T} (e4 : μ'.2 4 K = μ.2 4 K) (e5 : ∀ i, i < ls.length → μ'.2 5 (off + i) = μ.2 5 (off + i)) (e6 : ∀ i, i < ls.length → μ'.2 6 (off + i) = μ.2 6 (off + i)) : rm_l μ' K off ls := by
  refine ⟨by rw [e4]; exact hL.1, hL.2.1, fun i y hy => ?_⟩
  have := (List.getElem?_eq_some_iff.mp hy).1
  rw [e5 i this, e6 i this]
  exact hL.2.2 i y hy
theorem wm_mo_limit1 (G : ag_T) (κ : ck_T) (μ : cm_T) (o : Nat → Int64) (rest : List va_E) {A : aa_T} (hR : rm_R μ A) (m : Int32) {a : Nat} (ha : a < 64) (h4 : (ga_d A).length < 4) : aw_w G mm_mo_limit 3 69 0 0 178 [(7, .int (nI 4)), (6, .int (zb_i (pa_k (fun i => !(ga_o A i).isSome || pk_l (ga_d A ++ [(a, m)]) (ga_c A i)) 4))), (5, .int (nI (4 + (ga_d A).length))), (4, .int (nI 1)), (0, .ref (G.1 + 13)), (1, .int (zb_i true)), (2, .int (nI a)), (3, .int m)] [] (hp_f G κ (km_a (km_a (km_a μ 5 (4 + (ga_d A).length) (nI a)) 6 (4 + (ga_d A).length) m) 4 1 (nI ((ga_d A).length + 1))) o rest) (qm_V G κ o rest (if pa_k (fun i => !(ga_o A i).isSome || pk_l (ga_d A ++ [(a, m)]) (ga_c A i)) 4 = true then (0, 0, sa_d A (ga_d A ++ [(a, m)])) else (2, 0, A))) := by
  obtain ⟨hB, hGr, hU, hSL, hDL, hRs, hSs⟩ := id hR; have hn6 := hB.2.1; have hu5 := hU.2.1
  refine aw_aload_n dd_mo_limit_178 rfl 4 rfl ?_
  refine aw_iload dd_mo_limit_179 1 rfl ?_
  refine aw_iconst (v := 2) dd_mo_limit_181 (by decide) ?_
  refine aw_cVi mm_mo_when 0 0 _ 5 [_, _] _ (wc_mo_when G κ _ o rest _ _) dd_mo_limit_182 cv_mo_86 my_mo_when np_mo_when rfl rfl rfl (by decide) rfl rfl (Nat.le_of_ble_eq_true rfl) (Nat.le_of_ble_eq_true rfl) ?_
  refine aw_if_ne (tgt := 199) dd_mo_limit_185 (by decide) (fun hw => ?_) (fun hw => ?_)
  · replace hw := zb_n0 hw
    rw [show (if pa_k (fun i => !(ga_o A i).isSome || pk_l (ga_d A ++ [(a, m)]) (ga_c A i)) 4 = true then ((0, 0, sa_d A (ga_d A ++ [(a, m)])) : ar_T) else (2, 0, A)) = (0, 0, sa_d A (ga_d A ++ [(a, m)])) from if_pos hw]
    exact aw_vret dd_mo_limit_199 rfl (by first | exact ⟨rfl, _, rfl, ⟨hB, hGr, hU, li_oth hSL rfl (fun i hi => by show upd _ _ _ _ = _; unfold upd; rw [if_neg (by have := hSL.2.1; omega)]; try rfl) (fun i hi => by show upd _ _ _ _ = _; unfold upd; rw [if_neg (by have := hSL.2.1; omega)]; try rfl), li_add hDL h4 ha rfl (fun i _ => rfl) (fun i _ => rfl), hRs, hSs⟩, wn_t (bt_ne hw)⟩ | exact ⟨rfl, _, rfl, ⟨hB, hGr, hU, li_oth hSL rfl (fun i hi => by show upd _ _ _ _ = _; unfold upd; rw [if_neg (by have := hSL.2.1; omega)]; try rfl) (fun i hi => by show upd _ _ _ _ = _; unfold upd; rw [if_neg (by have := hSL.2.1; omega)]; try rfl), li_oth hDL hDL.1.symm (fun i hi => by show upd _ _ _ _ = _; unfold upd; rw [if_neg (by omega)]; try rfl) (fun i hi => by show upd _ _ _ _ = _; unfold upd; rw [if_neg (by omega)]; try rfl), hRs, hSs⟩, wn_f hw⟩)
  · replace hw := zb_e0 hw
    rw [show (if pa_k (fun i => !(ga_o A i).isSome || pk_l (ga_d A ++ [(a, m)]) (ga_c A i)) 4 = true then ((0, 0, sa_d A (ga_d A ++ [(a, m)])) : ar_T) else (2, 0, A)) = (2, 0, A) from if_neg (show ¬ pa_k (fun i => !(ga_o A i).isSome || pk_l (ga_d A ++ [(a, m)]) (ga_c A i)) 4 = true by rw [hw]; decide)]
    refine aw_aload_n dd_mo_limit_188 rfl 4 rfl ?_
    refine aw_getf _ 5 7 dd_mo_limit_189 fl_mo_22 rfl rfl ?_
    refine aw_iload dd_mo_limit_192 3 rfl ?_
    refine aw_dup2 dd_mo_limit_194 rfl rfl ?_
    refine aw_iaN _ (1) dd_mo_limit_195 rfl (by decide) (by decide) ?_
    refine aw_top (y := nI ((ga_d A).length + 1)) rfl ?_
    refine aw_iconst (v := 1) dd_mo_limit_196 (by decide) ?_
    refine aw_isub dd_mo_limit_197 ?_
    refine aw_top (nI_pred _) ?_
    refine aw_isN _ (1) dd_mo_limit_198 rfl (by decide) (by decide) ?_
    refine aw_h (hs_ma4 G _ _ _ _ _ _) ?_
    exact aw_vret dd_mo_limit_199 rfl (by first | exact ⟨rfl, _, rfl, ⟨hB, hGr, hU, li_oth hSL rfl (fun i hi => by show upd _ _ _ _ = _; unfold upd; rw [if_neg (by have := hSL.2.1; omega)]; try rfl) (fun i hi => by show upd _ _ _ _ = _; unfold upd; rw [if_neg (by have := hSL.2.1; omega)]; try rfl), li_add hDL h4 ha rfl (fun i _ => rfl) (fun i _ => rfl), hRs, hSs⟩, wn_t (bt_ne hw)⟩ | exact ⟨rfl, _, rfl, ⟨hB, hGr, hU, li_oth hSL rfl (fun i hi => by show upd _ _ _ _ = _; unfold upd; rw [if_neg (by have := hSL.2.1; omega)]; try rfl) (fun i hi => by show upd _ _ _ _ = _; unfold upd; rw [if_neg (by have := hSL.2.1; omega)]; try rfl), li_oth hDL hDL.1.symm (fun i hi => by show upd _ _ _ _ = _; unfold upd; rw [if_neg (by omega)]; try rfl) (fun i hi => by show upd _ _ _ _ = _; unfold upd; rw [if_neg (by omega)]; try rfl), hRs, hSs⟩, wn_f hw⟩)
theorem wl_mo_limit1 (G : ag_T) (κ : ck_T) (μ : cm_T) (o : Nat → Int64) (rest : List va_E) {A : aa_T} (hR : rm_R μ A) (m : Int32) {a : Nat} (ha : a < 64) (h4 : (ga_d A).length < 4) : ∀ (k r : Nat), r + k = 4 → aw_w G mm_mo_limit 3 69 0 0 126 [(7, .int (nI r)), (6, .int (zb_i (pa_k (fun i => !(ga_o A i).isSome || pk_l (ga_d A ++ [(a, m)]) (ga_c A i)) r))), (5, .int (nI (4 + (ga_d A).length))), (4, .int (nI 1)), (0, .ref (G.1 + 13)), (1, .int (zb_i true)), (2, .int (nI a)), (3, .int m)] [] (hp_f G κ (km_a (km_a (km_a μ 5 (4 + (ga_d A).length) (nI a)) 6 (4 + (ga_d A).length) m) 4 1 (nI ((ga_d A).length + 1))) o rest) (qm_V G κ o rest (if pa_k (fun i => !(ga_o A i).isSome || pk_l (ga_d A ++ [(a, m)]) (ga_c A i)) 4 = true then (0, 0, sa_d A (ga_d A ++ [(a, m)])) else (2, 0, A))) := by
  obtain ⟨hB, hGr, hU, hSL, hDL, hRs, hSs⟩ := id hR; have hn6 := hB.2.1; have hu5 := hU.2.1
  intro k
  induction k with
  | zero =>
    intro r hr
    have e : r = 4 := by omega
    subst e
    refine aw_iload dd_mo_limit_126 0 rfl ?_
    refine aw_iconst (v := 4) dd_mo_limit_128 (by decide) ?_
    refine aw_icmp_ge (tgt := 178) dd_mo_limit_129 (by decide) (fun _ => ?_) (fun h9 => absurd (nI_le (a := 4) (b := 4) (by decide) (by decide)) h9)
    exact wm_mo_limit1 G κ μ o rest hR m ha h4
  | succ k ih =>
    intro r hr
    refine aw_iload dd_mo_limit_126 0 rfl ?_
    refine aw_iconst (v := 4) dd_mo_limit_128 (by decide) ?_
    refine aw_icmp_ge (tgt := 178) dd_mo_limit_129 (by decide) (fun h9 => absurd h9 (nI_ge (b := 4) (by omega) (by decide))) (fun _ => ?_)
    refine aw_join (tgt := 170) (v := zb_i (pa_k (fun i => !(ga_o A i).isSome || pk_l (ga_d A ++ [(a, m)]) (ga_c A i)) (r + 1))) ?_ (fun kj132 => ?_)
    · refine aw_istore (lv' := [(6, _), (7, _), (5, _), (4, _), (0, _), (1, _), (2, _), (3, _)]) dd_mo_limit_170 (by decide) rfl ?_
      refine aw_iinc (v := nI (r + 1)) (lv' := [(7, _), (6, _), (5, _), (4, _), (0, _), (1, _), (2, _), (3, _)]) dd_mo_limit_172 1 rfl (nI_1 _) (by decide) rfl ?_
      refine aw_goto (tgt := 126) dd_mo_limit_175 (by decide) ?_
      exact ih (r + 1) (by omega)
    · refine aw_iload dd_mo_limit_132 1 rfl ?_
      refine aw_if_eq (tgt := 169) dd_mo_limit_134 (by decide) (fun h1 => ?_) (fun h1 => ?_)
      · refine aw_iconst (v := 0) dd_mo_limit_169 (by decide) ?_
        exact aw_top (by simp only [zb_q0, zb_q1, Bool.not_eq_false, Bool.not_eq_true] at *; simp_all [zb_i, pa_k]) kj132
      · refine aw_iload_n dd_mo_limit_137 rfl 5 rfl ?_
        refine aw_if_eq (tgt := 165) dd_mo_limit_138 (by decide) (fun h9 => absurd h9 (by decide)) (fun _ => ?_)
        refine aw_aload_n dd_mo_limit_141 rfl 4 rfl ?_
        refine aw_getf _ 5 10 dd_mo_limit_142 fl_mo_31 rfl rfl ?_
        refine aw_iload dd_mo_limit_145 0 rfl ?_
        refine aw_zaN _ (r) dd_mo_limit_147 rfl (by omega) (by decide) ?_
        refine aw_top (hSs.1 r (by omega)).1 ?_
        refine aw_if_eq (tgt := 165) dd_mo_limit_148 (by decide) (fun h2 => ?_) (fun h2 => ?_)
        · refine aw_iconst (v := 1) dd_mo_limit_165 (by decide) ?_
          refine aw_goto (tgt := 170) dd_mo_limit_166 (by decide) ?_
          exact aw_top (by simp only [zb_q0, zb_q1, Bool.not_eq_false, Bool.not_eq_true] at *; simp_all [zb_i, pa_k]) kj132
        · obtain ⟨v, hv⟩ := Option.isSome_iff_exists.mp (zb_n0 h2)
          obtain ⟨g1, g2, g3⟩ := (hSs.1 r (by omega)).2 v hv
          refine aw_aload_n dd_mo_limit_151 rfl 4 rfl ?_
          refine aw_aload_n dd_mo_limit_152 rfl 4 rfl ?_
          refine aw_getf _ 5 12 dd_mo_limit_153 fl_mo_38 rfl rfl ?_
          refine aw_iload dd_mo_limit_156 0 rfl ?_
          refine aw_iaN _ (r) dd_mo_limit_158 rfl (by omega) (by decide) ?_
          refine aw_top g3 ?_
          refine aw_cVi mm_mo_dynamicKept 0 0 _ 5 [_] _ (wc_mo_dynamicKept G κ (km_a (km_a (km_a μ 5 (4 + (ga_d A).length) (nI a)) 6 (4 + (ga_d A).length) m) 4 1 (nI ((ga_d A).length + 1))) o rest (dl := ga_d A ++ [(a, m)]) (li_add hDL h4 ha rfl (fun i _ => rfl) (fun i _ => rfl)) (hSs.2 r)) dd_mo_limit_159 cv_mo_97 my_mo_dynamicKept np_mo_dynamicKept rfl rfl rfl (by decide) rfl rfl (Nat.le_of_ble_eq_true rfl) (Nat.le_of_ble_eq_true rfl) ?_
          refine aw_if_eq (tgt := 169) dd_mo_limit_162 (by decide) (fun h3 => ?_) (fun h3 => ?_)
          · refine aw_iconst (v := 0) dd_mo_limit_169 (by decide) ?_
            exact aw_top (by simp only [zb_q0, zb_q1, Bool.not_eq_false, Bool.not_eq_true] at *; simp_all [zb_i, pa_k]) kj132
          · refine aw_iconst (v := 1) dd_mo_limit_165 (by decide) ?_
            refine aw_goto (tgt := 170) dd_mo_limit_166 (by decide) ?_
            exact aw_top (by simp only [zb_q0, zb_q1, Bool.not_eq_false, Bool.not_eq_true] at *; simp_all [zb_i, pa_k]) kj132
theorem wc_mo_limit1 (G : ag_T) (κ : ck_T) (μ : cm_T) (o : Nat → Int64) (rest : List va_E) {A : aa_T} (hR : rm_R μ A) (s m : Int32) : aw_w G mm_mo_limit 3 69 0 0 0 (lv_args 0 [.ref (G.1 + 13), .int (zb_i true), .int s, .int m]) [] (hp_f G κ μ o rest) (qm_V G κ o rest (ab_limit A true s m)) := by
  obtain ⟨hB, hGr, hU, hSL, hDL, hRs, hSs⟩ := id hR; have hn6 := hB.2.1; have hu5 := hU.2.1
  have hl4 := hDL.2.1
  refine aw_iload_n dd_mo_limit_0 rfl 1 rfl ?_
  refine aw_if_eq (tgt := 8) dd_mo_limit_1 (by decide) (fun h9 => absurd h9 (by decide)) (fun _ => ?_)
  refine aw_iconst (v := (nI 1)) dd_mo_limit_4 (by decide) ?_
  refine aw_goto (tgt := 9) dd_mo_limit_5 (by decide) ?_
  refine aw_istore (lv' := [(4, _), (0, _), (1, _), (2, _), (3, _)]) dd_mo_limit_9 (by decide) rfl ?_
  refine aw_aload_n dd_mo_limit_11 rfl 1 rfl ?_
  refine aw_join (tgt := 32) (v := zb_i (decide (¬ m < 2) && st_i s)) ?_ (fun kj12 => ?_)
  · refine aw_iconst (v := 1) dd_mo_limit_32 (by decide) ?_
    refine aw_cVi mm_mo_when 0 0 _ 5 [_, _] _ (wc_mo_when G κ _ o rest _ _) dd_mo_limit_33 cv_mo_86 my_mo_when np_mo_when rfl rfl rfl (by decide) rfl rfl (Nat.le_of_ble_eq_true rfl) (Nat.le_of_ble_eq_true rfl) ?_
    refine aw_if_eq (tgt := 63) dd_mo_limit_36 (by decide) (fun hw => ?_) (fun hw => ?_)
    · replace hw := zb_e0 hw
      rw [ab_limit, if_pos hw]
      exact aw_vret dd_mo_limit_63 rfl ⟨rfl, _, rfl, hR, wn_f hw⟩
    · have hw1 := bt_ne (zb_n0 hw)
      clear hw
      obtain ⟨h8, h9⟩ := Bool.and_eq_true_iff.mp (Bool.not_eq_false _ ▸ hw1)
      obtain ⟨a, ha, rfl⟩ := st_n h9
      rw [ab_limit, if_neg hw1, iN_n (by omega)]
      refine aw_aload_n dd_mo_limit_39 rfl 1 rfl ?_
      refine aw_join (tgt := 56) (v := zb_i (decide ((ga_d A).length < 4))) ?_ (fun kj40 => ?_)
      · refine aw_iconst (v := 2) dd_mo_limit_56 (by decide) ?_
        refine aw_cVi mm_mo_when 0 0 _ 5 [_, _] _ (wc_mo_when G κ _ o rest _ _) dd_mo_limit_57 cv_mo_86 my_mo_when np_mo_when rfl rfl rfl (by decide) rfl rfl (Nat.le_of_ble_eq_true rfl) (Nat.le_of_ble_eq_true rfl) ?_
        refine aw_if_ne (tgt := 64) dd_mo_limit_60 (by decide) (fun hw => ?_) (fun hw => ?_)
        · have hw3 := bt_ne (zb_n0 hw)
          clear hw
          have h4 : (ga_d A).length < 4 := by simpa using hw3
          rw [if_neg (show ¬ ¬ (if true = true then ga_d A else ga_s A).length < 4 from fun h9 => h9 h4), if_pos rfl]
          refine aw_iconst (v := (nI 4)) dd_mo_limit_64 (by decide) ?_
          refine aw_iload dd_mo_limit_65 0 rfl ?_
          refine aw_imul dd_mo_limit_67 ?_
          refine aw_top (y := nI 4) rfl ?_
          refine aw_aload_n dd_mo_limit_68 rfl 1 rfl ?_
          refine aw_getf _ 5 7 dd_mo_limit_69 fl_mo_22 rfl rfl ?_
          refine aw_iload dd_mo_limit_72 0 rfl ?_
          refine aw_iaN _ (1) dd_mo_limit_74 rfl (by decide) (by decide) ?_
          refine aw_top hDL.1 ?_
          refine aw_iadd dd_mo_limit_75 ?_
          refine aw_top (nI_add _ _) ?_
          refine aw_istore (lv' := [(5, _), (4, _), (0, _), (1, _), (2, _), (3, _)]) dd_mo_limit_76 (by decide) rfl ?_
          refine aw_aload_n dd_mo_limit_78 rfl 2 rfl ?_
          refine aw_getf _ 5 8 dd_mo_limit_79 fl_mo_25 rfl rfl ?_
          refine aw_iload dd_mo_limit_82 0 rfl ?_
          refine aw_iload_n dd_mo_limit_84 rfl 4 rfl ?_
          refine aw_isN _ (4 + (ga_d A).length) dd_mo_limit_85 rfl (by omega) (by decide) ?_
          refine aw_h (hs_ma5 G _ _ _ _ _ _) ?_
          refine aw_aload_n dd_mo_limit_86 rfl 2 rfl ?_
          refine aw_getf _ 5 9 dd_mo_limit_87 fl_mo_28 rfl rfl ?_
          refine aw_iload dd_mo_limit_90 0 rfl ?_
          refine aw_iload_n dd_mo_limit_92 rfl 5 rfl ?_
          refine aw_isN _ (4 + (ga_d A).length) dd_mo_limit_93 rfl (by omega) (by decide) ?_
          refine aw_h (hs_ma6 G _ _ _ _ _ _) ?_
          refine aw_aload_n dd_mo_limit_94 rfl 2 rfl ?_
          refine aw_getf _ 5 7 dd_mo_limit_95 fl_mo_22 rfl rfl ?_
          refine aw_iload dd_mo_limit_98 1 rfl ?_
          refine aw_dup2 dd_mo_limit_100 rfl rfl ?_
          refine aw_iaN _ (1) dd_mo_limit_101 rfl (by decide) (by decide) ?_
          refine aw_top hDL.1 ?_
          refine aw_iconst (v := 1) dd_mo_limit_102 (by decide) ?_
          refine aw_iadd dd_mo_limit_103 ?_
          refine aw_top (nI_1 _) ?_
          refine aw_isN _ (1) dd_mo_limit_104 rfl (by decide) (by decide) ?_
          refine aw_h (hs_ma4 G _ _ _ _ _ _) ?_
          refine aw_iload_n dd_mo_limit_105 rfl 3 rfl ?_
          refine aw_if_ne (tgt := 116) dd_mo_limit_106 (by decide) (fun _ => ?_) (fun h9 => absurd h9 (by decide))
          refine aw_iconst (v := 1) dd_mo_limit_116 (by decide) ?_
          refine aw_goto (tgt := 121) dd_mo_limit_117 (by decide) ?_
          refine aw_istore (lv' := [(6, _), (5, _), (4, _), (0, _), (1, _), (2, _), (3, _)]) dd_mo_limit_121 (by decide) rfl ?_
          refine aw_iconst (v := 0) dd_mo_limit_123 (by decide) ?_
          refine aw_istore (lv' := [(7, _), (6, _), (5, _), (4, _), (0, _), (1, _), (2, _), (3, _)]) dd_mo_limit_124 (by decide) rfl ?_
          exact wl_mo_limit1 G κ (km_s (km_s μ 0 (if (decide (¬ m < 2) && st_i (nI a)) = true then 0 else 1)) 0 (if (decide ((ga_d A).length < 4)) = true then 0 else 2)) o rest hR m ha h4 4 0 rfl
        · replace hw := zb_e0 hw
          rw [if_pos (show ¬ (if true = true then ga_d A else ga_s A).length < 4 by simpa using hw)]
          exact aw_vret dd_mo_limit_63 rfl ⟨rfl, _, rfl, hR, wn_f hw⟩
      · refine aw_aload_n dd_mo_limit_40 rfl 1 rfl ?_
        refine aw_getf _ 5 7 dd_mo_limit_41 fl_mo_22 rfl rfl ?_
        refine aw_iload dd_mo_limit_44 0 rfl ?_
        refine aw_iaN _ (1) dd_mo_limit_46 rfl (by decide) (by decide) ?_
        refine aw_top hDL.1 ?_
        refine aw_iconst (v := (nI 4)) dd_mo_limit_47 (by decide) ?_
        refine aw_icmp_ge (tgt := 55) dd_mo_limit_48 (by decide) (fun h5 => ?_) (fun h5 => ?_)
        · refine aw_iconst (v := 0) dd_mo_limit_55 (by decide) ?_
          exact aw_top (by rw [nI_leI (by omega) (by omega)] at h5; simp [zb_i]; omega) kj40
        · refine aw_iconst (v := 1) dd_mo_limit_51 (by decide) ?_
          refine aw_goto (tgt := 56) dd_mo_limit_52 (by decide) ?_
          exact aw_top (by rw [nI_leI (by omega) (by omega)] at h5; simp [zb_i]; omega) kj40
  · refine aw_iload_n dd_mo_limit_12 rfl 4 rfl ?_
    refine aw_iconst (v := 2) dd_mo_limit_13 (by decide) ?_
    refine aw_icmp_lt (tgt := 31) dd_mo_limit_14 (by decide) (fun h1 => ?_) (fun h1 => ?_)
    · refine aw_iconst (v := 0) dd_mo_limit_31 (by decide) ?_
      exact aw_top (by simp_all [zb_i, st_i]) kj12
    · refine aw_iload_n dd_mo_limit_17 rfl 3 rfl ?_
      refine aw_if_lt (tgt := 31) dd_mo_limit_18 (by decide) (fun h2 => ?_) (fun h2 => ?_)
      · refine aw_iconst (v := 0) dd_mo_limit_31 (by decide) ?_
        exact aw_top (by simp_all [zb_i, st_i]) kj12
      · refine aw_iload_n dd_mo_limit_21 rfl 3 rfl ?_
        refine aw_bipush (v := 63) dd_mo_limit_22 (by decide) ?_
        refine aw_icmp_gt (tgt := 31) dd_mo_limit_24 (by decide) (fun h3 => ?_) (fun h3 => ?_)
        · refine aw_iconst (v := 0) dd_mo_limit_31 (by decide) ?_
          exact aw_top (by simp_all [zb_i, st_i]) kj12
        · refine aw_iconst (v := 1) dd_mo_limit_27 (by decide) ?_
          refine aw_goto (tgt := 32) dd_mo_limit_28 (by decide) ?_
          exact aw_top (by simp_all [zb_i, st_i]) kj12
theorem wm_mo_limit0 (G : ag_T) (κ : ck_T) (μ : cm_T) (o : Nat → Int64) (rest : List va_E) {A : aa_T} (hR : rm_R μ A) (m : Int32) {a : Nat} (ha : a < 64) (h4 : (ga_s A).length < 4) : aw_w G mm_mo_limit 3 69 0 0 178 [(7, .int (nI 4)), (6, .int (zb_i (pa_k (fun v => pk_l (ga_s A ++ [(a, m)]) (ga_l A (ga_a A v))) (ga_u A)))), (5, .int (nI (0 + (ga_s A).length))), (4, .int (nI 0)), (0, .ref (G.1 + 13)), (1, .int (zb_i false)), (2, .int (nI a)), (3, .int m)] [] (hp_f G κ (km_a (km_a (km_a μ 5 (0 + (ga_s A).length) (nI a)) 6 (0 + (ga_s A).length) m) 4 0 (nI ((ga_s A).length + 1))) o rest) (qm_V G κ o rest (if pa_k (fun v => pk_l (ga_s A ++ [(a, m)]) (ga_l A (ga_a A v))) (ga_u A) = true then (0, 0, sa_s A (ga_s A ++ [(a, m)])) else (2, 0, A))) := by
  obtain ⟨hB, hGr, hU, hSL, hDL, hRs, hSs⟩ := id hR; have hn6 := hB.2.1; have hu5 := hU.2.1
  refine aw_aload_n dd_mo_limit_178 rfl 4 rfl ?_
  refine aw_iload dd_mo_limit_179 1 rfl ?_
  refine aw_iconst (v := 2) dd_mo_limit_181 (by decide) ?_
  refine aw_cVi mm_mo_when 0 0 _ 5 [_, _] _ (wc_mo_when G κ _ o rest _ _) dd_mo_limit_182 cv_mo_86 my_mo_when np_mo_when rfl rfl rfl (by decide) rfl rfl (Nat.le_of_ble_eq_true rfl) (Nat.le_of_ble_eq_true rfl) ?_
  refine aw_if_ne (tgt := 199) dd_mo_limit_185 (by decide) (fun hw => ?_) (fun hw => ?_)
  · replace hw := zb_n0 hw
    rw [show (if pa_k (fun v => pk_l (ga_s A ++ [(a, m)]) (ga_l A (ga_a A v))) (ga_u A) = true then ((0, 0, sa_s A (ga_s A ++ [(a, m)])) : ar_T) else (2, 0, A)) = (0, 0, sa_s A (ga_s A ++ [(a, m)])) from if_pos hw]
    exact aw_vret dd_mo_limit_199 rfl (by first | exact ⟨rfl, _, rfl, ⟨hB, hGr, hU, li_add hSL h4 ha rfl (fun i _ => rfl) (fun i _ => rfl), li_oth hDL rfl (fun i hi => by show upd _ _ _ _ = _; unfold upd; rw [if_neg (by omega)]; try rfl) (fun i hi => by show upd _ _ _ _ = _; unfold upd; rw [if_neg (by omega)]; try rfl), hRs, hSs⟩, wn_t (bt_ne hw)⟩ | exact ⟨rfl, _, rfl, ⟨hB, hGr, hU, li_oth hSL hSL.1.symm (fun i hi => by show upd _ _ _ _ = _; unfold upd; rw [if_neg (by omega)]; try rfl) (fun i hi => by show upd _ _ _ _ = _; unfold upd; rw [if_neg (by omega)]; try rfl), li_oth hDL rfl (fun i hi => by show upd _ _ _ _ = _; unfold upd; rw [if_neg (by omega)]; try rfl) (fun i hi => by show upd _ _ _ _ = _; unfold upd; rw [if_neg (by omega)]; try rfl), hRs, hSs⟩, wn_f hw⟩)
  · replace hw := zb_e0 hw
    rw [show (if pa_k (fun v => pk_l (ga_s A ++ [(a, m)]) (ga_l A (ga_a A v))) (ga_u A) = true then ((0, 0, sa_s A (ga_s A ++ [(a, m)])) : ar_T) else (2, 0, A)) = (2, 0, A) from if_neg (show ¬ pa_k (fun v => pk_l (ga_s A ++ [(a, m)]) (ga_l A (ga_a A v))) (ga_u A) = true by rw [hw]; decide)]
    refine aw_aload_n dd_mo_limit_188 rfl 4 rfl ?_
    refine aw_getf _ 5 7 dd_mo_limit_189 fl_mo_22 rfl rfl ?_
    refine aw_iload dd_mo_limit_192 3 rfl ?_
    refine aw_dup2 dd_mo_limit_194 rfl rfl ?_
    refine aw_iaN _ (0) dd_mo_limit_195 rfl (by decide) (by decide) ?_
    refine aw_top (y := nI ((ga_s A).length + 1)) rfl ?_
    refine aw_iconst (v := 1) dd_mo_limit_196 (by decide) ?_
    refine aw_isub dd_mo_limit_197 ?_
    refine aw_top (nI_pred _) ?_
    refine aw_isN _ (0) dd_mo_limit_198 rfl (by decide) (by decide) ?_
    refine aw_h (hs_ma4 G _ _ _ _ _ _) ?_
    exact aw_vret dd_mo_limit_199 rfl (by first | exact ⟨rfl, _, rfl, ⟨hB, hGr, hU, li_add hSL h4 ha rfl (fun i _ => rfl) (fun i _ => rfl), li_oth hDL rfl (fun i hi => by show upd _ _ _ _ = _; unfold upd; rw [if_neg (by omega)]; try rfl) (fun i hi => by show upd _ _ _ _ = _; unfold upd; rw [if_neg (by omega)]; try rfl), hRs, hSs⟩, wn_t (bt_ne hw)⟩ | exact ⟨rfl, _, rfl, ⟨hB, hGr, hU, li_oth hSL hSL.1.symm (fun i hi => by show upd _ _ _ _ = _; unfold upd; rw [if_neg (by omega)]; try rfl) (fun i hi => by show upd _ _ _ _ = _; unfold upd; rw [if_neg (by omega)]; try rfl), li_oth hDL rfl (fun i hi => by show upd _ _ _ _ = _; unfold upd; rw [if_neg (by omega)]; try rfl) (fun i hi => by show upd _ _ _ _ = _; unfold upd; rw [if_neg (by omega)]; try rfl), hRs, hSs⟩, wn_f hw⟩)
theorem wl_mo_limit0 (G : ag_T) (κ : ck_T) (μ : cm_T) (o : Nat → Int64) (rest : List va_E) {A : aa_T} (hR : rm_R μ A) (m : Int32) {a : Nat} (ha : a < 64) (h4 : (ga_s A).length < 4) : ∀ (k r : Nat), r + k = 4 → aw_w G mm_mo_limit 3 69 0 0 126 [(7, .int (nI r)), (6, .int (zb_i (pa_k (fun v => pk_l (ga_s A ++ [(a, m)]) (ga_l A (ga_a A v))) (ga_u A)))), (5, .int (nI (0 + (ga_s A).length))), (4, .int (nI 0)), (0, .ref (G.1 + 13)), (1, .int (zb_i false)), (2, .int (nI a)), (3, .int m)] [] (hp_f G κ (km_a (km_a (km_a μ 5 (0 + (ga_s A).length) (nI a)) 6 (0 + (ga_s A).length) m) 4 0 (nI ((ga_s A).length + 1))) o rest) (qm_V G κ o rest (if pa_k (fun v => pk_l (ga_s A ++ [(a, m)]) (ga_l A (ga_a A v))) (ga_u A) = true then (0, 0, sa_s A (ga_s A ++ [(a, m)])) else (2, 0, A))) := by
  obtain ⟨hB, hGr, hU, hSL, hDL, hRs, hSs⟩ := id hR; have hn6 := hB.2.1; have hu5 := hU.2.1
  intro k
  induction k with
  | zero =>
    intro r hr
    have e : r = 4 := by omega
    subst e
    refine aw_iload dd_mo_limit_126 0 rfl ?_
    refine aw_iconst (v := 4) dd_mo_limit_128 (by decide) ?_
    refine aw_icmp_ge (tgt := 178) dd_mo_limit_129 (by decide) (fun _ => ?_) (fun h9 => absurd (nI_le (a := 4) (b := 4) (by decide) (by decide)) h9)
    exact wm_mo_limit0 G κ μ o rest hR m ha h4
  | succ k ih =>
    intro r hr
    refine aw_iload dd_mo_limit_126 0 rfl ?_
    refine aw_iconst (v := 4) dd_mo_limit_128 (by decide) ?_
    refine aw_icmp_ge (tgt := 178) dd_mo_limit_129 (by decide) (fun h9 => absurd h9 (nI_ge (b := 4) (by omega) (by decide))) (fun _ => ?_)
    refine aw_join (tgt := 170) (v := zb_i (pa_k (fun v => pk_l (ga_s A ++ [(a, m)]) (ga_l A (ga_a A v))) (ga_u A))) ?_ (fun kj132 => ?_)
    · refine aw_istore (lv' := [(6, _), (7, _), (5, _), (4, _), (0, _), (1, _), (2, _), (3, _)]) dd_mo_limit_170 (by decide) rfl ?_
      refine aw_iinc (v := nI (r + 1)) (lv' := [(7, _), (6, _), (5, _), (4, _), (0, _), (1, _), (2, _), (3, _)]) dd_mo_limit_172 1 rfl (nI_1 _) (by decide) rfl ?_
      refine aw_goto (tgt := 126) dd_mo_limit_175 (by decide) ?_
      exact ih (r + 1) (by omega)
    · refine aw_iload dd_mo_limit_132 1 rfl ?_
      refine aw_if_eq (tgt := 169) dd_mo_limit_134 (by decide) (fun h1 => ?_) (fun h1 => ?_)
      · refine aw_iconst (v := 0) dd_mo_limit_169 (by decide) ?_
        exact aw_top (by simp only [zb_q0, zb_q1, Bool.not_eq_false, Bool.not_eq_true] at *; simp_all [zb_i]) kj132
      · refine aw_iload_n dd_mo_limit_137 rfl 5 rfl ?_
        refine aw_if_eq (tgt := 165) dd_mo_limit_138 (by decide) (fun _ => ?_) (fun h9 => absurd (rfl) h9)
        refine aw_iconst (v := 1) dd_mo_limit_165 (by decide) ?_
        refine aw_goto (tgt := 170) dd_mo_limit_166 (by decide) ?_
        exact aw_top (by simp only [zb_q0, zb_q1, Bool.not_eq_false, Bool.not_eq_true] at *; simp_all [zb_i]) kj132
theorem wc_mo_limit0 (G : ag_T) (κ : ck_T) (μ : cm_T) (o : Nat → Int64) (rest : List va_E) {A : aa_T} (hR : rm_R μ A) (s m : Int32) : aw_w G mm_mo_limit 3 69 0 0 0 (lv_args 0 [.ref (G.1 + 13), .int (zb_i false), .int s, .int m]) [] (hp_f G κ μ o rest) (qm_V G κ o rest (ab_limit A false s m)) := by
  obtain ⟨hB, hGr, hU, hSL, hDL, hRs, hSs⟩ := id hR; have hn6 := hB.2.1; have hu5 := hU.2.1
  have hl4 := hSL.2.1
  refine aw_iload_n dd_mo_limit_0 rfl 1 rfl ?_
  refine aw_if_eq (tgt := 8) dd_mo_limit_1 (by decide) (fun _ => ?_) (fun h9 => absurd (rfl) h9)
  refine aw_iconst (v := (nI 0)) dd_mo_limit_8 (by decide) ?_
  refine aw_istore (lv' := [(4, _), (0, _), (1, _), (2, _), (3, _)]) dd_mo_limit_9 (by decide) rfl ?_
  refine aw_aload_n dd_mo_limit_11 rfl 1 rfl ?_
  refine aw_join (tgt := 32) (v := zb_i (decide (¬ m < 2) && st_i s)) ?_ (fun kj12 => ?_)
  · refine aw_iconst (v := 1) dd_mo_limit_32 (by decide) ?_
    refine aw_cVi mm_mo_when 0 0 _ 5 [_, _] _ (wc_mo_when G κ _ o rest _ _) dd_mo_limit_33 cv_mo_86 my_mo_when np_mo_when rfl rfl rfl (by decide) rfl rfl (Nat.le_of_ble_eq_true rfl) (Nat.le_of_ble_eq_true rfl) ?_
    refine aw_if_eq (tgt := 63) dd_mo_limit_36 (by decide) (fun hw => ?_) (fun hw => ?_)
    · replace hw := zb_e0 hw
      rw [ab_limit, if_pos hw]
      exact aw_vret dd_mo_limit_63 rfl ⟨rfl, _, rfl, hR, wn_f hw⟩
    · have hw1 := bt_ne (zb_n0 hw)
      clear hw
      obtain ⟨h8, h9⟩ := Bool.and_eq_true_iff.mp (Bool.not_eq_false _ ▸ hw1)
      obtain ⟨a, ha, rfl⟩ := st_n h9
      rw [ab_limit, if_neg hw1, iN_n (by omega)]
      refine aw_aload_n dd_mo_limit_39 rfl 1 rfl ?_
      refine aw_join (tgt := 56) (v := zb_i (decide ((ga_s A).length < 4))) ?_ (fun kj40 => ?_)
      · refine aw_iconst (v := 2) dd_mo_limit_56 (by decide) ?_
        refine aw_cVi mm_mo_when 0 0 _ 5 [_, _] _ (wc_mo_when G κ _ o rest _ _) dd_mo_limit_57 cv_mo_86 my_mo_when np_mo_when rfl rfl rfl (by decide) rfl rfl (Nat.le_of_ble_eq_true rfl) (Nat.le_of_ble_eq_true rfl) ?_
        refine aw_if_ne (tgt := 64) dd_mo_limit_60 (by decide) (fun hw => ?_) (fun hw => ?_)
        · have hw3 := bt_ne (zb_n0 hw)
          clear hw
          have h4 : (ga_s A).length < 4 := by simpa using hw3
          rw [if_neg (show ¬ ¬ (if false = true then ga_d A else ga_s A).length < 4 from fun h9 => h9 h4), if_neg (show ¬ false = true by decide)]
          refine aw_iconst (v := (nI 4)) dd_mo_limit_64 (by decide) ?_
          refine aw_iload dd_mo_limit_65 0 rfl ?_
          refine aw_imul dd_mo_limit_67 ?_
          refine aw_top (y := nI 0) rfl ?_
          refine aw_aload_n dd_mo_limit_68 rfl 1 rfl ?_
          refine aw_getf _ 5 7 dd_mo_limit_69 fl_mo_22 rfl rfl ?_
          refine aw_iload dd_mo_limit_72 0 rfl ?_
          refine aw_iaN _ (0) dd_mo_limit_74 rfl (by decide) (by decide) ?_
          refine aw_top hSL.1 ?_
          refine aw_iadd dd_mo_limit_75 ?_
          refine aw_top (nI_add _ _) ?_
          refine aw_istore (lv' := [(5, _), (4, _), (0, _), (1, _), (2, _), (3, _)]) dd_mo_limit_76 (by decide) rfl ?_
          refine aw_aload_n dd_mo_limit_78 rfl 2 rfl ?_
          refine aw_getf _ 5 8 dd_mo_limit_79 fl_mo_25 rfl rfl ?_
          refine aw_iload dd_mo_limit_82 0 rfl ?_
          refine aw_iload_n dd_mo_limit_84 rfl 4 rfl ?_
          refine aw_isN _ (0 + (ga_s A).length) dd_mo_limit_85 rfl (by omega) (by decide) ?_
          refine aw_h (hs_ma5 G _ _ _ _ _ _) ?_
          refine aw_aload_n dd_mo_limit_86 rfl 2 rfl ?_
          refine aw_getf _ 5 9 dd_mo_limit_87 fl_mo_28 rfl rfl ?_
          refine aw_iload dd_mo_limit_90 0 rfl ?_
          refine aw_iload_n dd_mo_limit_92 rfl 5 rfl ?_
          refine aw_isN _ (0 + (ga_s A).length) dd_mo_limit_93 rfl (by omega) (by decide) ?_
          refine aw_h (hs_ma6 G _ _ _ _ _ _) ?_
          refine aw_aload_n dd_mo_limit_94 rfl 2 rfl ?_
          refine aw_getf _ 5 7 dd_mo_limit_95 fl_mo_22 rfl rfl ?_
          refine aw_iload dd_mo_limit_98 1 rfl ?_
          refine aw_dup2 dd_mo_limit_100 rfl rfl ?_
          refine aw_iaN _ (0) dd_mo_limit_101 rfl (by decide) (by decide) ?_
          refine aw_top hSL.1 ?_
          refine aw_iconst (v := 1) dd_mo_limit_102 (by decide) ?_
          refine aw_iadd dd_mo_limit_103 ?_
          refine aw_top (nI_1 _) ?_
          refine aw_isN _ (0) dd_mo_limit_104 rfl (by decide) (by decide) ?_
          refine aw_h (hs_ma4 G _ _ _ _ _ _) ?_
          refine aw_iload_n dd_mo_limit_105 rfl 3 rfl ?_
          refine aw_if_ne (tgt := 116) dd_mo_limit_106 (by decide) (fun h9 => absurd (by decide) h9) (fun _ => ?_)
          refine aw_join (tgt := 121) (v := zb_i (pa_k (fun v => pk_l (ga_s A ++ [(a, m)]) (ga_l A (ga_a A v))) (ga_u A))) ?_ (fun kj109 => ?_)
          · refine aw_istore (lv' := [(6, _), (5, _), (4, _), (0, _), (1, _), (2, _), (3, _)]) dd_mo_limit_121 (by decide) rfl ?_
            refine aw_iconst (v := 0) dd_mo_limit_123 (by decide) ?_
            refine aw_istore (lv' := [(7, _), (6, _), (5, _), (4, _), (0, _), (1, _), (2, _), (3, _)]) dd_mo_limit_124 (by decide) rfl ?_
            exact wl_mo_limit0 G κ (km_s (km_s μ 0 (if (decide (¬ m < 2) && st_i (nI a)) = true then 0 else 1)) 0 (if (decide ((ga_s A).length < 4)) = true then 0 else 2)) o rest hR m ha h4 4 0 rfl
          · refine aw_aload_n dd_mo_limit_109 rfl 2 rfl ?_
            refine aw_cVi mm_mo_allStaticKept 0 0 _ 5 [] _ (wc_mo_allStaticKept G κ (km_a (km_a (km_a (km_s (km_s μ 0 (if (decide (¬ m < 2) && st_i (nI a)) = true then 0 else 1)) 0 (if (decide ((ga_s A).length < 4)) = true then 0 else 2)) 5 (0 + (ga_s A).length) (nI a)) 6 (0 + (ga_s A).length) m) 4 0 (nI ((ga_s A).length + 1))) o rest hB (sl := ga_s A ++ [(a, m)]) (li_add hSL h4 ha rfl (fun i _ => rfl) (fun i _ => rfl)) hU) dd_mo_limit_110 cv_mo_93 my_mo_allStaticKept np_mo_allStaticKept rfl rfl rfl (by decide) rfl rfl (Nat.le_of_ble_eq_true rfl) (Nat.le_of_ble_eq_true rfl) ?_
            refine aw_if_eq (tgt := 120) dd_mo_limit_113 (by decide) (fun h6 => ?_) (fun h6 => ?_)
            · refine aw_iconst (v := 0) dd_mo_limit_120 (by decide) ?_
              exact aw_top (by simp only [zb_q0, zb_q1, Bool.not_eq_false, Bool.not_eq_true] at *; simp_all [zb_i]) kj109
            · refine aw_iconst (v := 1) dd_mo_limit_116 (by decide) ?_
              refine aw_goto (tgt := 121) dd_mo_limit_117 (by decide) ?_
              exact aw_top (by simp only [zb_q0, zb_q1, Bool.not_eq_false, Bool.not_eq_true] at *; simp_all [zb_i]) kj109
        · replace hw := zb_e0 hw
          rw [if_pos (show ¬ (if false = true then ga_d A else ga_s A).length < 4 by simpa using hw)]
          exact aw_vret dd_mo_limit_63 rfl ⟨rfl, _, rfl, hR, wn_f hw⟩
      · refine aw_aload_n dd_mo_limit_40 rfl 1 rfl ?_
        refine aw_getf _ 5 7 dd_mo_limit_41 fl_mo_22 rfl rfl ?_
        refine aw_iload dd_mo_limit_44 0 rfl ?_
        refine aw_iaN _ (0) dd_mo_limit_46 rfl (by decide) (by decide) ?_
        refine aw_top hSL.1 ?_
        refine aw_iconst (v := (nI 4)) dd_mo_limit_47 (by decide) ?_
        refine aw_icmp_ge (tgt := 55) dd_mo_limit_48 (by decide) (fun h5 => ?_) (fun h5 => ?_)
        · refine aw_iconst (v := 0) dd_mo_limit_55 (by decide) ?_
          exact aw_top (by rw [nI_leI (by omega) (by omega)] at h5; simp [zb_i]; omega) kj40
        · refine aw_iconst (v := 1) dd_mo_limit_51 (by decide) ?_
          refine aw_goto (tgt := 56) dd_mo_limit_52 (by decide) ?_
          exact aw_top (by rw [nI_leI (by omega) (by omega)] at h5; simp [zb_i]; omega) kj40
  · refine aw_iload_n dd_mo_limit_12 rfl 4 rfl ?_
    refine aw_iconst (v := 2) dd_mo_limit_13 (by decide) ?_
    refine aw_icmp_lt (tgt := 31) dd_mo_limit_14 (by decide) (fun h1 => ?_) (fun h1 => ?_)
    · refine aw_iconst (v := 0) dd_mo_limit_31 (by decide) ?_
      exact aw_top (by simp_all [zb_i, st_i]) kj12
    · refine aw_iload_n dd_mo_limit_17 rfl 3 rfl ?_
      refine aw_if_lt (tgt := 31) dd_mo_limit_18 (by decide) (fun h2 => ?_) (fun h2 => ?_)
      · refine aw_iconst (v := 0) dd_mo_limit_31 (by decide) ?_
        exact aw_top (by simp_all [zb_i, st_i]) kj12
      · refine aw_iload_n dd_mo_limit_21 rfl 3 rfl ?_
        refine aw_bipush (v := 63) dd_mo_limit_22 (by decide) ?_
        refine aw_icmp_gt (tgt := 31) dd_mo_limit_24 (by decide) (fun h3 => ?_) (fun h3 => ?_)
        · refine aw_iconst (v := 0) dd_mo_limit_31 (by decide) ?_
          exact aw_top (by simp_all [zb_i, st_i]) kj12
        · refine aw_iconst (v := 1) dd_mo_limit_27 (by decide) ?_
          refine aw_goto (tgt := 32) dd_mo_limit_28 (by decide) ?_
          exact aw_top (by simp_all [zb_i, st_i]) kj12
theorem wc_mo_limit (G : ag_T) (κ : ck_T) (μ : cm_T) (o : Nat → Int64) (rest : List va_E) {A : aa_T} (hR : rm_R μ A) (d : Bool) (s m : Int32) : aw_w G mm_mo_limit 3 69 0 0 0 (lv_args 0 [.ref (G.1 + 13), .int (zb_i d), .int s, .int m]) [] (hp_f G κ μ o rest) (qm_V G κ o rest (ab_limit A d s m)) := by
  cases d
  · exact wc_mo_limit0 G κ μ o rest hR s m
  · exact wc_mo_limit1 G κ μ o rest hR s m
theorem kv_d (μ : cm_T) (k : Nat) (f g : Nat → Int32) : (((μ.1, va_up μ.2 k f) : cm_T).1, va_up ((μ.1, va_up μ.2 k f) : cm_T).2 k g) = ((μ.1, va_up μ.2 k g) : cm_T) := by
  unfold va_up
  congr 1
  funext i
  by_cases h : i = k <;> simp [h]
theorem pb_lt {n : Nat} {bel : Nat → Nat} (hb : ∀ r, bel r < 64) (a : Nat) {b : Nat} (h6 : b < 6) (r : Nat) : pb_u n bel a b r < 64 := by
  unfold pb_u
  split
  · exact bt_or (n := 6) (bt_or (n := 6) (hb r) (bt_1 h6)) (hb b)
  · exact hb r
theorem wl_mo_above1 (G : ag_T) (κ : ck_T) (μ : cm_T) (o : Nat → Int64) (rest : List va_E) {n : Nat} {bel : Nat → Nat} (hn : μ.1 1 = nI n) (hn6 : n ≤ 6) (hb : ∀ r, r < 6 → μ.2 0 r = nI (bel r)) {w : Int32} {a b : Nat} {Q : aq_T} (hend : ∀ f : Nat → Int32, (∀ i, i < n → f i = nI (bel i)) → aw_w G mm_mo_above 3 69 0 0 113 [(4, .int (nI n)), (3, .int w), (0, .ref (G.1 + 13)), (1, .int (nI a)), (2, .int (nI b))] [] (hp_f G κ (μ.1, va_up μ.2 2 f) o rest) Q) : ∀ (k r : Nat), r + k = n → ∀ f : Nat → Int32, (∀ i, i < r → f i = nI (bel i)) → aw_w G mm_mo_above 3 69 0 0 84 [(4, .int (nI r)), (3, .int w), (0, .ref (G.1 + 13)), (1, .int (nI a)), (2, .int (nI b))] [] (hp_f G κ (μ.1, va_up μ.2 2 f) o rest) Q := by
  intro k
  induction k with
  | zero =>
    intro r hr f hf
    have e : r = n := by omega
    subst e
    refine aw_iload dd_mo_above_84 0 rfl ?_
    refine aw_aload_n dd_mo_above_86 rfl 2 rfl ?_
    refine aw_getf _ 5 1 dd_mo_above_87 fl_mo_69 rfl rfl ?_
    refine aw_top hn ?_
    refine aw_icmp_ge (tgt := 113) dd_mo_above_90 (by decide) (fun _ => ?_) (fun h9 => absurd (nI_le (Nat.le_refl _) (by omega)) h9)
    exact hend f hf
  | succ k ih =>
    intro r hr f hf
    refine aw_iload dd_mo_above_84 0 rfl ?_
    refine aw_aload_n dd_mo_above_86 rfl 2 rfl ?_
    refine aw_getf _ 5 1 dd_mo_above_87 fl_mo_69 rfl rfl ?_
    refine aw_top hn ?_
    refine aw_icmp_ge (tgt := 113) dd_mo_above_90 (by decide) (fun h9 => absurd h9 (nI_ge (by omega) (by omega))) (fun _ => ?_)
    refine aw_aload_n dd_mo_above_93 rfl 2 rfl ?_
    refine aw_getf _ 5 5 dd_mo_above_94 fl_mo_16 rfl rfl ?_
    refine aw_iload dd_mo_above_97 0 rfl ?_
    refine aw_aload_n dd_mo_above_99 rfl 2 rfl ?_
    refine aw_getf _ 5 3 dd_mo_above_100 fl_mo_7 rfl rfl ?_
    refine aw_iload dd_mo_above_103 0 rfl ?_
    refine aw_iaN _ (r) dd_mo_above_105 rfl (by omega) (by decide) ?_
    refine aw_top (hb r (by omega)) ?_
    refine aw_isN _ (r) dd_mo_above_106 rfl (by omega) (by decide) ?_
    refine aw_h (hs_ma2 G _ _ _ _ _ _) ?_
    rw [kv_a]
    refine aw_iinc (v := nI (r + 1)) (lv' := [(4, _), (3, _), (0, _), (1, _), (2, _)]) dd_mo_above_107 0 rfl (nI_1 _) (by decide) rfl ?_
    refine aw_goto (tgt := 84) dd_mo_above_110 (by decide) ?_
    refine ih (r + 1) (by omega) _ (fun i hi => ?_)
    unfold upd
    split
    · rename_i e; rw [e]
    · exact hf i (by omega)
theorem wl_mo_above2 (G : ag_T) (κ : ck_T) (μ : cm_T) (o : Nat → Int64) (rest : List va_E) {n : Nat} {bel : Nat → Nat} (hn : μ.1 1 = nI n) (hn6 : n ≤ 6) (hb : ∀ r, bel r < 64) (ht : ∀ r, r < n → μ.2 2 r = nI (bel r)) {w : Int32} {a b : Nat} (ha : a < n) (hb9 : b < n) {Q : aq_T} (hend : ∀ f : Nat → Int32, (∀ i, i < 6 → f i = nI (if i < n then pb_u n bel a b i else bel i)) → aw_w G mm_mo_above 3 69 0 0 187 [(4, .int (nI n)), (3, .int w), (0, .ref (G.1 + 13)), (1, .int (nI a)), (2, .int (nI b))] [] (hp_f G κ (μ.1, va_up μ.2 0 f) o rest) Q) : ∀ (k r : Nat), r + k = n → ∀ f : Nat → Int32, (∀ i, i < 6 → f i = nI (if i < r then pb_u n bel a b i else bel i)) → aw_w G mm_mo_above 3 69 0 0 116 [(4, .int (nI r)), (3, .int w), (0, .ref (G.1 + 13)), (1, .int (nI a)), (2, .int (nI b))] [] (hp_f G κ (μ.1, va_up μ.2 0 f) o rest) Q := by
  intro k
  induction k with
  | zero =>
    intro r hr f hf
    have e : r = n := by omega
    subst e
    refine aw_iload dd_mo_above_116 0 rfl ?_
    refine aw_aload_n dd_mo_above_118 rfl 2 rfl ?_
    refine aw_getf _ 5 1 dd_mo_above_119 fl_mo_69 rfl rfl ?_
    refine aw_top hn ?_
    refine aw_icmp_ge (tgt := 187) dd_mo_above_122 (by decide) (fun _ => ?_) (fun h9 => absurd (nI_le (Nat.le_refl _) (by omega)) h9)
    exact hend f hf
  | succ k ih =>
    intro r hr f hf
    refine aw_iload dd_mo_above_116 0 rfl ?_
    refine aw_aload_n dd_mo_above_118 rfl 2 rfl ?_
    refine aw_getf _ 5 1 dd_mo_above_119 fl_mo_69 rfl rfl ?_
    refine aw_top hn ?_
    refine aw_icmp_ge (tgt := 187) dd_mo_above_122 (by decide) (fun h9 => absurd h9 (nI_ge (by omega) (by omega))) (fun _ => ?_)
    refine aw_aload_n dd_mo_above_125 rfl 2 rfl ?_
    refine aw_getf _ 5 3 dd_mo_above_126 fl_mo_7 rfl rfl ?_
    refine aw_iload dd_mo_above_129 0 rfl ?_
    refine aw_join (tgt := 180) (v := nI (pb_u n bel a b r)) ?_ (fun kj131 => ?_)
    · refine aw_isN _ (r) dd_mo_above_180 rfl (by omega) (by decide) ?_
      refine aw_h (hs_ma0 G _ _ _ _ _ _) ?_
      rw [kv_a]
      refine aw_iinc (v := nI (r + 1)) (lv' := [(4, _), (3, _), (0, _), (1, _), (2, _)]) dd_mo_above_181 0 rfl (nI_1 _) (by decide) rfl ?_
      refine aw_goto (tgt := 116) dd_mo_above_184 (by decide) ?_
      refine ih (r + 1) (by omega) _ (fun i hi => ?_)
      unfold upd
      split
      · rename_i e; rw [e, if_pos (by omega)]
      · rw [hf i hi]; rename_i e; congr 1; by_cases h9 : i < r
        · rw [if_pos h9, if_pos (by omega)]
        · rw [if_neg h9, if_neg (by omega)]
    · refine aw_iload dd_mo_above_131 0 rfl ?_
      refine aw_iload_n dd_mo_above_133 rfl 3 rfl ?_
      refine aw_icmp_eq (tgt := 152) dd_mo_above_134 (by decide) (fun h1 => ?_) (fun h1 => ?_)
      · refine aw_aload_n dd_mo_above_152 rfl 2 rfl ?_
        refine aw_getf _ 5 5 dd_mo_above_153 fl_mo_16 rfl rfl ?_
        refine aw_iload dd_mo_above_156 0 rfl ?_
        refine aw_iaN _ (r) dd_mo_above_158 rfl (by omega) (by decide) ?_
        refine aw_top (ht r (by omega)) ?_
        refine aw_iconst (v := (nI 1)) dd_mo_above_159 (by decide) ?_
        refine aw_iload_n dd_mo_above_160 rfl 4 rfl ?_
        refine aw_ishl dd_mo_above_161 ?_
        refine aw_top (nI_shl 1 (by omega)) ?_
        refine aw_ior dd_mo_above_162 ?_
        refine aw_top (nI_or _ _) ?_
        refine aw_aload_n dd_mo_above_163 rfl 2 rfl ?_
        refine aw_getf _ 5 5 dd_mo_above_164 fl_mo_16 rfl rfl ?_
        refine aw_iload_n dd_mo_above_167 rfl 4 rfl ?_
        refine aw_iaN _ (b) dd_mo_above_168 rfl (by omega) (by decide) ?_
        refine aw_top (ht b hb9) ?_
        refine aw_ior dd_mo_above_169 ?_
        refine aw_top (nI_or _ _) ?_
        refine aw_goto (tgt := 180) dd_mo_above_170 (by decide) ?_
        exact aw_top (by simp only [zb_q1, nI_eq (show r < 2 ^ 31 by omega) (show a < 2 ^ 31 by omega)] at *; unfold pb_u; simp_all [show r < n by omega]) kj131
      · refine aw_aload_n dd_mo_above_137 rfl 2 rfl ?_
        refine aw_getf _ 5 5 dd_mo_above_138 fl_mo_16 rfl rfl ?_
        refine aw_iload dd_mo_above_141 0 rfl ?_
        refine aw_iaN _ (r) dd_mo_above_143 rfl (by omega) (by decide) ?_
        refine aw_top (ht r (by omega)) ?_
        refine aw_iload_n dd_mo_above_144 rfl 3 rfl ?_
        refine aw_ishr dd_mo_above_145 ?_
        refine aw_iconst (v := 1) dd_mo_above_146 (by decide) ?_
        refine aw_iand dd_mo_above_147 ?_
        refine aw_top (nI_bit (by have := hb r; omega) (by omega)) ?_
        refine aw_iconst (v := 1) dd_mo_above_148 (by decide) ?_
        refine aw_icmp_ne (tgt := 173) dd_mo_above_149 (by decide) (fun h2 => ?_) (fun h2 => ?_)
        · refine aw_aload_n dd_mo_above_173 rfl 2 rfl ?_
          refine aw_getf _ 5 5 dd_mo_above_174 fl_mo_16 rfl rfl ?_
          refine aw_iload dd_mo_above_177 0 rfl ?_
          refine aw_iaN _ (r) dd_mo_above_179 rfl (by omega) (by decide) ?_
          refine aw_top (ht r (by omega)) ?_
          exact aw_top (by simp only [zb_q1, nI_eq (show r < 2 ^ 31 by omega) (show a < 2 ^ 31 by omega)] at *; unfold pb_u; simp_all [show r < n by omega]) kj131
        · refine aw_aload_n dd_mo_above_152 rfl 2 rfl ?_
          refine aw_getf _ 5 5 dd_mo_above_153 fl_mo_16 rfl rfl ?_
          refine aw_iload dd_mo_above_156 0 rfl ?_
          refine aw_iaN _ (r) dd_mo_above_158 rfl (by omega) (by decide) ?_
          refine aw_top (ht r (by omega)) ?_
          refine aw_iconst (v := (nI 1)) dd_mo_above_159 (by decide) ?_
          refine aw_iload_n dd_mo_above_160 rfl 4 rfl ?_
          refine aw_ishl dd_mo_above_161 ?_
          refine aw_top (nI_shl 1 (by omega)) ?_
          refine aw_ior dd_mo_above_162 ?_
          refine aw_top (nI_or _ _) ?_
          refine aw_aload_n dd_mo_above_163 rfl 2 rfl ?_
          refine aw_getf _ 5 5 dd_mo_above_164 fl_mo_16 rfl rfl ?_
          refine aw_iload_n dd_mo_above_167 rfl 4 rfl ?_
          refine aw_iaN _ (b) dd_mo_above_168 rfl (by omega) (by decide) ?_
          refine aw_top (ht b hb9) ?_
          refine aw_ior dd_mo_above_169 ?_
          refine aw_top (nI_or _ _) ?_
          refine aw_goto (tgt := 180) dd_mo_above_170 (by decide) ?_
          exact aw_top (by simp only [zb_q1, nI_eq (show r < 2 ^ 31 by omega) (show a < 2 ^ 31 by omega)] at *; unfold pb_u; simp_all [show r < n by omega]) kj131
theorem wl_mo_above3 (G : ag_T) (κ : ck_T) (μ : cm_T) (o : Nat → Int64) (rest : List va_E) {n : Nat} {bel : Nat → Nat} (hn : μ.1 1 = nI n) (hn6 : n ≤ 6) (hb : ∀ r, bel r < 64) (ht : ∀ r, r < n → μ.2 2 r = nI (bel r)) {w : Int32} {a b : Nat} (ha : a < n) (hb9 : b < n) {Q : aq_T} (hend : ∀ f : Nat → Int32, (∀ i, i < 6 → f i = nI (if i < n then bel i else pb_u n bel a b i)) → aw_w G mm_mo_above 3 69 0 0 233 [(4, .int (nI n)), (3, .int w), (0, .ref (G.1 + 13)), (1, .int (nI a)), (2, .int (nI b))] [] (hp_f G κ (μ.1, va_up μ.2 0 f) o rest) Q) : ∀ (k r : Nat), r + k = n → ∀ f : Nat → Int32, (∀ i, i < 6 → f i = nI (if i < r then bel i else pb_u n bel a b i)) → aw_w G mm_mo_above 3 69 0 0 204 [(4, .int (nI r)), (3, .int w), (0, .ref (G.1 + 13)), (1, .int (nI a)), (2, .int (nI b))] [] (hp_f G κ (μ.1, va_up μ.2 0 f) o rest) Q := by
  intro k
  induction k with
  | zero =>
    intro r hr f hf
    have e : r = n := by omega
    subst e
    refine aw_iload dd_mo_above_204 0 rfl ?_
    refine aw_aload_n dd_mo_above_206 rfl 2 rfl ?_
    refine aw_getf _ 5 1 dd_mo_above_207 fl_mo_69 rfl rfl ?_
    refine aw_top hn ?_
    refine aw_icmp_ge (tgt := 233) dd_mo_above_210 (by decide) (fun _ => ?_) (fun h9 => absurd (nI_le (Nat.le_refl _) (by omega)) h9)
    exact hend f hf
  | succ k ih =>
    intro r hr f hf
    refine aw_iload dd_mo_above_204 0 rfl ?_
    refine aw_aload_n dd_mo_above_206 rfl 2 rfl ?_
    refine aw_getf _ 5 1 dd_mo_above_207 fl_mo_69 rfl rfl ?_
    refine aw_top hn ?_
    refine aw_icmp_ge (tgt := 233) dd_mo_above_210 (by decide) (fun h9 => absurd h9 (nI_ge (by omega) (by omega))) (fun _ => ?_)
    refine aw_aload_n dd_mo_above_213 rfl 2 rfl ?_
    refine aw_getf _ 5 3 dd_mo_above_214 fl_mo_7 rfl rfl ?_
    refine aw_iload dd_mo_above_217 0 rfl ?_
    refine aw_aload_n dd_mo_above_219 rfl 2 rfl ?_
    refine aw_getf _ 5 5 dd_mo_above_220 fl_mo_16 rfl rfl ?_
    refine aw_iload dd_mo_above_223 0 rfl ?_
    refine aw_iaN _ (r) dd_mo_above_225 rfl (by omega) (by decide) ?_
    refine aw_top (ht r (by omega)) ?_
    refine aw_isN _ (r) dd_mo_above_226 rfl (by omega) (by decide) ?_
    refine aw_h (hs_ma0 G _ _ _ _ _ _) ?_
    rw [kv_a]
    refine aw_iinc (v := nI (r + 1)) (lv' := [(4, _), (3, _), (0, _), (1, _), (2, _)]) dd_mo_above_227 0 rfl (nI_1 _) (by decide) rfl ?_
    refine aw_goto (tgt := 204) dd_mo_above_230 (by decide) ?_
    refine ih (r + 1) (by omega) _ (fun i hi => ?_)
    unfold upd
    split
    · rename_i e; rw [e, if_pos (by omega)]
    · rw [hf i hi]; rename_i e; congr 1; by_cases h9 : i < r
      · rw [if_pos h9, if_pos (by omega)]
      · rw [if_neg h9, if_neg (by omega)]
theorem wm_mo_above (G : ag_T) (κ : ck_T) (μ : cm_T) (o : Nat → Int64) (rest : List va_E) {A : aa_T} (hR : rm_R μ A) {a b : Nat} (ha : a < ga_n A) (hb : b < ga_n A) (t : Nat → Int32) (ht : ∀ i, i < ga_n A → t i = nI (ga_b A i)) (f : Nat → Int32) (hf : ∀ i, i < 6 → f i = nI (if i < ga_n A then pb_u (ga_n A) (ga_b A) a b i else ga_b A i)) : aw_w G mm_mo_above 3 69 0 0 187 [(4, .int (nI (ga_n A))), (3, .int (zb_i (!(ga_b A a).testBit b))), (0, .ref (G.1 + 13)), (1, .int (nI a)), (2, .int (nI b))] [] (hp_f G κ (μ.1, va_up (va_up μ.2 2 t) 0 f) o rest) (qm_R G κ o rest (if pa_k (fun v => pk_l (ga_s A) (pc_f (pb_u (ga_n A) (ga_b A) a b) (ga_a A v) (ga_n A))) (ga_u A) = false then (3, 0, A) else (0, zb_i (!(ga_b A a).testBit b), sa_b A (pb_u (ga_n A) (ga_b A) a b)))) := by
  obtain ⟨hB, hGr, hU, hSL, hDL, hRs, hSs⟩ := id hR; have hn6 := hB.2.1; have hu5 := hU.2.1
  have hB9 : rm_c (μ.1, va_up (va_up μ.2 2 t) 0 f) (ga_n A) (pb_u (ga_n A) (ga_b A) a b) := by
    refine ⟨hB.1, hB.2.1, fun r hr => ?_, pb_lt hB.2.2.2 a (by omega)⟩
    show f r = _
    rw [hf r hr]
    split
    · rfl
    · rename_i e
      unfold pb_u
      rw [if_neg (fun h9 => e h9.1)]
  refine aw_aload_n dd_mo_above_187 rfl 2 rfl ?_
  refine aw_aload_n dd_mo_above_188 rfl 2 rfl ?_
  refine aw_cVi mm_mo_allStaticKept 0 0 _ 5 [] _ (wc_mo_allStaticKept G κ _ o rest hB9 hSL hU) dd_mo_above_189 cv_mo_93 my_mo_allStaticKept np_mo_allStaticKept rfl rfl rfl (by decide) rfl rfl (Nat.le_of_ble_eq_true rfl) (Nat.le_of_ble_eq_true rfl) ?_
  refine aw_iconst (v := 3) dd_mo_above_192 (by decide) ?_
  refine aw_cVi mm_mo_when 0 0 _ 5 [_, _] _ (wc_mo_when G κ _ o rest _ _) dd_mo_above_193 cv_mo_86 my_mo_when np_mo_when rfl rfl rfl (by decide) rfl rfl (Nat.le_of_ble_eq_true rfl) (Nat.le_of_ble_eq_true rfl) ?_
  refine aw_if_eq (tgt := 201) dd_mo_above_196 (by decide) (fun hw => ?_) (fun hw => ?_)
  · replace hw := zb_e0 hw
    rw [show (if pa_k (fun v => pk_l (ga_s A) (pc_f (pb_u (ga_n A) (ga_b A) a b) (ga_a A v) (ga_n A))) (ga_u A) = false then ((3, 0, A) : ar_T) else (0, zb_i (!(ga_b A a).testBit b), sa_b A (pb_u (ga_n A) (ga_b A) a b))) = (3, 0, A) from if_pos hw]
    refine aw_iconst (v := 0) dd_mo_above_201 (by decide) ?_
    refine aw_istore (lv' := [(4, _), (3, _), (0, _), (1, _), (2, _)]) dd_mo_above_202 (by decide) rfl ?_
    refine wl_mo_above3 G κ ((km_s (μ.1, va_up (va_up μ.2 2 t) 0 f) 0 (if (pa_k (fun v => pk_l (ga_s A) (pc_f (pb_u (ga_n A) (ga_b A) a b) (ga_a A v) (ga_n A))) (ga_u A)) = true then 0 else 3)).1, va_up μ.2 2 t) o rest (n := ga_n A) (bel := ga_b A) hB.1 hn6 hB.2.2.2 ht ha hb (fun f9 hf9 => ?_) (ga_n A) 0 (Nat.zero_add _) f (fun i hi => ?_)
    · refine aw_iconst (v := 0) dd_mo_above_233 (by decide) ?_
      refine aw_zret dd_mo_above_234 rfl (Or.inl rfl) ⟨_, rfl, fun h0 => absurd (show (3 : Int32) = 0 from h0) (by decide), _, rfl, ⟨⟨hB.1, hB.2.1, fun r hr => ?_, hB.2.2.2⟩, hGr, hU, hSL, hDL, hRs, hSs⟩, wn_f hw⟩
      show f9 r = _
      rw [hf9 r hr]
      split
      · rfl
      · rename_i e; unfold pb_u; rw [if_neg (fun h9 => e h9.1)]
    · rw [hf i hi, if_neg (Nat.not_lt_zero i)]
      split
      · rfl
      · rename_i e; unfold pb_u; rw [if_neg (fun h9 => e h9.1)]
  · have hw := bt_ne (zb_n0 hw)
    rw [show (if pa_k (fun v => pk_l (ga_s A) (pc_f (pb_u (ga_n A) (ga_b A) a b) (ga_a A v) (ga_n A))) (ga_u A) = false then ((3, 0, A) : ar_T) else (0, zb_i (!(ga_b A a).testBit b), sa_b A (pb_u (ga_n A) (ga_b A) a b))) = (0, zb_i (!(ga_b A a).testBit b), sa_b A (pb_u (ga_n A) (ga_b A) a b)) from if_neg hw]
    refine aw_iload_n dd_mo_above_199 rfl 1 rfl ?_
    exact aw_zret dd_mo_above_200 rfl (zb_01 _) ⟨_, rfl, fun _ => rfl, _, rfl, ⟨hB9, hGr, hU, hSL, hDL, hRs, hSs⟩, wn_t hw⟩
theorem wc_mo_above (G : ag_T) (κ : ck_T) (μ : cm_T) (o : Nat → Int64) (rest : List va_E) {A : aa_T} (hR : rm_R μ A) (x y : Int32) : aw_w G mm_mo_above 3 69 0 0 0 (lv_args 0 [.ref (G.1 + 13), .int x, .int y]) [] (hp_f G κ μ o rest) (qm_R G κ o rest (ab_above A x y)) := by
  obtain ⟨hB, hGr, hU, hSL, hDL, hRs, hSs⟩ := id hR; have hn6 := hB.2.1; have hu5 := hU.2.1
  refine aw_aload_n dd_mo_above_0 rfl 0 rfl ?_
  refine aw_join (tgt := 22) (v := zb_i (rb_i (ga_n A) x && rb_i (ga_n A) y)) ?_ (fun kj1 => ?_)
  · refine aw_iconst (v := 1) dd_mo_above_22 (by decide) ?_
    refine aw_cVi mm_mo_when 0 0 _ 5 [_, _] _ (wc_mo_when G κ _ o rest _ _) dd_mo_above_23 cv_mo_86 my_mo_when np_mo_when rfl rfl rfl (by decide) rfl rfl (Nat.le_of_ble_eq_true rfl) (Nat.le_of_ble_eq_true rfl) ?_
    refine aw_if_eq (tgt := 60) dd_mo_above_26 (by decide) (fun hw => ?_) (fun hw => ?_)
    · replace hw := zb_e0 hw
      rw [ab_above, if_pos hw]
      refine aw_iconst (v := 0) dd_mo_above_60 (by decide) ?_
      exact aw_zret dd_mo_above_61 rfl (by first | exact Or.inl rfl | exact Or.inr rfl) (by first | exact ⟨_, rfl, fun h0 => absurd (show (1 : Int32) = 0 from h0) (by decide), _, rfl, hR, wn_f hw⟩ | exact ⟨_, rfl, fun h0 => absurd (show (2 : Int32) = 0 from h0) (by decide), _, rfl, hR, wn_f hw⟩)
    · have hw1 := bt_ne (zb_n0 hw)
      clear hw
      obtain ⟨h8, h9⟩ := Bool.and_eq_true_iff.mp (Bool.not_eq_false _ ▸ hw1)
      obtain ⟨a, ha, rfl⟩ := rb_n (by omega) h8
      obtain ⟨b, hb, rfl⟩ := rb_n (by omega) h9
      rw [ab_above, if_neg hw1, iN_n (by omega), iN_n (by omega)]
      have hba := hB.2.2.2 a
      have hbb := hB.2.2.2 b
      refine aw_aload_n dd_mo_above_29 rfl 0 rfl ?_
      refine aw_join (tgt := 53) (v := zb_i (decide (¬ nI a = nI b) && !(ga_b A b).testBit a)) ?_ (fun kj30 => ?_)
      · refine aw_iconst (v := 2) dd_mo_above_53 (by decide) ?_
        refine aw_cVi mm_mo_when 0 0 _ 5 [_, _] _ (wc_mo_when G κ _ o rest _ _) dd_mo_above_54 cv_mo_86 my_mo_when np_mo_when rfl rfl rfl (by decide) rfl rfl (Nat.le_of_ble_eq_true rfl) (Nat.le_of_ble_eq_true rfl) ?_
        refine aw_if_ne (tgt := 62) dd_mo_above_57 (by decide) (fun hw => ?_) (fun hw => ?_)
        · have hw2 := bt_ne (zb_n0 hw)
          clear hw
          rw [if_neg hw2]
          refine aw_join (tgt := 80) (v := zb_i (!(ga_b A a).testBit b)) ?_ (fun kj62 => ?_)
          · refine aw_istore_n (lv' := [(3, _), (0, _), (1, _), (2, _)]) dd_mo_above_80 rfl (by decide) rfl ?_
            refine aw_iconst (v := 0) dd_mo_above_81 (by decide) ?_
            refine aw_istore (lv' := [(4, _), (3, _), (0, _), (1, _), (2, _)]) dd_mo_above_82 (by decide) rfl ?_
            rw [← kv_0 (km_s (km_s μ 0 (if (rb_i (ga_n A) (nI a) && rb_i (ga_n A) (nI b)) = true then 0 else 1)) 0 (if (decide (¬ nI a = nI b) && !(ga_b A b).testBit a) = true then 0 else 2)) 2]
            refine wl_mo_above1 G κ (km_s (km_s μ 0 (if (rb_i (ga_n A) (nI a) && rb_i (ga_n A) (nI b)) = true then 0 else 1)) 0 (if (decide (¬ nI a = nI b) && !(ga_b A b).testBit a) = true then 0 else 2)) o rest (n := ga_n A) (bel := ga_b A) hB.1 hn6 hB.2.2.1 (fun t ht => ?_) (ga_n A) 0 (Nat.zero_add _) _ (fun i hi => absurd hi (Nat.not_lt_zero i))
            refine aw_iconst (v := 0) dd_mo_above_113 (by decide) ?_
            refine aw_istore (lv' := [(4, _), (3, _), (0, _), (1, _), (2, _)]) dd_mo_above_114 (by decide) rfl ?_
            rw [← kv_0 ((km_s (km_s μ 0 (if (rb_i (ga_n A) (nI a) && rb_i (ga_n A) (nI b)) = true then 0 else 1)) 0 (if (decide (¬ nI a = nI b) && !(ga_b A b).testBit a) = true then 0 else 2)).1, va_up (km_s (km_s μ 0 (if (rb_i (ga_n A) (nI a) && rb_i (ga_n A) (nI b)) = true then 0 else 1)) 0 (if (decide (¬ nI a = nI b) && !(ga_b A b).testBit a) = true then 0 else 2)).2 2 t) 0]
            refine wl_mo_above2 G κ ((km_s (km_s μ 0 (if (rb_i (ga_n A) (nI a) && rb_i (ga_n A) (nI b)) = true then 0 else 1)) 0 (if (decide (¬ nI a = nI b) && !(ga_b A b).testBit a) = true then 0 else 2)).1, va_up (km_s (km_s μ 0 (if (rb_i (ga_n A) (nI a) && rb_i (ga_n A) (nI b)) = true then 0 else 1)) 0 (if (decide (¬ nI a = nI b) && !(ga_b A b).testBit a) = true then 0 else 2)).2 2 t) o rest (n := ga_n A) (bel := ga_b A) hB.1 hn6 hB.2.2.2 ht ha hb (fun f hf => ?_) (ga_n A) 0 (Nat.zero_add _) _ (fun i hi => ?_)
            · exact wm_mo_above G κ (km_s (km_s μ 0 (if (rb_i (ga_n A) (nI a) && rb_i (ga_n A) (nI b)) = true then 0 else 1)) 0 (if (decide (¬ nI a = nI b) && !(ga_b A b).testBit a) = true then 0 else 2)) o rest hR ha hb t ht f hf
            · rw [if_neg (Nat.not_lt_zero i)]; exact hB.2.2.1 i hi
          · refine aw_aload_n dd_mo_above_62 rfl 0 rfl ?_
            refine aw_getf _ 5 3 dd_mo_above_63 fl_mo_7 rfl rfl ?_
            refine aw_iload_n dd_mo_above_66 rfl 1 rfl ?_
            refine aw_iaN _ (a) dd_mo_above_67 rfl (by omega) (by decide) ?_
            refine aw_top (hB.2.2.1 a (by omega)) ?_
            refine aw_iload_n dd_mo_above_68 rfl 2 rfl ?_
            refine aw_ishr dd_mo_above_69 ?_
            refine aw_iconst (v := 1) dd_mo_above_70 (by decide) ?_
            refine aw_iand dd_mo_above_71 ?_
            refine aw_top (nI_bit (by omega) (by omega)) ?_
            refine aw_if_ne (tgt := 79) dd_mo_above_72 (by decide) (fun h5 => ?_) (fun h5 => ?_)
            · refine aw_iconst (v := 0) dd_mo_above_79 (by decide) ?_
              exact aw_top (by simp only [zb_q0, zb_q1, Bool.not_eq_false, Bool.not_eq_true] at *; simp_all [zb_i]) kj62
            · refine aw_iconst (v := 1) dd_mo_above_75 (by decide) ?_
              refine aw_goto (tgt := 80) dd_mo_above_76 (by decide) ?_
              exact aw_top (by simp only [zb_q0, zb_q1, Bool.not_eq_false, Bool.not_eq_true] at *; simp_all [zb_i]) kj62
        · replace hw := zb_e0 hw
          rw [if_pos hw]
          refine aw_iconst (v := 0) dd_mo_above_60 (by decide) ?_
          exact aw_zret dd_mo_above_61 rfl (by first | exact Or.inl rfl | exact Or.inr rfl) (by first | exact ⟨_, rfl, fun h0 => absurd (show (1 : Int32) = 0 from h0) (by decide), _, rfl, hR, wn_f hw⟩ | exact ⟨_, rfl, fun h0 => absurd (show (2 : Int32) = 0 from h0) (by decide), _, rfl, hR, wn_f hw⟩)
      · refine aw_iload_n dd_mo_above_30 rfl 1 rfl ?_
        refine aw_iload_n dd_mo_above_31 rfl 2 rfl ?_
        refine aw_icmp_eq (tgt := 52) dd_mo_above_32 (by decide) (fun h3 => ?_) (fun h3 => ?_)
        · refine aw_iconst (v := 0) dd_mo_above_52 (by decide) ?_
          exact aw_top (by simp only [zb_q0, zb_q1, Bool.not_eq_false, Bool.not_eq_true] at *; simp_all [zb_i]) kj30
        · refine aw_aload_n dd_mo_above_35 rfl 0 rfl ?_
          refine aw_getf _ 5 3 dd_mo_above_36 fl_mo_7 rfl rfl ?_
          refine aw_iload_n dd_mo_above_39 rfl 2 rfl ?_
          refine aw_iaN _ (b) dd_mo_above_40 rfl (by omega) (by decide) ?_
          refine aw_top (hB.2.2.1 b (by omega)) ?_
          refine aw_iload_n dd_mo_above_41 rfl 1 rfl ?_
          refine aw_ishr dd_mo_above_42 ?_
          refine aw_iconst (v := 1) dd_mo_above_43 (by decide) ?_
          refine aw_iand dd_mo_above_44 ?_
          refine aw_top (nI_bit (by omega) (by omega)) ?_
          refine aw_if_ne (tgt := 52) dd_mo_above_45 (by decide) (fun h4 => ?_) (fun h4 => ?_)
          · refine aw_iconst (v := 0) dd_mo_above_52 (by decide) ?_
            exact aw_top (by simp only [zb_q0, zb_q1, Bool.not_eq_false, Bool.not_eq_true] at *; simp_all [zb_i]) kj30
          · refine aw_iconst (v := 1) dd_mo_above_48 (by decide) ?_
            refine aw_goto (tgt := 53) dd_mo_above_49 (by decide) ?_
            exact aw_top (by simp only [zb_q0, zb_q1, Bool.not_eq_false, Bool.not_eq_true] at *; simp_all [zb_i]) kj30
  · refine aw_aload_n dd_mo_above_1 rfl 0 rfl ?_
    refine aw_iload_n dd_mo_above_2 rfl 1 rfl ?_
    refine aw_cVi mm_mo_isRole 0 0 _ 5 [_] _ (wc_mo_isRole G κ _ o rest (n := ga_n A) hB.1 _) dd_mo_above_3 cv_mo_90 my_mo_isRole np_mo_isRole rfl rfl rfl (by decide) rfl rfl (Nat.le_of_ble_eq_true rfl) (Nat.le_of_ble_eq_true rfl) ?_
    refine aw_if_eq (tgt := 21) dd_mo_above_6 (by decide) (fun h1 => ?_) (fun h1 => ?_)
    · refine aw_iconst (v := 0) dd_mo_above_21 (by decide) ?_
      exact aw_top (by simp_all [zb_q0, zb_q1, zb_i]) kj1
    · refine aw_aload_n dd_mo_above_9 rfl 0 rfl ?_
      refine aw_iload_n dd_mo_above_10 rfl 2 rfl ?_
      refine aw_cVi mm_mo_isRole 0 0 _ 5 [_] _ (wc_mo_isRole G κ _ o rest (n := ga_n A) hB.1 _) dd_mo_above_11 cv_mo_90 my_mo_isRole np_mo_isRole rfl rfl rfl (by decide) rfl rfl (Nat.le_of_ble_eq_true rfl) (Nat.le_of_ble_eq_true rfl) ?_
      refine aw_if_eq (tgt := 21) dd_mo_above_14 (by decide) (fun h2 => ?_) (fun h2 => ?_)
      · refine aw_iconst (v := 0) dd_mo_above_21 (by decide) ?_
        exact aw_top (by simp_all [zb_q0, zb_q1, zb_i]) kj1
      · refine aw_iconst (v := 1) dd_mo_above_17 (by decide) ?_
        refine aw_goto (tgt := 22) dd_mo_above_18 (by decide) ?_
        exact aw_top (by simp_all [zb_q0, zb_q1, zb_i]) kj1
