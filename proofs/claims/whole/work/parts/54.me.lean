/-! ===== the reference: limit, above ===== -/
theorem li_add {μ : cm_T} {K off : Nat} {ls : pl_T} (hL : rm_l μ K off ls) (h4 : ls.length < 4) {a : Nat} (ha : a < 64) {m : Int32} {μ' : cm_T} (e4 : μ'.2 4 K = nI (ls.length + 1)) (e5 : ∀ i, i ≤ ls.length → μ'.2 5 (off + i) = upd (μ.2 5) (off + ls.length) (nI a) (off + i)) (e6 : ∀ i, i ≤ ls.length → μ'.2 6 (off + i) = upd (μ.2 6) (off + ls.length) m (off + i)) : rm_l μ' K off (ls ++ [(a, m)]) := by
  refine ⟨by rw [e4, List.length_append]; rfl, by rw [List.length_append]; exact h4, fun i y hy => ?_⟩
  by_cases hi : i < ls.length
  · rw [List.getElem?_append_left hi] at hy
    obtain ⟨l1, l2, l3⟩ := hL.2.2 i y hy
    rw [e5 i (by omega), e6 i (by omega)]
    unfold upd
    rw [if_neg (by omega), if_neg (by omega)]
    exact ⟨l1, l2, l3⟩
  · have hi2 : i = ls.length := by
      have := (List.getElem?_eq_some_iff.mp hy).1
      rw [List.length_append] at this
      simp at this
      omega
    subst hi2
    rw [List.getElem?_concat_length] at hy
    cases hy
    rw [e5 _ (Nat.le_refl _), e6 _ (Nat.le_refl _)]
    unfold upd
    rw [if_pos rfl, if_pos rfl]
    exact ⟨rfl, rfl, ha⟩
theorem li_oth {μ : cm_T} {K off : Nat} {ls : pl_T} (hL : rm_l μ K off ls) {μ' : cm_T} (e4 : μ'.2 4 K = μ.2 4 K) (e5 : ∀ i, i < ls.length → μ'.2 5 (off + i) = μ.2 5 (off + i)) (e6 : ∀ i, i < ls.length → μ'.2 6 (off + i) = μ.2 6 (off + i)) : rm_l μ' K off ls := by
  refine ⟨by rw [e4]; exact hL.1, hL.2.1, fun i y hy => ?_⟩
  have := (List.getElem?_eq_some_iff.mp hy).1
  rw [e5 i this, e6 i this]
  exact hL.2.2 i y hy
theorem wm_mo_limit1 (G : ag_T) (κ : ck_T) (μ : cm_T) (o : Nat → Int64) (rest : List va_E) {A : aa_T} (hR : rm_R μ A) (m : Int32) {a : Nat} (ha : a < 64) (h4 : (ga_d A).length < 4) : aw_w G mm_mo_limit 3 69 0 0 178 [(7, .int (nI 4)), (6, .int (zb_i (pa_k (fun i => !(ga_o A i).isSome || pk_l (ga_d A ++ [(a, m)]) (ga_c A i)) 4))), (5, .int (nI (4 + (ga_d A).length))), (4, .int (nI 1)), (0, .ref (G.1 + 13)), (1, .int (zb_i true)), (2, .int (nI a)), (3, .int m)] [] (hp_f G κ (km_a (km_a (km_a μ 5 (4 + (ga_d A).length) (nI a)) 6 (4 + (ga_d A).length) m) 4 1 (nI ((ga_d A).length + 1))) o rest) (qm_V G κ o rest (if pa_k (fun i => !(ga_o A i).isSome || pk_l (ga_d A ++ [(a, m)]) (ga_c A i)) 4 = true then (0, 0, sa_d A (ga_d A ++ [(a, m)])) else (2, 0, A))) := by
  obtain ⟨hB, hGr, hU, hSL, hDL, hRs, hSs⟩ := id hR; have hn6 := hB.2.1; have hu5 := hU.2.1
  refine aw_aload_n dd_mo_limit_178 rfl 4 rfl ?_
  refine aw_iload dd_mo_limit_179 1 rfl ?_
  refine aw_iconst (v := 2) dd_mo_limit_181 (by decide) ?_
  refine aw_cVi mm_mo_when 0 0 _ 5 [_, _] _ (wc_mo_when G κ _ o rest _ _) dd_mo_limit_182 cv_mo_86 my_mo_when np_mo_when rfl rfl rfl (by decide) rfl rfl (Nat.le_of_ble_eq_true rfl) (Nat.le_of_ble_eq_true rfl) ?_
  refine aw_if_ne (tgt := 199) dd_mo_limit_185 (by decide) (fun hw => ?_) (fun hw => ?_)
  · replace hw := zb_n0 hw
    rw [show (if pa_k (fun i => !(ga_o A i).isSome || pk_l (ga_d A ++ [(a, m)]) (ga_c A i)) 4 = true then ((0, 0, sa_d A (ga_d A ++ [(a, m)])) : ar_T) else (2, 0, A)) = (0, 0, sa_d A (ga_d A ++ [(a, m)])) from if_pos hw]
    exact aw_vret dd_mo_limit_199 rfl (by first | exact ⟨rfl, _, rfl, ⟨hB, hGr, hU, li_oth hSL rfl (fun i hi => by show upd _ _ _ _ = _; unfold upd; rw [if_neg (by have := hSL.2.1; omega)]; try rfl) (fun i hi => by show upd _ _ _ _ = _; unfold upd; rw [if_neg (by have := hSL.2.1; omega)]; try rfl), li_add hDL h4 ha rfl (fun i _ => rfl) (fun i _ => rfl), hRs, hSs⟩, wn_t (bt_ne hw)⟩ | exact ⟨rfl, _, rfl, ⟨hB, hGr, hU, li_oth hSL rfl (fun i hi => by show upd _ _ _ _ = _; unfold upd; rw [if_neg (by have := hSL.2.1; omega)]; try rfl) (fun i hi => by show upd _ _ _ _ = _; unfold upd; rw [if_neg (by have := hSL.2.1; omega)]; try rfl), li_oth hDL hDL.1.symm (fun i hi => by show upd _ _ _ _ = _; unfold upd; rw [if_neg (by omega)]; try rfl) (fun i hi => by show upd _ _ _ _ = _; unfold upd; rw [if_neg (by omega)]; try rfl), hRs, hSs⟩, wn_f hw⟩)
  · replace hw := zb_e0 hw
    rw [show (if pa_k (fun i => !(ga_o A i).isSome || pk_l (ga_d A ++ [(a, m)]) (ga_c A i)) 4 = true then ((0, 0, sa_d A (ga_d A ++ [(a, m)])) : ar_T) else (2, 0, A)) = (2, 0, A) from if_neg (show ¬ pa_k (fun i => !(ga_o A i).isSome || pk_l (ga_d A ++ [(a, m)]) (ga_c A i)) 4 = true by rw [hw]; decide)]
    refine aw_aload_n dd_mo_limit_188 rfl 4 rfl ?_
    refine aw_getf _ 5 7 dd_mo_limit_189 fl_mo_22 rfl rfl ?_
    refine aw_iload dd_mo_limit_192 3 rfl ?_
    refine aw_dup2 dd_mo_limit_194 rfl rfl ?_
    refine aw_iaN _ (1) dd_mo_limit_195 rfl (by decide) (by decide) ?_
    refine aw_top (y := nI ((ga_d A).length + 1)) rfl ?_
    refine aw_iconst (v := 1) dd_mo_limit_196 (by decide) ?_
    refine aw_isub dd_mo_limit_197 ?_
    refine aw_top (nI_pred _) ?_
    refine aw_isN _ (1) dd_mo_limit_198 rfl (by decide) (by decide) ?_
    refine aw_h (hs_ma4 G _ _ _ _ _ _) ?_
    exact aw_vret dd_mo_limit_199 rfl (by first | exact ⟨rfl, _, rfl, ⟨hB, hGr, hU, li_oth hSL rfl (fun i hi => by show upd _ _ _ _ = _; unfold upd; rw [if_neg (by have := hSL.2.1; omega)]; try rfl) (fun i hi => by show upd _ _ _ _ = _; unfold upd; rw [if_neg (by have := hSL.2.1; omega)]; try rfl), li_add hDL h4 ha rfl (fun i _ => rfl) (fun i _ => rfl), hRs, hSs⟩, wn_t (bt_ne hw)⟩ | exact ⟨rfl, _, rfl, ⟨hB, hGr, hU, li_oth hSL rfl (fun i hi => by show upd _ _ _ _ = _; unfold upd; rw [if_neg (by have := hSL.2.1; omega)]; try rfl) (fun i hi => by show upd _ _ _ _ = _; unfold upd; rw [if_neg (by have := hSL.2.1; omega)]; try rfl), li_oth hDL hDL.1.symm (fun i hi => by show upd _ _ _ _ = _; unfold upd; rw [if_neg (by omega)]; try rfl) (fun i hi => by show upd _ _ _ _ = _; unfold upd; rw [if_neg (by omega)]; try rfl), hRs, hSs⟩, wn_f hw⟩)
theorem wl_mo_limit1 (G : ag_T) (κ : ck_T) (μ : cm_T) (o : Nat → Int64) (rest : List va_E) {A : aa_T} (hR : rm_R μ A) (m : Int32) {a : Nat} (ha : a < 64) (h4 : (ga_d A).length < 4) : ∀ (k r : Nat), r + k = 4 → aw_w G mm_mo_limit 3 69 0 0 126 [(7, .int (nI r)), (6, .int (zb_i (pa_k (fun i => !(ga_o A i).isSome || pk_l (ga_d A ++ [(a, m)]) (ga_c A i)) r))), (5, .int (nI (4 + (ga_d A).length))), (4, .int (nI 1)), (0, .ref (G.1 + 13)), (1, .int (zb_i true)), (2, .int (nI a)), (3, .int m)] [] (hp_f G κ (km_a (km_a (km_a μ 5 (4 + (ga_d A).length) (nI a)) 6 (4 + (ga_d A).length) m) 4 1 (nI ((ga_d A).length + 1))) o rest) (qm_V G κ o rest (if pa_k (fun i => !(ga_o A i).isSome || pk_l (ga_d A ++ [(a, m)]) (ga_c A i)) 4 = true then (0, 0, sa_d A (ga_d A ++ [(a, m)])) else (2, 0, A))) := by
  obtain ⟨hB, hGr, hU, hSL, hDL, hRs, hSs⟩ := id hR; have hn6 := hB.2.1; have hu5 := hU.2.1
  intro k
  induction k with
  | zero =>
    intro r hr
    have e : r = 4 := by omega
    subst e
    refine aw_iload dd_mo_limit_126 0 rfl ?_
    refine aw_iconst (v := 4) dd_mo_limit_128 (by decide) ?_
    refine aw_icmp_ge (tgt := 178) dd_mo_limit_129 (by decide) (fun _ => ?_) (fun h9 => absurd (nI_le (a := 4) (b := 4) (by decide) (by decide)) h9)
    exact wm_mo_limit1 G κ μ o rest hR m ha h4
  | succ k ih =>
    intro r hr
    refine aw_iload dd_mo_limit_126 0 rfl ?_
    refine aw_iconst (v := 4) dd_mo_limit_128 (by decide) ?_
    refine aw_icmp_ge (tgt := 178) dd_mo_limit_129 (by decide) (fun h9 => absurd h9 (nI_ge (b := 4) (by omega) (by decide))) (fun _ => ?_)
    refine aw_join (tgt := 170) (v := zb_i (pa_k (fun i => !(ga_o A i).isSome || pk_l (ga_d A ++ [(a, m)]) (ga_c A i)) (r + 1))) ?_ (fun kj132 => ?_)
    · refine aw_istore (lv' := [(6, _), (7, _), (5, _), (4, _), (0, _), (1, _), (2, _), (3, _)]) dd_mo_limit_170 (by decide) rfl ?_
      refine aw_iinc (v := nI (r + 1)) (lv' := [(7, _), (6, _), (5, _), (4, _), (0, _), (1, _), (2, _), (3, _)]) dd_mo_limit_172 1 rfl (nI_1 _) (by decide) rfl ?_
      refine aw_goto (tgt := 126) dd_mo_limit_175 (by decide) ?_
      exact ih (r + 1) (by omega)
    · refine aw_iload dd_mo_limit_132 1 rfl ?_
      refine aw_if_eq (tgt := 169) dd_mo_limit_134 (by decide) (fun h1 => ?_) (fun h1 => ?_)
      · refine aw_iconst (v := 0) dd_mo_limit_169 (by decide) ?_
        exact aw_top (by simp only [zb_q0, zb_q1, Bool.not_eq_false, Bool.not_eq_true] at *; simp_all [zb_i, pa_k]) kj132
      · refine aw_iload_n dd_mo_limit_137 rfl 5 rfl ?_
        refine aw_if_eq (tgt := 165) dd_mo_limit_138 (by decide) (fun h9 => absurd h9 (by decide)) (fun _ => ?_)
        refine aw_aload_n dd_mo_limit_141 rfl 4 rfl ?_
        refine aw_getf _ 5 10 dd_mo_limit_142 fl_mo_31 rfl rfl ?_
        refine aw_iload dd_mo_limit_145 0 rfl ?_
        refine aw_zaN _ (r) dd_mo_limit_147 rfl (by omega) (by decide) ?_
        refine aw_top (hSs.1 r (by omega)).1 ?_
        refine aw_if_eq (tgt := 165) dd_mo_limit_148 (by decide) (fun h2 => ?_) (fun h2 => ?_)
        · refine aw_iconst (v := 1) dd_mo_limit_165 (by decide) ?_
          refine aw_goto (tgt := 170) dd_mo_limit_166 (by decide) ?_
          exact aw_top (by simp only [zb_q0, zb_q1, Bool.not_eq_false, Bool.not_eq_true] at *; simp_all [zb_i, pa_k]) kj132
        · obtain ⟨v, hv⟩ := Option.isSome_iff_exists.mp (zb_n0 h2)
          obtain ⟨g1, g2, g3⟩ := (hSs.1 r (by omega)).2 v hv
          refine aw_aload_n dd_mo_limit_151 rfl 4 rfl ?_
          refine aw_aload_n dd_mo_limit_152 rfl 4 rfl ?_
          refine aw_getf _ 5 12 dd_mo_limit_153 fl_mo_38 rfl rfl ?_
          refine aw_iload dd_mo_limit_156 0 rfl ?_
          refine aw_iaN _ (r) dd_mo_limit_158 rfl (by omega) (by decide) ?_
          refine aw_top g3 ?_
          refine aw_cVi mm_mo_dynamicKept 0 0 _ 5 [_] _ (wc_mo_dynamicKept G κ (km_a (km_a (km_a μ 5 (4 + (ga_d A).length) (nI a)) 6 (4 + (ga_d A).length) m) 4 1 (nI ((ga_d A).length + 1))) o rest (dl := ga_d A ++ [(a, m)]) (li_add hDL h4 ha rfl (fun i _ => rfl) (fun i _ => rfl)) (hSs.2 r)) dd_mo_limit_159 cv_mo_97 my_mo_dynamicKept np_mo_dynamicKept rfl rfl rfl (by decide) rfl rfl (Nat.le_of_ble_eq_true rfl) (Nat.le_of_ble_eq_true rfl) ?_
          refine aw_if_eq (tgt := 169) dd_mo_limit_162 (by decide) (fun h3 => ?_) (fun h3 => ?_)
          · refine aw_iconst (v := 0) dd_mo_limit_169 (by decide) ?_
            exact aw_top (by simp only [zb_q0, zb_q1, Bool.not_eq_false, Bool.not_eq_true] at *; simp_all [zb_i, pa_k]) kj132
          · refine aw_iconst (v := 1) dd_mo_limit_165 (by decide) ?_
            refine aw_goto (tgt := 170) dd_mo_limit_166 (by decide) ?_
            exact aw_top (by simp only [zb_q0, zb_q1, Bool.not_eq_false, Bool.not_eq_true] at *; simp_all [zb_i, pa_k]) kj132
theorem wc_mo_limit1 (G : ag_T) (κ : ck_T) (μ : cm_T) (o : Nat → Int64) (rest : List va_E) {A : aa_T} (hR : rm_R μ A) (s m : Int32) : aw_w G mm_mo_limit 3 69 0 0 0 (lv_args 0 [.ref (G.1 + 13), .int (zb_i true), .int s, .int m]) [] (hp_f G κ μ o rest) (qm_V G κ o rest (ab_limit A true s m)) := by
  obtain ⟨hB, hGr, hU, hSL, hDL, hRs, hSs⟩ := id hR; have hn6 := hB.2.1; have hu5 := hU.2.1
  have hl4 := hDL.2.1
  refine aw_iload_n dd_mo_limit_0 rfl 1 rfl ?_
  refine aw_if_eq (tgt := 8) dd_mo_limit_1 (by decide) (fun h9 => absurd h9 (by decide)) (fun _ => ?_)
  refine aw_iconst (v := (nI 1)) dd_mo_limit_4 (by decide) ?_
  refine aw_goto (tgt := 9) dd_mo_limit_5 (by decide) ?_
  refine aw_istore (lv' := [(4, _), (0, _), (1, _), (2, _), (3, _)]) dd_mo_limit_9 (by decide) rfl ?_
  refine aw_aload_n dd_mo_limit_11 rfl 1 rfl ?_
  refine aw_join (tgt := 32) (v := zb_i (decide (¬ m < 2) && st_i s)) ?_ (fun kj12 => ?_)
  · refine aw_iconst (v := 1) dd_mo_limit_32 (by decide) ?_
    refine aw_cVi mm_mo_when 0 0 _ 5 [_, _] _ (wc_mo_when G κ _ o rest _ _) dd_mo_limit_33 cv_mo_86 my_mo_when np_mo_when rfl rfl rfl (by decide) rfl rfl (Nat.le_of_ble_eq_true rfl) (Nat.le_of_ble_eq_true rfl) ?_
    refine aw_if_eq (tgt := 63) dd_mo_limit_36 (by decide) (fun hw => ?_) (fun hw => ?_)
    · replace hw := zb_e0 hw
      rw [ab_limit, if_pos hw]
      exact aw_vret dd_mo_limit_63 rfl ⟨rfl, _, rfl, hR, wn_f hw⟩
    · have hw1 := bt_ne (zb_n0 hw)
      clear hw
      obtain ⟨h8, h9⟩ := Bool.and_eq_true_iff.mp (Bool.not_eq_false _ ▸ hw1)
      obtain ⟨a, ha, rfl⟩ := st_n h9
      rw [ab_limit, if_neg hw1, iN_n (by omega)]
      refine aw_aload_n dd_mo_limit_39 rfl 1 rfl ?_
      refine aw_join (tgt := 56) (v := zb_i (decide ((ga_d A).length < 4))) ?_ (fun kj40 => ?_)
      · refine aw_iconst (v := 2) dd_mo_limit_56 (by decide) ?_
        refine aw_cVi mm_mo_when 0 0 _ 5 [_, _] _ (wc_mo_when G κ _ o rest _ _) dd_mo_limit_57 cv_mo_86 my_mo_when np_mo_when rfl rfl rfl (by decide) rfl rfl (Nat.le_of_ble_eq_true rfl) (Nat.le_of_ble_eq_true rfl) ?_
        refine aw_if_ne (tgt := 64) dd_mo_limit_60 (by decide) (fun hw => ?_) (fun hw => ?_)
        · have hw3 := bt_ne (zb_n0 hw)
          clear hw
          have h4 : (ga_d A).length < 4 := by simpa using hw3
          rw [if_neg (show ¬ ¬ (if true = true then ga_d A else ga_s A).length < 4 from fun h9 => h9 h4), if_pos rfl]
          refine aw_iconst (v := (nI 4)) dd_mo_limit_64 (by decide) ?_
          refine aw_iload dd_mo_limit_65 0 rfl ?_
          refine aw_imul dd_mo_limit_67 ?_
          refine aw_top (y := nI 4) rfl ?_
          refine aw_aload_n dd_mo_limit_68 rfl 1 rfl ?_
          refine aw_getf _ 5 7 dd_mo_limit_69 fl_mo_22 rfl rfl ?_
          refine aw_iload dd_mo_limit_72 0 rfl ?_
          refine aw_iaN _ (1) dd_mo_limit_74 rfl (by decide) (by decide) ?_
          refine aw_top hDL.1 ?_
          refine aw_iadd dd_mo_limit_75 ?_
          refine aw_top (nI_add _ _) ?_
          refine aw_istore (lv' := [(5, _), (4, _), (0, _), (1, _), (2, _), (3, _)]) dd_mo_limit_76 (by decide) rfl ?_
          refine aw_aload_n dd_mo_limit_78 rfl 2 rfl ?_
          refine aw_getf _ 5 8 dd_mo_limit_79 fl_mo_25 rfl rfl ?_
          refine aw_iload dd_mo_limit_82 0 rfl ?_
          refine aw_iload_n dd_mo_limit_84 rfl 4 rfl ?_
          refine aw_isN _ (4 + (ga_d A).length) dd_mo_limit_85 rfl (by omega) (by decide) ?_
          refine aw_h (hs_ma5 G _ _ _ _ _ _) ?_
          refine aw_aload_n dd_mo_limit_86 rfl 2 rfl ?_
          refine aw_getf _ 5 9 dd_mo_limit_87 fl_mo_28 rfl rfl ?_
          refine aw_iload dd_mo_limit_90 0 rfl ?_
          refine aw_iload_n dd_mo_limit_92 rfl 5 rfl ?_
          refine aw_isN _ (4 + (ga_d A).length) dd_mo_limit_93 rfl (by omega) (by decide) ?_
          refine aw_h (hs_ma6 G _ _ _ _ _ _) ?_
          refine aw_aload_n dd_mo_limit_94 rfl 2 rfl ?_
          refine aw_getf _ 5 7 dd_mo_limit_95 fl_mo_22 rfl rfl ?_
          refine aw_iload dd_mo_limit_98 1 rfl ?_
          refine aw_dup2 dd_mo_limit_100 rfl rfl ?_
          refine aw_iaN _ (1) dd_mo_limit_101 rfl (by decide) (by decide) ?_
          refine aw_top hDL.1 ?_
          refine aw_iconst (v := 1) dd_mo_limit_102 (by decide) ?_
          refine aw_iadd dd_mo_limit_103 ?_
          refine aw_top (nI_1 _) ?_
          refine aw_isN _ (1) dd_mo_limit_104 rfl (by decide) (by decide) ?_
          refine aw_h (hs_ma4 G _ _ _ _ _ _) ?_
          refine aw_iload_n dd_mo_limit_105 rfl 3 rfl ?_
          refine aw_if_ne (tgt := 116) dd_mo_limit_106 (by decide) (fun _ => ?_) (fun h9 => absurd h9 (by decide))
          refine aw_iconst (v := 1) dd_mo_limit_116 (by decide) ?_
          refine aw_goto (tgt := 121) dd_mo_limit_117 (by decide) ?_
          refine aw_istore (lv' := [(6, _), (5, _), (4, _), (0, _), (1, _), (2, _), (3, _)]) dd_mo_limit_121 (by decide) rfl ?_
          refine aw_iconst (v := 0) dd_mo_limit_123 (by decide) ?_
          refine aw_istore (lv' := [(7, _), (6, _), (5, _), (4, _), (0, _), (1, _), (2, _), (3, _)]) dd_mo_limit_124 (by decide) rfl ?_
          exact wl_mo_limit1 G κ (km_s (km_s μ 0 (if (decide (¬ m < 2) && st_i (nI a)) = true then 0 else 1)) 0 (if (decide ((ga_d A).length < 4)) = true then 0 else 2)) o rest hR m ha h4 4 0 rfl
        · replace hw := zb_e0 hw
          rw [if_pos (show ¬ (if true = true then ga_d A else ga_s A).length < 4 by simpa using hw)]
          exact aw_vret dd_mo_limit_63 rfl ⟨rfl, _, rfl, hR, wn_f hw⟩
      · refine aw_aload_n dd_mo_limit_40 rfl 1 rfl ?_
        refine aw_getf _ 5 7 dd_mo_limit_41 fl_mo_22 rfl rfl ?_
        refine aw_iload dd_mo_limit_44 0 rfl ?_
        refine aw_iaN _ (1) dd_mo_limit_46 rfl (by decide) (by decide) ?_
        refine aw_top hDL.1 ?_
        refine aw_iconst (v := (nI 4)) dd_mo_limit_47 (by decide) ?_
        refine aw_icmp_ge (tgt := 55) dd_mo_limit_48 (by decide) (fun h5 => ?_) (fun h5 => ?_)
        · refine aw_iconst (v := 0) dd_mo_limit_55 (by decide) ?_
          exact aw_top (by rw [nI_leI (by omega) (by omega)] at h5; simp [zb_i]; omega) kj40
        · refine aw_iconst (v := 1) dd_mo_limit_51 (by decide) ?_
          refine aw_goto (tgt := 56) dd_mo_limit_52 (by decide) ?_
          exact aw_top (by rw [nI_leI (by omega) (by omega)] at h5; simp [zb_i]; omega) kj40
  · refine aw_iload_n dd_mo_limit_12 rfl 4 rfl ?_
    refine aw_iconst (v := 2) dd_mo_limit_13 (by decide) ?_
    refine aw_icmp_lt (tgt := 31) dd_mo_limit_14 (by decide) (fun h1 => ?_) (fun h1 => ?_)
    · refine aw_iconst (v := 0) dd_mo_limit_31 (by decide) ?_
      exact aw_top (by simp_all [zb_i, st_i]) kj12
    · refine aw_iload_n dd_mo_limit_17 rfl 3 rfl ?_
      refine aw_if_lt (tgt := 31) dd_mo_limit_18 (by decide) (fun h2 => ?_) (fun h2 => ?_)
      · refine aw_iconst (v := 0) dd_mo_limit_31 (by decide) ?_
        exact aw_top (by simp_all [zb_i, st_i]) kj12
      · refine aw_iload_n dd_mo_limit_21 rfl 3 rfl ?_
        refine aw_bipush (v := 63) dd_mo_limit_22 (by decide) ?_
        refine aw_icmp_gt (tgt := 31) dd_mo_limit_24 (by decide) (fun h3 => ?_) (fun h3 => ?_)
        · refine aw_iconst (v := 0) dd_mo_limit_31 (by decide) ?_
          exact aw_top (by simp_all [zb_i, st_i]) kj12
        · refine aw_iconst (v := 1) dd_mo_limit_27 (by decide) ?_
          refine aw_goto (tgt := 32) dd_mo_limit_28 (by decide) ?_
          exact aw_top (by simp_all [zb_i, st_i]) kj12
theorem wm_mo_limit0 (G : ag_T) (κ : ck_T) (μ : cm_T) (o : Nat → Int64) (rest : List va_E) {A : aa_T} (hR : rm_R μ A) (m : Int32) {a : Nat} (ha : a < 64) (h4 : (ga_s A).length < 4) : aw_w G mm_mo_limit 3 69 0 0 178 [(7, .int (nI 4)), (6, .int (zb_i (pa_k (fun v => pk_l (ga_s A ++ [(a, m)]) (ga_l A (ga_a A v))) (ga_u A)))), (5, .int (nI (0 + (ga_s A).length))), (4, .int (nI 0)), (0, .ref (G.1 + 13)), (1, .int (zb_i false)), (2, .int (nI a)), (3, .int m)] [] (hp_f G κ (km_a (km_a (km_a μ 5 (0 + (ga_s A).length) (nI a)) 6 (0 + (ga_s A).length) m) 4 0 (nI ((ga_s A).length + 1))) o rest) (qm_V G κ o rest (if pa_k (fun v => pk_l (ga_s A ++ [(a, m)]) (ga_l A (ga_a A v))) (ga_u A) = true then (0, 0, sa_s A (ga_s A ++ [(a, m)])) else (2, 0, A))) := by
  obtain ⟨hB, hGr, hU, hSL, hDL, hRs, hSs⟩ := id hR; have hn6 := hB.2.1; have hu5 := hU.2.1
  refine aw_aload_n dd_mo_limit_178 rfl 4 rfl ?_
  refine aw_iload dd_mo_limit_179 1 rfl ?_
  refine aw_iconst (v := 2) dd_mo_limit_181 (by decide) ?_
  refine aw_cVi mm_mo_when 0 0 _ 5 [_, _] _ (wc_mo_when G κ _ o rest _ _) dd_mo_limit_182 cv_mo_86 my_mo_when np_mo_when rfl rfl rfl (by decide) rfl rfl (Nat.le_of_ble_eq_true rfl) (Nat.le_of_ble_eq_true rfl) ?_
  refine aw_if_ne (tgt := 199) dd_mo_limit_185 (by decide) (fun hw => ?_) (fun hw => ?_)
  · replace hw := zb_n0 hw
    rw [show (if pa_k (fun v => pk_l (ga_s A ++ [(a, m)]) (ga_l A (ga_a A v))) (ga_u A) = true then ((0, 0, sa_s A (ga_s A ++ [(a, m)])) : ar_T) else (2, 0, A)) = (0, 0, sa_s A (ga_s A ++ [(a, m)])) from if_pos hw]
    exact aw_vret dd_mo_limit_199 rfl (by first | exact ⟨rfl, _, rfl, ⟨hB, hGr, hU, li_add hSL h4 ha rfl (fun i _ => rfl) (fun i _ => rfl), li_oth hDL rfl (fun i hi => by show upd _ _ _ _ = _; unfold upd; rw [if_neg (by omega)]; try rfl) (fun i hi => by show upd _ _ _ _ = _; unfold upd; rw [if_neg (by omega)]; try rfl), hRs, hSs⟩, wn_t (bt_ne hw)⟩ | exact ⟨rfl, _, rfl, ⟨hB, hGr, hU, li_oth hSL hSL.1.symm (fun i hi => by show upd _ _ _ _ = _; unfold upd; rw [if_neg (by omega)]; try rfl) (fun i hi => by show upd _ _ _ _ = _; unfold upd; rw [if_neg (by omega)]; try rfl), li_oth hDL rfl (fun i hi => by show upd _ _ _ _ = _; unfold upd; rw [if_neg (by omega)]; try rfl) (fun i hi => by show upd _ _ _ _ = _; unfold upd; rw [if_neg (by omega)]; try rfl), hRs, hSs⟩, wn_f hw⟩)
  · replace hw := zb_e0 hw
    rw [show (if pa_k (fun v => pk_l (ga_s A ++ [(a, m)]) (ga_l A (ga_a A v))) (ga_u A) = true then ((0, 0, sa_s A (ga_s A ++ [(a, m)])) : ar_T) else (2, 0, A)) = (2, 0, A) from if_neg (show ¬ pa_k (fun v => pk_l (ga_s A ++ [(a, m)]) (ga_l A (ga_a A v))) (ga_u A) = true by rw [hw]; decide)]
    refine aw_aload_n dd_mo_limit_188 rfl 4 rfl ?_
    refine aw_getf _ 5 7 dd_mo_limit_189 fl_mo_22 rfl rfl ?_
    refine aw_iload dd_mo_limit_192 3 rfl ?_
    refine aw_dup2 dd_mo_limit_194 rfl rfl ?_
    refine aw_iaN _ (0) dd_mo_limit_195 rfl (by decide) (by decide) ?_
    refine aw_top (y := nI ((ga_s A).length + 1)) rfl ?_
    refine aw_iconst (v := 1) dd_mo_limit_196 (by decide) ?_
    refine aw_isub dd_mo_limit_197 ?_
    refine aw_top (nI_pred _) ?_
    refine aw_isN _ (0) dd_mo_limit_198 rfl (by decide) (by decide) ?_
    refine aw_h (hs_ma4 G _ _ _ _ _ _) ?_
    exact aw_vret dd_mo_limit_199 rfl (by first | exact ⟨rfl, _, rfl, ⟨hB, hGr, hU, li_add hSL h4 ha rfl (fun i _ => rfl) (fun i _ => rfl), li_oth hDL rfl (fun i hi => by show upd _ _ _ _ = _; unfold upd; rw [if_neg (by omega)]; try rfl) (fun i hi => by show upd _ _ _ _ = _; unfold upd; rw [if_neg (by omega)]; try rfl), hRs, hSs⟩, wn_t (bt_ne hw)⟩ | exact ⟨rfl, _, rfl, ⟨hB, hGr, hU, li_oth hSL hSL.1.symm (fun i hi => by show upd _ _ _ _ = _; unfold upd; rw [if_neg (by omega)]; try rfl) (fun i hi => by show upd _ _ _ _ = _; unfold upd; rw [if_neg (by omega)]; try rfl), li_oth hDL rfl (fun i hi => by show upd _ _ _ _ = _; unfold upd; rw [if_neg (by omega)]; try rfl) (fun i hi => by show upd _ _ _ _ = _; unfold upd; rw [if_neg (by omega)]; try rfl), hRs, hSs⟩, wn_f hw⟩)
theorem wl_mo_limit0 (G : ag_T) (κ : ck_T) (μ : cm_T) (o : Nat → Int64) (rest : List va_E) {A : aa_T} (hR : rm_R μ A) (m : Int32) {a : Nat} (ha : a < 64) (h4 : (ga_s A).length < 4) : ∀ (k r : Nat), r + k = 4 → aw_w G mm_mo_limit 3 69 0 0 126 [(7, .int (nI r)), (6, .int (zb_i (pa_k (fun v => pk_l (ga_s A ++ [(a, m)]) (ga_l A (ga_a A v))) (ga_u A)))), (5, .int (nI (0 + (ga_s A).length))), (4, .int (nI 0)), (0, .ref (G.1 + 13)), (1, .int (zb_i false)), (2, .int (nI a)), (3, .int m)] [] (hp_f G κ (km_a (km_a (km_a μ 5 (0 + (ga_s A).length) (nI a)) 6 (0 + (ga_s A).length) m) 4 0 (nI ((ga_s A).length + 1))) o rest) (qm_V G κ o rest (if pa_k (fun v => pk_l (ga_s A ++ [(a, m)]) (ga_l A (ga_a A v))) (ga_u A) = true then (0, 0, sa_s A (ga_s A ++ [(a, m)])) else (2, 0, A))) := by
  obtain ⟨hB, hGr, hU, hSL, hDL, hRs, hSs⟩ := id hR; have hn6 := hB.2.1; have hu5 := hU.2.1
  intro k
  induction k with
  | zero =>
    intro r hr
    have e : r = 4 := by omega
    subst e
    refine aw_iload dd_mo_limit_126 0 rfl ?_
    refine aw_iconst (v := 4) dd_mo_limit_128 (by decide) ?_
    refine aw_icmp_ge (tgt := 178) dd_mo_limit_129 (by decide) (fun _ => ?_) (fun h9 => absurd (nI_le (a := 4) (b := 4) (by decide) (by decide)) h9)
    exact wm_mo_limit0 G κ μ o rest hR m ha h4
  | succ k ih =>
    intro r hr
    refine aw_iload dd_mo_limit_126 0 rfl ?_
    refine aw_iconst (v := 4) dd_mo_limit_128 (by decide) ?_
    refine aw_icmp_ge (tgt := 178) dd_mo_limit_129 (by decide) (fun h9 => absurd h9 (nI_ge (b := 4) (by omega) (by decide))) (fun _ => ?_)
    refine aw_join (tgt := 170) (v := zb_i (pa_k (fun v => pk_l (ga_s A ++ [(a, m)]) (ga_l A (ga_a A v))) (ga_u A))) ?_ (fun kj132 => ?_)
    · refine aw_istore (lv' := [(6, _), (7, _), (5, _), (4, _), (0, _), (1, _), (2, _), (3, _)]) dd_mo_limit_170 (by decide) rfl ?_
      refine aw_iinc (v := nI (r + 1)) (lv' := [(7, _), (6, _), (5, _), (4, _), (0, _), (1, _), (2, _), (3, _)]) dd_mo_limit_172 1 rfl (nI_1 _) (by decide) rfl ?_
      refine aw_goto (tgt := 126) dd_mo_limit_175 (by decide) ?_
      exact ih (r + 1) (by omega)
    · refine aw_iload dd_mo_limit_132 1 rfl ?_
      refine aw_if_eq (tgt := 169) dd_mo_limit_134 (by decide) (fun h1 => ?_) (fun h1 => ?_)
      · refine aw_iconst (v := 0) dd_mo_limit_169 (by decide) ?_
        exact aw_top (by simp only [zb_q0, zb_q1, Bool.not_eq_false, Bool.not_eq_true] at *; simp_all [zb_i]) kj132
      · refine aw_iload_n dd_mo_limit_137 rfl 5 rfl ?_
        refine aw_if_eq (tgt := 165) dd_mo_limit_138 (by decide) (fun _ => ?_) (fun h9 => absurd (rfl) h9)
        refine aw_iconst (v := 1) dd_mo_limit_165 (by decide) ?_
        refine aw_goto (tgt := 170) dd_mo_limit_166 (by decide) ?_
        exact aw_top (by simp only [zb_q0, zb_q1, Bool.not_eq_false, Bool.not_eq_true] at *; simp_all [zb_i]) kj132
theorem wc_mo_limit0 (G : ag_T) (κ : ck_T) (μ : cm_T) (o : Nat → Int64) (rest : List va_E) {A : aa_T} (hR : rm_R μ A) (s m : Int32) : aw_w G mm_mo_limit 3 69 0 0 0 (lv_args 0 [.ref (G.1 + 13), .int (zb_i false), .int s, .int m]) [] (hp_f G κ μ o rest) (qm_V G κ o rest (ab_limit A false s m)) := by
  obtain ⟨hB, hGr, hU, hSL, hDL, hRs, hSs⟩ := id hR; have hn6 := hB.2.1; have hu5 := hU.2.1
  have hl4 := hSL.2.1
  refine aw_iload_n dd_mo_limit_0 rfl 1 rfl ?_
  refine aw_if_eq (tgt := 8) dd_mo_limit_1 (by decide) (fun _ => ?_) (fun h9 => absurd (rfl) h9)
  refine aw_iconst (v := (nI 0)) dd_mo_limit_8 (by decide) ?_
  refine aw_istore (lv' := [(4, _), (0, _), (1, _), (2, _), (3, _)]) dd_mo_limit_9 (by decide) rfl ?_
  refine aw_aload_n dd_mo_limit_11 rfl 1 rfl ?_
  refine aw_join (tgt := 32) (v := zb_i (decide (¬ m < 2) && st_i s)) ?_ (fun kj12 => ?_)
  · refine aw_iconst (v := 1) dd_mo_limit_32 (by decide) ?_
    refine aw_cVi mm_mo_when 0 0 _ 5 [_, _] _ (wc_mo_when G κ _ o rest _ _) dd_mo_limit_33 cv_mo_86 my_mo_when np_mo_when rfl rfl rfl (by decide) rfl rfl (Nat.le_of_ble_eq_true rfl) (Nat.le_of_ble_eq_true rfl) ?_
    refine aw_if_eq (tgt := 63) dd_mo_limit_36 (by decide) (fun hw => ?_) (fun hw => ?_)
    · replace hw := zb_e0 hw
      rw [ab_limit, if_pos hw]
      exact aw_vret dd_mo_limit_63 rfl ⟨rfl, _, rfl, hR, wn_f hw⟩
    · have hw1 := bt_ne (zb_n0 hw)
      clear hw
      obtain ⟨h8, h9⟩ := Bool.and_eq_true_iff.mp (Bool.not_eq_false _ ▸ hw1)
      obtain ⟨a, ha, rfl⟩ := st_n h9
      rw [ab_limit, if_neg hw1, iN_n (by omega)]
      refine aw_aload_n dd_mo_limit_39 rfl 1 rfl ?_
      refine aw_join (tgt := 56) (v := zb_i (decide ((ga_s A).length < 4))) ?_ (fun kj40 => ?_)
      · refine aw_iconst (v := 2) dd_mo_limit_56 (by decide) ?_
        refine aw_cVi mm_mo_when 0 0 _ 5 [_, _] _ (wc_mo_when G κ _ o rest _ _) dd_mo_limit_57 cv_mo_86 my_mo_when np_mo_when rfl rfl rfl (by decide) rfl rfl (Nat.le_of_ble_eq_true rfl) (Nat.le_of_ble_eq_true rfl) ?_
        refine aw_if_ne (tgt := 64) dd_mo_limit_60 (by decide) (fun hw => ?_) (fun hw => ?_)
        · have hw3 := bt_ne (zb_n0 hw)
          clear hw
          have h4 : (ga_s A).length < 4 := by simpa using hw3
          rw [if_neg (show ¬ ¬ (if false = true then ga_d A else ga_s A).length < 4 from fun h9 => h9 h4), if_neg (show ¬ false = true by decide)]
          refine aw_iconst (v := (nI 4)) dd_mo_limit_64 (by decide) ?_
          refine aw_iload dd_mo_limit_65 0 rfl ?_
          refine aw_imul dd_mo_limit_67 ?_
          refine aw_top (y := nI 0) rfl ?_
          refine aw_aload_n dd_mo_limit_68 rfl 1 rfl ?_
          refine aw_getf _ 5 7 dd_mo_limit_69 fl_mo_22 rfl rfl ?_
          refine aw_iload dd_mo_limit_72 0 rfl ?_
          refine aw_iaN _ (0) dd_mo_limit_74 rfl (by decide) (by decide) ?_
          refine aw_top hSL.1 ?_
          refine aw_iadd dd_mo_limit_75 ?_
          refine aw_top (nI_add _ _) ?_
          refine aw_istore (lv' := [(5, _), (4, _), (0, _), (1, _), (2, _), (3, _)]) dd_mo_limit_76 (by decide) rfl ?_
          refine aw_aload_n dd_mo_limit_78 rfl 2 rfl ?_
          refine aw_getf _ 5 8 dd_mo_limit_79 fl_mo_25 rfl rfl ?_
          refine aw_iload dd_mo_limit_82 0 rfl ?_
          refine aw_iload_n dd_mo_limit_84 rfl 4 rfl ?_
          refine aw_isN _ (0 + (ga_s A).length) dd_mo_limit_85 rfl (by omega) (by decide) ?_
          refine aw_h (hs_ma5 G _ _ _ _ _ _) ?_
          refine aw_aload_n dd_mo_limit_86 rfl 2 rfl ?_
          refine aw_getf _ 5 9 dd_mo_limit_87 fl_mo_28 rfl rfl ?_
          refine aw_iload dd_mo_limit_90 0 rfl ?_
          refine aw_iload_n dd_mo_limit_92 rfl 5 rfl ?_
          refine aw_isN _ (0 + (ga_s A).length) dd_mo_limit_93 rfl (by omega) (by decide) ?_
          refine aw_h (hs_ma6 G _ _ _ _ _ _) ?_
          refine aw_aload_n dd_mo_limit_94 rfl 2 rfl ?_
          refine aw_getf _ 5 7 dd_mo_limit_95 fl_mo_22 rfl rfl ?_
          refine aw_iload dd_mo_limit_98 1 rfl ?_
          refine aw_dup2 dd_mo_limit_100 rfl rfl ?_
          refine aw_iaN _ (0) dd_mo_limit_101 rfl (by decide) (by decide) ?_
          refine aw_top hSL.1 ?_
          refine aw_iconst (v := 1) dd_mo_limit_102 (by decide) ?_
          refine aw_iadd dd_mo_limit_103 ?_
          refine aw_top (nI_1 _) ?_
          refine aw_isN _ (0) dd_mo_limit_104 rfl (by decide) (by decide) ?_
          refine aw_h (hs_ma4 G _ _ _ _ _ _) ?_
          refine aw_iload_n dd_mo_limit_105 rfl 3 rfl ?_
          refine aw_if_ne (tgt := 116) dd_mo_limit_106 (by decide) (fun h9 => absurd (by decide) h9) (fun _ => ?_)
          refine aw_join (tgt := 121) (v := zb_i (pa_k (fun v => pk_l (ga_s A ++ [(a, m)]) (ga_l A (ga_a A v))) (ga_u A))) ?_ (fun kj109 => ?_)
          · refine aw_istore (lv' := [(6, _), (5, _), (4, _), (0, _), (1, _), (2, _), (3, _)]) dd_mo_limit_121 (by decide) rfl ?_
            refine aw_iconst (v := 0) dd_mo_limit_123 (by decide) ?_
            refine aw_istore (lv' := [(7, _), (6, _), (5, _), (4, _), (0, _), (1, _), (2, _), (3, _)]) dd_mo_limit_124 (by decide) rfl ?_
            exact wl_mo_limit0 G κ (km_s (km_s μ 0 (if (decide (¬ m < 2) && st_i (nI a)) = true then 0 else 1)) 0 (if (decide ((ga_s A).length < 4)) = true then 0 else 2)) o rest hR m ha h4 4 0 rfl
          · refine aw_aload_n dd_mo_limit_109 rfl 2 rfl ?_
            refine aw_cVi mm_mo_allStaticKept 0 0 _ 5 [] _ (wc_mo_allStaticKept G κ (km_a (km_a (km_a (km_s (km_s μ 0 (if (decide (¬ m < 2) && st_i (nI a)) = true then 0 else 1)) 0 (if (decide ((ga_s A).length < 4)) = true then 0 else 2)) 5 (0 + (ga_s A).length) (nI a)) 6 (0 + (ga_s A).length) m) 4 0 (nI ((ga_s A).length + 1))) o rest hB (sl := ga_s A ++ [(a, m)]) (li_add hSL h4 ha rfl (fun i _ => rfl) (fun i _ => rfl)) hU) dd_mo_limit_110 cv_mo_93 my_mo_allStaticKept np_mo_allStaticKept rfl rfl rfl (by decide) rfl rfl (Nat.le_of_ble_eq_true rfl) (Nat.le_of_ble_eq_true rfl) ?_
            refine aw_if_eq (tgt := 120) dd_mo_limit_113 (by decide) (fun h6 => ?_) (fun h6 => ?_)
            · refine aw_iconst (v := 0) dd_mo_limit_120 (by decide) ?_
              exact aw_top (by simp only [zb_q0, zb_q1, Bool.not_eq_false, Bool.not_eq_true] at *; simp_all [zb_i]) kj109
            · refine aw_iconst (v := 1) dd_mo_limit_116 (by decide) ?_
              refine aw_goto (tgt := 121) dd_mo_limit_117 (by decide) ?_
              exact aw_top (by simp only [zb_q0, zb_q1, Bool.not_eq_false, Bool.not_eq_true] at *; simp_all [zb_i]) kj109
        · replace hw := zb_e0 hw
          rw [if_pos (show ¬ (if false = true then ga_d A else ga_s A).length < 4 by simpa using hw)]
          exact aw_vret dd_mo_limit_63 rfl ⟨rfl, _, rfl, hR, wn_f hw⟩
      · refine aw_aload_n dd_mo_limit_40 rfl 1 rfl ?_
        refine aw_getf _ 5 7 dd_mo_limit_41 fl_mo_22 rfl rfl ?_
        refine aw_iload dd_mo_limit_44 0 rfl ?_
        refine aw_iaN _ (0) dd_mo_limit_46 rfl (by decide) (by decide) ?_
        refine aw_top hSL.1 ?_
        refine aw_iconst (v := (nI 4)) dd_mo_limit_47 (by decide) ?_
        refine aw_icmp_ge (tgt := 55) dd_mo_limit_48 (by decide) (fun h5 => ?_) (fun h5 => ?_)
        · refine aw_iconst (v := 0) dd_mo_limit_55 (by decide) ?_
          exact aw_top (by rw [nI_leI (by omega) (by omega)] at h5; simp [zb_i]; omega) kj40
        · refine aw_iconst (v := 1) dd_mo_limit_51 (by decide) ?_
          refine aw_goto (tgt := 56) dd_mo_limit_52 (by decide) ?_
          exact aw_top (by rw [nI_leI (by omega) (by omega)] at h5; simp [zb_i]; omega) kj40
  · refine aw_iload_n dd_mo_limit_12 rfl 4 rfl ?_
    refine aw_iconst (v := 2) dd_mo_limit_13 (by decide) ?_
    refine aw_icmp_lt (tgt := 31) dd_mo_limit_14 (by decide) (fun h1 => ?_) (fun h1 => ?_)
    · refine aw_iconst (v := 0) dd_mo_limit_31 (by decide) ?_
      exact aw_top (by simp_all [zb_i, st_i]) kj12
    · refine aw_iload_n dd_mo_limit_17 rfl 3 rfl ?_
      refine aw_if_lt (tgt := 31) dd_mo_limit_18 (by decide) (fun h2 => ?_) (fun h2 => ?_)
      · refine aw_iconst (v := 0) dd_mo_limit_31 (by decide) ?_
        exact aw_top (by simp_all [zb_i, st_i]) kj12
      · refine aw_iload_n dd_mo_limit_21 rfl 3 rfl ?_
        refine aw_bipush (v := 63) dd_mo_limit_22 (by decide) ?_
        refine aw_icmp_gt (tgt := 31) dd_mo_limit_24 (by decide) (fun h3 => ?_) (fun h3 => ?_)
        · refine aw_iconst (v := 0) dd_mo_limit_31 (by decide) ?_
          exact aw_top (by simp_all [zb_i, st_i]) kj12
        · refine aw_iconst (v := 1) dd_mo_limit_27 (by decide) ?_
          refine aw_goto (tgt := 32) dd_mo_limit_28 (by decide) ?_
          exact aw_top (by simp_all [zb_i, st_i]) kj12
theorem wc_mo_limit (G : ag_T) (κ : ck_T) (μ : cm_T) (o : Nat → Int64) (rest : List va_E) {A : aa_T} (hR : rm_R μ A) (d : Bool) (s m : Int32) : aw_w G mm_mo_limit 3 69 0 0 0 (lv_args 0 [.ref (G.1 + 13), .int (zb_i d), .int s, .int m]) [] (hp_f G κ μ o rest) (qm_V G κ o rest (ab_limit A d s m)) := by
  cases d
  · exact wc_mo_limit0 G κ μ o rest hR s m
  · exact wc_mo_limit1 G κ μ o rest hR s m
