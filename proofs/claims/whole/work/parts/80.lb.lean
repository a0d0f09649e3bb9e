/-! ===== the law's loop ===== -/
theorem wb_role (G : ag_T) (κ : ck_T) (μ : cm_T) (o : Nat → Int64) (rest : List va_E) {A : aa_T} (hK : rk_R G κ rest A) (hM : rm_R μ A) (hW : wa_W A) {i kc ks : Nat} (hi : i + 5 ≤ G.2.2.2.1.2.1) (hL : G.2.2.2.1.2.1 < 2 ^ 30) {Q : aq_T} (hend : ∀ κ' μ' o' rest', rk_R G κ' rest' (ab_role A).2.2 → rm_R μ' (ab_role A).2.2 → aw_w G mm_lw_law 10 215 kc ks 1535 [(4, .int (nI i)), (3, .ref (G.1 + 32)), (2, .ref (G.1 + 13)), (1, .ref (G.1 + 0)), (0, .ref G.2.2.2.1.1)] [] (hp_f G κ' μ' o' rest') Q) : aw_w G mm_lw_law 10 215 (kc + 2) (ks + 16) 132 [(4, .int (nI i)), (3, .ref (G.1 + 32)), (2, .ref (G.1 + 13)), (1, .ref (G.1 + 0)), (0, .ref G.2.2.2.1.1)] [] (hp_f G κ μ o rest) Q := by
  refine aw_aload_n dd_lw_law_132 rfl 3 rfl ?_
  refine aw_aload_n dd_lw_law_133 rfl 1 rfl ?_
  refine aw_cSe mm_lw_role (kc + 1) (ks + 10) [_, _] _ (wc_lw_role G κ μ o rest hK hW) dd_lw_law_134 cs_lw_91 my_lw_role np_lw_role rfl (Nat.le_of_ble_eq_true rfl) (by omega) (by omega) (Nat.le_of_ble_eq_true rfl) (Nat.le_of_ble_eq_true rfl) (fun w9 h9 hq => ?_)
  obtain ⟨e1, κ', o', rest', rfl, hK', ho⟩ := hq
  subst e1
  refine aw_istore (lv' := [(5, _), (4, _), (3, _), (2, _), (1, _), (0, _)]) dd_lw_law_137 (by decide) rfl ?_
  refine aw_aload_n dd_lw_law_139 rfl 3 rfl ?_
  refine aw_cVe mm_mo_role (kc + 1) (ks + 10) _ 5 [] _ (wc_mo_role G κ' μ o' rest' hM hW) dd_lw_law_140 cv_lw_96 my_mo_role np_mo_role rfl rfl rfl (Nat.le_of_ble_eq_true rfl) (by omega) (by omega) (Nat.le_of_ble_eq_true rfl) (Nat.le_of_ble_eq_true rfl) (fun w9 h9 hq => ?_)
  obtain ⟨e2, μ', rfl, hM', hfl⟩ := hq
  refine aw_istore (lv' := [(6, _), (5, _), (4, _), (3, _), (2, _), (1, _), (0, _)]) dd_lw_law_143 (by decide) rfl ?_
  refine aw_aload_n dd_lw_law_145 rfl 4 rfl ?_
  refine aw_cVi mm_mo_thrown (kc + 1) (ks + 10) _ 5 [] _ (wc_mo_thrown G κ' μ' o' rest') dd_lw_law_146 cv_lw_97 my_mo_thrown np_mo_thrown rfl rfl rfl (Nat.le_of_ble_eq_true rfl) (by omega) (by omega) (Nat.le_of_ble_eq_true rfl) (Nat.le_of_ble_eq_true rfl) ?_
  refine aw_top hfl ?_
  refine aw_iload dd_lw_law_149 1 rfl ?_
  refine aw_icmp_eq (tgt := 156) dd_lw_law_151 (by decide) (fun _ => ?_) (fun h9 => absurd (rfl) h9)
  refine aw_iload dd_lw_law_156 1 rfl ?_
  refine aw_if_ne (tgt := 173) dd_lw_law_158 (by decide) (fun hz => ?_) (fun hz => ?_)
  · skip
    refine aw_goto (tgt := 1535) dd_lw_law_173 (by decide) ?_
    exact aw_lv [2, 3, 4, 5, 6] rfl (aw_le (hend κ' μ' o' rest' hK' hM') (Nat.le_refl _) (Nat.le_refl _) (by omega) (by omega))
  · skip
    refine aw_aload_n dd_lw_law_161 rfl 3 rfl ?_
    refine aw_iconst (v := (nI 0)) dd_lw_law_162 (by decide) ?_
    refine aw_lald 32 dd_lw_law_163 rfl (vp_in_nI (by decide) (by decide)) ?_
    rw [nI_clamp (show 0 < 2 ^ 31 by decide)]
    refine aw_iload dd_lw_law_164 0 rfl ?_
    refine aw_i2l dd_lw_law_166 rfl ?_
    refine aw_lcmp dd_lw_law_167 ?_
    refine aw_if_eq (tgt := 173) dd_lw_law_168 (by decide) (fun _ => ?_) (fun h9 => absurd ((lg_cmp_eq _ _).mpr (by rw [ho hz, e2 hz]; rfl)) h9)
    refine aw_goto (tgt := 1535) dd_lw_law_173 (by decide) ?_
    exact aw_lv [2, 3, 4, 5, 6] rfl (aw_le (hend κ' μ' o' rest' hK' hM') (Nat.le_refl _) (Nat.le_refl _) (by omega) (by omega))
theorem wb_user (G : ag_T) (κ : ck_T) (μ : cm_T) (o : Nat → Int64) (rest : List va_E) {A : aa_T} (hK : rk_R G κ rest A) (hM : rm_R μ A) (hW : wa_W A) {i kc ks : Nat} (hi : i + 5 ≤ G.2.2.2.1.2.1) (hL : G.2.2.2.1.2.1 < 2 ^ 30) {Q : aq_T} (hend : ∀ κ' μ' o' rest', rk_R G κ' rest' (ab_user A).2.2 → rm_R μ' (ab_user A).2.2 → aw_w G mm_lw_law 10 215 kc ks 1535 [(4, .int (nI i)), (3, .ref (G.1 + 32)), (2, .ref (G.1 + 13)), (1, .ref (G.1 + 0)), (0, .ref G.2.2.2.1.1)] [] (hp_f G κ' μ' o' rest') Q) : aw_w G mm_lw_law 10 215 (kc + 2) (ks + 16) 176 [(4, .int (nI i)), (3, .ref (G.1 + 32)), (2, .ref (G.1 + 13)), (1, .ref (G.1 + 0)), (0, .ref G.2.2.2.1.1)] [] (hp_f G κ μ o rest) Q := by
  refine aw_aload_n dd_lw_law_176 rfl 3 rfl ?_
  refine aw_aload_n dd_lw_law_177 rfl 1 rfl ?_
  refine aw_cSe mm_lw_user (kc + 1) (ks + 10) [_, _] _ (wc_lw_user G κ μ o rest hK) dd_lw_law_178 cs_lw_100 my_lw_user np_lw_user rfl (Nat.le_of_ble_eq_true rfl) (by omega) (by omega) (Nat.le_of_ble_eq_true rfl) (Nat.le_of_ble_eq_true rfl) (fun w9 h9 hq => ?_)
  obtain ⟨e1, κ', o', rest', rfl, hK', ho⟩ := hq
  subst e1
  refine aw_istore (lv' := [(5, _), (4, _), (3, _), (2, _), (1, _), (0, _)]) dd_lw_law_181 (by decide) rfl ?_
  refine aw_aload_n dd_lw_law_183 rfl 3 rfl ?_
  refine aw_cVe mm_mo_user (kc + 1) (ks + 10) _ 5 [] _ (wc_mo_user G κ' μ o' rest' hM hW) dd_lw_law_184 cv_lw_102 my_mo_user np_mo_user rfl rfl rfl (Nat.le_of_ble_eq_true rfl) (by omega) (by omega) (Nat.le_of_ble_eq_true rfl) (Nat.le_of_ble_eq_true rfl) (fun w9 h9 hq => ?_)
  obtain ⟨e2, μ', rfl, hM', hfl⟩ := hq
  refine aw_istore (lv' := [(6, _), (5, _), (4, _), (3, _), (2, _), (1, _), (0, _)]) dd_lw_law_187 (by decide) rfl ?_
  refine aw_aload_n dd_lw_law_189 rfl 4 rfl ?_
  refine aw_cVi mm_mo_thrown (kc + 1) (ks + 10) _ 5 [] _ (wc_mo_thrown G κ' μ' o' rest') dd_lw_law_190 cv_lw_97 my_mo_thrown np_mo_thrown rfl rfl rfl (Nat.le_of_ble_eq_true rfl) (by omega) (by omega) (Nat.le_of_ble_eq_true rfl) (Nat.le_of_ble_eq_true rfl) ?_
  refine aw_top hfl ?_
  refine aw_iload dd_lw_law_193 1 rfl ?_
  refine aw_icmp_eq (tgt := 200) dd_lw_law_195 (by decide) (fun _ => ?_) (fun h9 => absurd (rfl) h9)
  refine aw_iload dd_lw_law_200 1 rfl ?_
  refine aw_if_ne (tgt := 217) dd_lw_law_202 (by decide) (fun hz => ?_) (fun hz => ?_)
  · skip
    refine aw_goto (tgt := 1535) dd_lw_law_217 (by decide) ?_
    exact aw_lv [2, 3, 4, 5, 6] rfl (aw_le (hend κ' μ' o' rest' hK' hM') (Nat.le_refl _) (Nat.le_refl _) (by omega) (by omega))
  · skip
    refine aw_aload_n dd_lw_law_205 rfl 3 rfl ?_
    refine aw_iconst (v := (nI 0)) dd_lw_law_206 (by decide) ?_
    refine aw_lald 32 dd_lw_law_207 rfl (vp_in_nI (by decide) (by decide)) ?_
    rw [nI_clamp (show 0 < 2 ^ 31 by decide)]
    refine aw_iload dd_lw_law_208 0 rfl ?_
    refine aw_i2l dd_lw_law_210 rfl ?_
    refine aw_lcmp dd_lw_law_211 ?_
    refine aw_if_eq (tgt := 217) dd_lw_law_212 (by decide) (fun _ => ?_) (fun h9 => absurd ((lg_cmp_eq _ _).mpr (by rw [ho hz, e2 hz]; rfl)) h9)
    refine aw_goto (tgt := 1535) dd_lw_law_217 (by decide) ?_
    exact aw_lv [2, 3, 4, 5, 6] rfl (aw_le (hend κ' μ' o' rest' hK' hM') (Nat.le_refl _) (Nat.le_refl _) (by omega) (by omega))
theorem wb_above (G : ag_T) (κ : ck_T) (μ : cm_T) (o : Nat → Int64) (rest : List va_E) {A : aa_T} (hK : rk_R G κ rest A) (hM : rm_R μ A) (hW : wa_W A) {i kc ks : Nat} (hi : i + 5 ≤ G.2.2.2.1.2.1) (hL : G.2.2.2.1.2.1 < 2 ^ 30) {Q : aq_T} (hend : ∀ κ' μ' o' rest', rk_R G κ' rest' (ab_above A (G.2.2.2.1.2.2 (i + 1)) (G.2.2.2.1.2.2 (i + 2))).2.2 → rm_R μ' (ab_above A (G.2.2.2.1.2.2 (i + 1)) (G.2.2.2.1.2.2 (i + 2))).2.2 → aw_w G mm_lw_law 10 215 kc ks 1535 [(4, .int (nI i)), (3, .ref (G.1 + 32)), (2, .ref (G.1 + 13)), (1, .ref (G.1 + 0)), (0, .ref G.2.2.2.1.1)] [] (hp_f G κ' μ' o' rest') Q) : aw_w G mm_lw_law 10 215 (kc + 2) (ks + 16) 220 [(4, .int (nI i)), (3, .ref (G.1 + 32)), (2, .ref (G.1 + 13)), (1, .ref (G.1 + 0)), (0, .ref G.2.2.2.1.1)] [] (hp_f G κ μ o rest) Q := by
  refine aw_aload_n dd_lw_law_220 rfl 3 rfl ?_
  refine aw_aload_n dd_lw_law_221 rfl 4 rfl ?_
  refine aw_iload dd_lw_law_222 0 rfl ?_
  refine aw_iconst (v := (nI 1)) dd_lw_law_224 (by decide) ?_
  refine aw_iadd dd_lw_law_225 ?_
  refine aw_top (nI_add _ _) ?_
  refine aw_sld (j := i + 1) dd_lw_law_226 (by omega) (by omega) ?_
  refine aw_aload_n dd_lw_law_227 rfl 4 rfl ?_
  refine aw_iload dd_lw_law_228 0 rfl ?_
  refine aw_iconst (v := (nI 2)) dd_lw_law_230 (by decide) ?_
  refine aw_iadd dd_lw_law_231 ?_
  refine aw_top (nI_add _ _) ?_
  refine aw_sld (j := i + 2) dd_lw_law_232 (by omega) (by omega) ?_
  refine aw_aload_n dd_lw_law_233 rfl 1 rfl ?_
  refine aw_cSe mm_lw_above (kc + 1) (ks + 10) [_, _, _, _] _ (wc_lw_above G κ μ o rest hK hW (G.2.2.2.1.2.2 (i + 1)) (G.2.2.2.1.2.2 (i + 2))) dd_lw_law_234 cs_lw_103 my_lw_above np_lw_above rfl (Nat.le_of_ble_eq_true rfl) (by omega) (by omega) (Nat.le_of_ble_eq_true rfl) (Nat.le_of_ble_eq_true rfl) (fun w9 h9 hq => ?_)
  obtain ⟨e1, κ', o', rest', rfl, hK', ho⟩ := hq
  subst e1
  refine aw_istore (lv' := [(5, _), (4, _), (3, _), (2, _), (1, _), (0, _)]) dd_lw_law_237 (by decide) rfl ?_
  refine aw_aload_n dd_lw_law_239 rfl 3 rfl ?_
  refine aw_aload_n dd_lw_law_240 rfl 5 rfl ?_
  refine aw_iload dd_lw_law_241 1 rfl ?_
  refine aw_iconst (v := (nI 1)) dd_lw_law_243 (by decide) ?_
  refine aw_iadd dd_lw_law_244 ?_
  refine aw_top (nI_add _ _) ?_
  refine aw_sld (j := i + 1) dd_lw_law_245 (by omega) (by omega) ?_
  refine aw_aload_n dd_lw_law_246 rfl 5 rfl ?_
  refine aw_iload dd_lw_law_247 1 rfl ?_
  refine aw_iconst (v := (nI 2)) dd_lw_law_249 (by decide) ?_
  refine aw_iadd dd_lw_law_250 ?_
  refine aw_top (nI_add _ _) ?_
  refine aw_sld (j := i + 2) dd_lw_law_251 (by omega) (by omega) ?_
  refine aw_cVe mm_mo_above (kc + 1) (ks + 10) _ 5 [_, _] _ (wc_mo_above G κ' μ o' rest' hM (G.2.2.2.1.2.2 (i + 1)) (G.2.2.2.1.2.2 (i + 2))) dd_lw_law_252 cv_lw_106 my_mo_above np_mo_above rfl rfl rfl (Nat.le_of_ble_eq_true rfl) (by omega) (by omega) (Nat.le_of_ble_eq_true rfl) (Nat.le_of_ble_eq_true rfl) (fun w9 h9 hq => ?_)
  obtain ⟨e2, μ', rfl, hM', hfl⟩ := hq
  refine aw_istore (lv' := [(6, _), (5, _), (4, _), (3, _), (2, _), (1, _), (0, _)]) dd_lw_law_255 (by decide) rfl ?_
  refine aw_aload_n dd_lw_law_257 rfl 4 rfl ?_
  refine aw_cVi mm_mo_thrown (kc + 1) (ks + 10) _ 5 [] _ (wc_mo_thrown G κ' μ' o' rest') dd_lw_law_258 cv_lw_97 my_mo_thrown np_mo_thrown rfl rfl rfl (Nat.le_of_ble_eq_true rfl) (by omega) (by omega) (Nat.le_of_ble_eq_true rfl) (Nat.le_of_ble_eq_true rfl) ?_
  refine aw_top hfl ?_
  refine aw_iload dd_lw_law_261 1 rfl ?_
  refine aw_icmp_eq (tgt := 268) dd_lw_law_263 (by decide) (fun _ => ?_) (fun h9 => absurd (rfl) h9)
  refine aw_iload dd_lw_law_268 1 rfl ?_
  refine aw_if_ne (tgt := 292) dd_lw_law_270 (by decide) (fun hz => ?_) (fun hz => ?_)
  · skip
    refine aw_goto (tgt := 1535) dd_lw_law_292 (by decide) ?_
    exact aw_lv [2, 3, 4, 5, 6] rfl (aw_le (hend κ' μ' o' rest' hK' hM') (Nat.le_refl _) (Nat.le_refl _) (by omega) (by omega))
  · skip
    refine aw_aload_n dd_lw_law_273 rfl 3 rfl ?_
    refine aw_iconst (v := (nI 0)) dd_lw_law_274 (by decide) ?_
    refine aw_lald 32 dd_lw_law_275 rfl (vp_in_nI (by decide) (by decide)) ?_
    rw [nI_clamp (show 0 < 2 ^ 31 by decide)]
    refine aw_iload dd_lw_law_276 0 rfl ?_
    refine aw_if_eq (tgt := 285) dd_lw_law_278 (by decide) (fun hbb => ?_) (fun hbb => ?_)
    · refine aw_lconst (v := 0) dd_lw_law_285 (by decide) ?_
      refine aw_lcmp dd_lw_law_286 ?_
      refine aw_if_eq (tgt := 292) dd_lw_law_287 (by decide) (fun _ => ?_) (fun h9 => absurd ((lg_cmp_eq _ _).mpr (by rw [ho hz, ← e2 hz]; first | exact if_pos hbb | exact if_neg hbb)) h9)
      refine aw_goto (tgt := 1535) dd_lw_law_292 (by decide) ?_
      exact aw_lv [2, 3, 4, 5, 6] rfl (aw_le (hend κ' μ' o' rest' hK' hM') (Nat.le_refl _) (Nat.le_refl _) (by omega) (by omega))
    · refine aw_lconst (v := 1) dd_lw_law_281 (by decide) ?_
      refine aw_goto (tgt := 286) dd_lw_law_282 (by decide) ?_
      refine aw_lcmp dd_lw_law_286 ?_
      refine aw_if_eq (tgt := 292) dd_lw_law_287 (by decide) (fun _ => ?_) (fun h9 => absurd ((lg_cmp_eq _ _).mpr (by rw [ho hz, ← e2 hz]; first | exact if_pos hbb | exact if_neg hbb)) h9)
      refine aw_goto (tgt := 1535) dd_lw_law_292 (by decide) ?_
      exact aw_lv [2, 3, 4, 5, 6] rfl (aw_le (hend κ' μ' o' rest' hK' hM') (Nat.le_refl _) (Nat.le_refl _) (by omega) (by omega))
theorem wb_grant (G : ag_T) (κ : ck_T) (μ : cm_T) (o : Nat → Int64) (rest : List va_E) {A : aa_T} (hK : rk_R G κ rest A) (hM : rm_R μ A) (hW : wa_W A) {i kc ks : Nat} (hi : i + 5 ≤ G.2.2.2.1.2.1) (hL : G.2.2.2.1.2.1 < 2 ^ 30) {Q : aq_T} (hend : ∀ κ' μ' o' rest', rk_R G κ' rest' (ab_grant A (G.2.2.2.1.2.2 (i + 1)) (G.2.2.2.1.2.2 (i + 2))).2.2 → rm_R μ' (ab_grant A (G.2.2.2.1.2.2 (i + 1)) (G.2.2.2.1.2.2 (i + 2))).2.2 → aw_w G mm_lw_law 10 215 kc ks 1535 [(4, .int (nI i)), (3, .ref (G.1 + 32)), (2, .ref (G.1 + 13)), (1, .ref (G.1 + 0)), (0, .ref G.2.2.2.1.1)] [] (hp_f G κ' μ' o' rest') Q) : aw_w G mm_lw_law 10 215 (kc + 2) (ks + 16) 295 [(4, .int (nI i)), (3, .ref (G.1 + 32)), (2, .ref (G.1 + 13)), (1, .ref (G.1 + 0)), (0, .ref G.2.2.2.1.1)] [] (hp_f G κ μ o rest) Q := by
  refine aw_aload_n dd_lw_law_295 rfl 3 rfl ?_
  refine aw_aload_n dd_lw_law_296 rfl 4 rfl ?_
  refine aw_iload dd_lw_law_297 0 rfl ?_
  refine aw_iconst (v := (nI 1)) dd_lw_law_299 (by decide) ?_
  refine aw_iadd dd_lw_law_300 ?_
  refine aw_top (nI_add _ _) ?_
  refine aw_sld (j := i + 1) dd_lw_law_301 (by omega) (by omega) ?_
  refine aw_aload_n dd_lw_law_302 rfl 4 rfl ?_
  refine aw_iload dd_lw_law_303 0 rfl ?_
  refine aw_iconst (v := (nI 2)) dd_lw_law_305 (by decide) ?_
  refine aw_iadd dd_lw_law_306 ?_
  refine aw_top (nI_add _ _) ?_
  refine aw_sld (j := i + 2) dd_lw_law_307 (by omega) (by omega) ?_
  refine aw_aload_n dd_lw_law_308 rfl 1 rfl ?_
  refine aw_cSe mm_lw_grant (kc + 1) (ks + 10) [_, _, _, _] _ (wc_lw_grant G κ μ o rest hK (G.2.2.2.1.2.2 (i + 1)) (G.2.2.2.1.2.2 (i + 2))) dd_lw_law_309 cs_lw_107 my_lw_grant np_lw_grant rfl (Nat.le_of_ble_eq_true rfl) (by omega) (by omega) (Nat.le_of_ble_eq_true rfl) (Nat.le_of_ble_eq_true rfl) (fun w9 h9 hq => ?_)
  obtain ⟨e1, κ', o', rest', rfl, hK', ho⟩ := hq
  subst e1
  refine aw_istore (lv' := [(5, _), (4, _), (3, _), (2, _), (1, _), (0, _)]) dd_lw_law_312 (by decide) rfl ?_
  refine aw_aload_n dd_lw_law_314 rfl 3 rfl ?_
  refine aw_aload_n dd_lw_law_315 rfl 5 rfl ?_
  refine aw_iload dd_lw_law_316 1 rfl ?_
  refine aw_iconst (v := (nI 1)) dd_lw_law_318 (by decide) ?_
  refine aw_iadd dd_lw_law_319 ?_
  refine aw_top (nI_add _ _) ?_
  refine aw_sld (j := i + 1) dd_lw_law_320 (by omega) (by omega) ?_
  refine aw_aload_n dd_lw_law_321 rfl 5 rfl ?_
  refine aw_iload dd_lw_law_322 1 rfl ?_
  refine aw_iconst (v := (nI 2)) dd_lw_law_324 (by decide) ?_
  refine aw_iadd dd_lw_law_325 ?_
  refine aw_top (nI_add _ _) ?_
  refine aw_sld (j := i + 2) dd_lw_law_326 (by omega) (by omega) ?_
  refine aw_cVe mm_mo_grant (kc + 1) (ks + 10) _ 5 [_, _] _ (wc_mo_grant G κ' μ o' rest' hM (G.2.2.2.1.2.2 (i + 1)) (G.2.2.2.1.2.2 (i + 2))) dd_lw_law_327 cv_lw_109 my_mo_grant np_mo_grant rfl rfl rfl (Nat.le_of_ble_eq_true rfl) (by omega) (by omega) (Nat.le_of_ble_eq_true rfl) (Nat.le_of_ble_eq_true rfl) (fun w9 h9 hq => ?_)
  obtain ⟨e2, μ', rfl, hM', hfl⟩ := hq
  refine aw_istore (lv' := [(6, _), (5, _), (4, _), (3, _), (2, _), (1, _), (0, _)]) dd_lw_law_330 (by decide) rfl ?_
  refine aw_aload_n dd_lw_law_332 rfl 4 rfl ?_
  refine aw_cVi mm_mo_thrown (kc + 1) (ks + 10) _ 5 [] _ (wc_mo_thrown G κ' μ' o' rest') dd_lw_law_333 cv_lw_97 my_mo_thrown np_mo_thrown rfl rfl rfl (Nat.le_of_ble_eq_true rfl) (by omega) (by omega) (Nat.le_of_ble_eq_true rfl) (Nat.le_of_ble_eq_true rfl) ?_
  refine aw_top hfl ?_
  refine aw_iload dd_lw_law_336 1 rfl ?_
  refine aw_icmp_eq (tgt := 343) dd_lw_law_338 (by decide) (fun _ => ?_) (fun h9 => absurd (rfl) h9)
  refine aw_iload dd_lw_law_343 1 rfl ?_
  refine aw_if_ne (tgt := 367) dd_lw_law_345 (by decide) (fun hz => ?_) (fun hz => ?_)
  · skip
    refine aw_goto (tgt := 1535) dd_lw_law_367 (by decide) ?_
    exact aw_lv [2, 3, 4, 5, 6] rfl (aw_le (hend κ' μ' o' rest' hK' hM') (Nat.le_refl _) (Nat.le_refl _) (by omega) (by omega))
  · skip
    refine aw_aload_n dd_lw_law_348 rfl 3 rfl ?_
    refine aw_iconst (v := (nI 0)) dd_lw_law_349 (by decide) ?_
    refine aw_lald 32 dd_lw_law_350 rfl (vp_in_nI (by decide) (by decide)) ?_
    rw [nI_clamp (show 0 < 2 ^ 31 by decide)]
    refine aw_iload dd_lw_law_351 0 rfl ?_
    refine aw_if_eq (tgt := 360) dd_lw_law_353 (by decide) (fun hbb => ?_) (fun hbb => ?_)
    · refine aw_lconst (v := 0) dd_lw_law_360 (by decide) ?_
      refine aw_lcmp dd_lw_law_361 ?_
      refine aw_if_eq (tgt := 367) dd_lw_law_362 (by decide) (fun _ => ?_) (fun h9 => absurd ((lg_cmp_eq _ _).mpr (by rw [ho hz, ← e2 hz]; first | exact if_pos hbb | exact if_neg hbb)) h9)
      refine aw_goto (tgt := 1535) dd_lw_law_367 (by decide) ?_
      exact aw_lv [2, 3, 4, 5, 6] rfl (aw_le (hend κ' μ' o' rest' hK' hM') (Nat.le_refl _) (Nat.le_refl _) (by omega) (by omega))
    · refine aw_lconst (v := 1) dd_lw_law_356 (by decide) ?_
      refine aw_goto (tgt := 361) dd_lw_law_357 (by decide) ?_
      refine aw_lcmp dd_lw_law_361 ?_
      refine aw_if_eq (tgt := 367) dd_lw_law_362 (by decide) (fun _ => ?_) (fun h9 => absurd ((lg_cmp_eq _ _).mpr (by rw [ho hz, ← e2 hz]; first | exact if_pos hbb | exact if_neg hbb)) h9)
      refine aw_goto (tgt := 1535) dd_lw_law_367 (by decide) ?_
      exact aw_lv [2, 3, 4, 5, 6] rfl (aw_le (hend κ' μ' o' rest' hK' hM') (Nat.le_refl _) (Nat.le_refl _) (by omega) (by omega))
theorem wb_limit (G : ag_T) (κ : ck_T) (μ : cm_T) (o : Nat → Int64) (rest : List va_E) {A : aa_T} (hK : rk_R G κ rest A) (hM : rm_R μ A) (hW : wa_W A) {i kc ks : Nat} (hi : i + 5 ≤ G.2.2.2.1.2.1) (hL : G.2.2.2.1.2.1 < 2 ^ 30) {Q : aq_T} (hend : ∀ κ' μ' o' rest', rk_R G κ' rest' (ab_limit A (decide (¬ G.2.2.2.1.2.2 (i + 1) = 0)) (G.2.2.2.1.2.2 (i + 2)) (G.2.2.2.1.2.2 (i + 3))).2.2 → rm_R μ' (ab_limit A (decide (¬ G.2.2.2.1.2.2 (i + 1) = 0)) (G.2.2.2.1.2.2 (i + 2)) (G.2.2.2.1.2.2 (i + 3))).2.2 → aw_w G mm_lw_law 10 215 kc ks 1535 [(4, .int (nI i)), (3, .ref (G.1 + 32)), (2, .ref (G.1 + 13)), (1, .ref (G.1 + 0)), (0, .ref G.2.2.2.1.1)] [] (hp_f G κ' μ' o' rest') Q) : aw_w G mm_lw_law 10 215 (kc + 2) (ks + 16) 370 [(4, .int (nI i)), (3, .ref (G.1 + 32)), (2, .ref (G.1 + 13)), (1, .ref (G.1 + 0)), (0, .ref G.2.2.2.1.1)] [] (hp_f G κ μ o rest) Q := by
  refine aw_aload_n dd_lw_law_370 rfl 3 rfl ?_
  refine aw_join (tgt := 385) (v := zb_i (decide (¬ G.2.2.2.1.2.2 (i + 1) = 0))) ?_ (fun kj371 => ?_)
  · refine aw_aload_n dd_lw_law_385 rfl 4 rfl ?_
    refine aw_iload dd_lw_law_386 0 rfl ?_
    refine aw_iconst (v := (nI 2)) dd_lw_law_388 (by decide) ?_
    refine aw_iadd dd_lw_law_389 ?_
    refine aw_top (nI_add _ _) ?_
    refine aw_sld (j := i + 2) dd_lw_law_390 (by omega) (by omega) ?_
    refine aw_aload_n dd_lw_law_391 rfl 4 rfl ?_
    refine aw_iload dd_lw_law_392 0 rfl ?_
    refine aw_iconst (v := (nI 3)) dd_lw_law_394 (by decide) ?_
    refine aw_iadd dd_lw_law_395 ?_
    refine aw_top (nI_add _ _) ?_
    refine aw_sld (j := i + 3) dd_lw_law_396 (by omega) (by omega) ?_
    refine aw_cSe mm_lw_limit (kc + 0) (ks + 0) [_, _, _, _] _ (wc_lw_limit G κ μ o rest hK hW (decide (¬ G.2.2.2.1.2.2 (i + 1) = 0)) (G.2.2.2.1.2.2 (i + 2)) (G.2.2.2.1.2.2 (i + 3))) dd_lw_law_397 cs_lw_110 my_lw_limit np_lw_limit rfl (Nat.le_of_ble_eq_true rfl) (by omega) (by omega) (Nat.le_of_ble_eq_true rfl) (Nat.le_of_ble_eq_true rfl) (fun w9 h9 hq => ?_)
    obtain ⟨e1, κ', o', rest', rfl, hK'⟩ := hq
    subst e1
    refine aw_istore (lv' := [(5, _), (4, _), (3, _), (2, _), (1, _), (0, _)]) dd_lw_law_400 (by decide) rfl ?_
    refine aw_aload_n dd_lw_law_402 rfl 3 rfl ?_
    refine aw_join (tgt := 417) (v := zb_i (decide (¬ G.2.2.2.1.2.2 (i + 1) = 0))) ?_ (fun kj403 => ?_)
    · refine aw_aload_n dd_lw_law_417 rfl 5 rfl ?_
      refine aw_iload dd_lw_law_418 1 rfl ?_
      refine aw_iconst (v := (nI 2)) dd_lw_law_420 (by decide) ?_
      refine aw_iadd dd_lw_law_421 ?_
      refine aw_top (nI_add _ _) ?_
      refine aw_sld (j := i + 2) dd_lw_law_422 (by omega) (by omega) ?_
      refine aw_aload_n dd_lw_law_423 rfl 5 rfl ?_
      refine aw_iload dd_lw_law_424 1 rfl ?_
      refine aw_iconst (v := (nI 3)) dd_lw_law_426 (by decide) ?_
      refine aw_iadd dd_lw_law_427 ?_
      refine aw_top (nI_add _ _) ?_
      refine aw_sld (j := i + 3) dd_lw_law_428 (by omega) (by omega) ?_
      refine aw_cVf mm_mo_limit (kc + 0) (ks + 0) _ 5 [_, _, _] _ (wc_mo_limit G κ' μ o' rest' hM (decide (¬ G.2.2.2.1.2.2 (i + 1) = 0)) (G.2.2.2.1.2.2 (i + 2)) (G.2.2.2.1.2.2 (i + 3))) dd_lw_law_429 cv_lw_113 my_mo_limit np_mo_limit rfl rfl rfl (Nat.le_of_ble_eq_true rfl) (by omega) (by omega) (Nat.le_of_ble_eq_true rfl) (Nat.le_of_ble_eq_true rfl) (fun h9 hq => ?_)
      obtain ⟨μ', rfl, hM', hfl⟩ := hq
      refine aw_aload_n dd_lw_law_432 rfl 3 rfl ?_
      refine aw_cVi mm_mo_thrown (kc + 0) (ks + 0) _ 5 [] _ (wc_mo_thrown G κ' μ' o' rest') dd_lw_law_433 cv_lw_97 my_mo_thrown np_mo_thrown rfl rfl rfl (Nat.le_of_ble_eq_true rfl) (by omega) (by omega) (Nat.le_of_ble_eq_true rfl) (Nat.le_of_ble_eq_true rfl) ?_
      refine aw_top hfl ?_
      refine aw_iload dd_lw_law_436 0 rfl ?_
      refine aw_icmp_eq (tgt := 443) dd_lw_law_438 (by decide) (fun _ => ?_) (fun h9 => absurd (rfl) h9)
      refine aw_goto (tgt := 1535) dd_lw_law_443 (by decide) ?_
      exact aw_lv [1, 2, 3, 4, 5] rfl (aw_le (hend κ' μ' o' rest' hK' hM') (Nat.le_refl _) (Nat.le_refl _) (by omega) (by omega))
    · refine aw_aload_n dd_lw_law_403 rfl 5 rfl ?_
      refine aw_iload dd_lw_law_404 1 rfl ?_
      refine aw_iconst (v := (nI 1)) dd_lw_law_406 (by decide) ?_
      refine aw_iadd dd_lw_law_407 ?_
      refine aw_top (nI_add _ _) ?_
      refine aw_sld (j := i + 1) dd_lw_law_408 (by omega) (by omega) ?_
      refine aw_if_eq (tgt := 416) dd_lw_law_409 (by decide) (fun hbz => ?_) (fun hbz => ?_)
      · refine aw_iconst (v := 0) dd_lw_law_416 (by decide) ?_
        exact aw_top (by simp [zb_i, hbz]) kj403
      · refine aw_iconst (v := 1) dd_lw_law_412 (by decide) ?_
        refine aw_goto (tgt := 417) dd_lw_law_413 (by decide) ?_
        exact aw_top (by simp [zb_i, hbz]) kj403
  · refine aw_aload_n dd_lw_law_371 rfl 4 rfl ?_
    refine aw_iload dd_lw_law_372 0 rfl ?_
    refine aw_iconst (v := (nI 1)) dd_lw_law_374 (by decide) ?_
    refine aw_iadd dd_lw_law_375 ?_
    refine aw_top (nI_add _ _) ?_
    refine aw_sld (j := i + 1) dd_lw_law_376 (by omega) (by omega) ?_
    refine aw_if_eq (tgt := 384) dd_lw_law_377 (by decide) (fun hbz => ?_) (fun hbz => ?_)
    · refine aw_iconst (v := 0) dd_lw_law_384 (by decide) ?_
      exact aw_top (by simp [zb_i, hbz]) kj371
    · refine aw_iconst (v := 1) dd_lw_law_380 (by decide) ?_
      refine aw_goto (tgt := 385) dd_lw_law_381 (by decide) ?_
      exact aw_top (by simp [zb_i, hbz]) kj371
theorem wb_giveRule (G : ag_T) (κ : ck_T) (μ : cm_T) (o : Nat → Int64) (rest : List va_E) {A : aa_T} (hK : rk_R G κ rest A) (hM : rm_R μ A) (hW : wa_W A) {i kc ks : Nat} (hi : i + 5 ≤ G.2.2.2.1.2.1) (hL : G.2.2.2.1.2.1 < 2 ^ 30) {Q : aq_T} (hend : ∀ κ' μ' o' rest', rk_R G κ' rest' (ab_giveRule A (G.2.2.2.1.2.2 (i + 1)) (G.2.2.2.1.2.2 (i + 2)) (G.2.2.2.1.2.2 (i + 3)) (G.2.2.2.1.2.2 (i + 4))).2.2 → rm_R μ' (ab_giveRule A (G.2.2.2.1.2.2 (i + 1)) (G.2.2.2.1.2.2 (i + 2)) (G.2.2.2.1.2.2 (i + 3)) (G.2.2.2.1.2.2 (i + 4))).2.2 → aw_w G mm_lw_law 10 215 kc ks 1535 [(4, .int (nI i)), (3, .ref (G.1 + 32)), (2, .ref (G.1 + 13)), (1, .ref (G.1 + 0)), (0, .ref G.2.2.2.1.1)] [] (hp_f G κ' μ' o' rest') Q) : aw_w G mm_lw_law 10 215 (kc + 2) (ks + 16) 446 [(4, .int (nI i)), (3, .ref (G.1 + 32)), (2, .ref (G.1 + 13)), (1, .ref (G.1 + 0)), (0, .ref G.2.2.2.1.1)] [] (hp_f G κ μ o rest) Q := by
  refine aw_aload_n dd_lw_law_446 rfl 3 rfl ?_
  refine aw_aload_n dd_lw_law_447 rfl 4 rfl ?_
  refine aw_iload dd_lw_law_448 0 rfl ?_
  refine aw_iconst (v := (nI 1)) dd_lw_law_450 (by decide) ?_
  refine aw_iadd dd_lw_law_451 ?_
  refine aw_top (nI_add _ _) ?_
  refine aw_sld (j := i + 1) dd_lw_law_452 (by omega) (by omega) ?_
  refine aw_aload_n dd_lw_law_453 rfl 4 rfl ?_
  refine aw_iload dd_lw_law_454 0 rfl ?_
  refine aw_iconst (v := (nI 2)) dd_lw_law_456 (by decide) ?_
  refine aw_iadd dd_lw_law_457 ?_
  refine aw_top (nI_add _ _) ?_
  refine aw_sld (j := i + 2) dd_lw_law_458 (by omega) (by omega) ?_
  refine aw_aload_n dd_lw_law_459 rfl 4 rfl ?_
  refine aw_iload dd_lw_law_460 0 rfl ?_
  refine aw_iconst (v := (nI 3)) dd_lw_law_462 (by decide) ?_
  refine aw_iadd dd_lw_law_463 ?_
  refine aw_top (nI_add _ _) ?_
  refine aw_sld (j := i + 3) dd_lw_law_464 (by omega) (by omega) ?_
  refine aw_aload_n dd_lw_law_465 rfl 4 rfl ?_
  refine aw_iload dd_lw_law_466 0 rfl ?_
  refine aw_iconst (v := (nI 4)) dd_lw_law_468 (by decide) ?_
  refine aw_iadd dd_lw_law_469 ?_
  refine aw_top (nI_add _ _) ?_
  refine aw_sld (j := i + 4) dd_lw_law_470 (by omega) (by omega) ?_
  refine aw_aload_n dd_lw_law_471 rfl 1 rfl ?_
  refine aw_cSe mm_lw_giveRule (kc + 0) (ks + 1) [_, _, _, _, _, _] _ (wc_lw_giveRule G κ μ o rest hK (G.2.2.2.1.2.2 (i + 1)) (G.2.2.2.1.2.2 (i + 2)) (G.2.2.2.1.2.2 (i + 3)) (G.2.2.2.1.2.2 (i + 4))) dd_lw_law_472 cs_lw_114 my_lw_giveRule np_lw_giveRule rfl (Nat.le_of_ble_eq_true rfl) (by omega) (by omega) (Nat.le_of_ble_eq_true rfl) (Nat.le_of_ble_eq_true rfl) (fun w9 h9 hq => ?_)
  obtain ⟨e1, κ', o', rest', rfl, hK', ho⟩ := hq
  subst e1
  refine aw_istore (lv' := [(5, _), (4, _), (3, _), (2, _), (1, _), (0, _)]) dd_lw_law_475 (by decide) rfl ?_
  refine aw_aload_n dd_lw_law_477 rfl 3 rfl ?_
  refine aw_aload_n dd_lw_law_478 rfl 5 rfl ?_
  refine aw_iload dd_lw_law_479 1 rfl ?_
  refine aw_iconst (v := (nI 1)) dd_lw_law_481 (by decide) ?_
  refine aw_iadd dd_lw_law_482 ?_
  refine aw_top (nI_add _ _) ?_
  refine aw_sld (j := i + 1) dd_lw_law_483 (by omega) (by omega) ?_
  refine aw_aload_n dd_lw_law_484 rfl 5 rfl ?_
  refine aw_iload dd_lw_law_485 1 rfl ?_
  refine aw_iconst (v := (nI 2)) dd_lw_law_487 (by decide) ?_
  refine aw_iadd dd_lw_law_488 ?_
  refine aw_top (nI_add _ _) ?_
  refine aw_sld (j := i + 2) dd_lw_law_489 (by omega) (by omega) ?_
  refine aw_aload_n dd_lw_law_490 rfl 5 rfl ?_
  refine aw_iload dd_lw_law_491 1 rfl ?_
  refine aw_iconst (v := (nI 3)) dd_lw_law_493 (by decide) ?_
  refine aw_iadd dd_lw_law_494 ?_
  refine aw_top (nI_add _ _) ?_
  refine aw_sld (j := i + 3) dd_lw_law_495 (by omega) (by omega) ?_
  refine aw_aload_n dd_lw_law_496 rfl 5 rfl ?_
  refine aw_iload dd_lw_law_497 1 rfl ?_
  refine aw_iconst (v := (nI 4)) dd_lw_law_499 (by decide) ?_
  refine aw_iadd dd_lw_law_500 ?_
  refine aw_top (nI_add _ _) ?_
  refine aw_sld (j := i + 4) dd_lw_law_501 (by omega) (by omega) ?_
  refine aw_cVe mm_mo_giveRule (kc + 0) (ks + 1) _ 5 [_, _, _, _] _ (wc_mo_giveRule G κ' μ o' rest' hM (G.2.2.2.1.2.2 (i + 1)) (G.2.2.2.1.2.2 (i + 2)) (G.2.2.2.1.2.2 (i + 3)) (G.2.2.2.1.2.2 (i + 4))) dd_lw_law_502 cv_lw_117 my_mo_giveRule np_mo_giveRule rfl rfl rfl (Nat.le_of_ble_eq_true rfl) (by omega) (by omega) (Nat.le_of_ble_eq_true rfl) (Nat.le_of_ble_eq_true rfl) (fun w9 h9 hq => ?_)
  obtain ⟨e2, μ', rfl, hM', hfl⟩ := hq
  refine aw_istore (lv' := [(6, _), (5, _), (4, _), (3, _), (2, _), (1, _), (0, _)]) dd_lw_law_505 (by decide) rfl ?_
  refine aw_aload_n dd_lw_law_507 rfl 4 rfl ?_
  refine aw_cVi mm_mo_thrown (kc + 0) (ks + 1) _ 5 [] _ (wc_mo_thrown G κ' μ' o' rest') dd_lw_law_508 cv_lw_97 my_mo_thrown np_mo_thrown rfl rfl rfl (Nat.le_of_ble_eq_true rfl) (by omega) (by omega) (Nat.le_of_ble_eq_true rfl) (Nat.le_of_ble_eq_true rfl) ?_
  refine aw_top hfl ?_
  refine aw_iload dd_lw_law_511 1 rfl ?_
  refine aw_icmp_eq (tgt := 518) dd_lw_law_513 (by decide) (fun _ => ?_) (fun h9 => absurd (rfl) h9)
  refine aw_iload dd_lw_law_518 1 rfl ?_
  refine aw_if_ne (tgt := 535) dd_lw_law_520 (by decide) (fun hz => ?_) (fun hz => ?_)
  · skip
    refine aw_goto (tgt := 1535) dd_lw_law_535 (by decide) ?_
    exact aw_lv [2, 3, 4, 5, 6] rfl (aw_le (hend κ' μ' o' rest' hK' hM') (Nat.le_refl _) (Nat.le_refl _) (by omega) (by omega))
  · skip
    refine aw_aload_n dd_lw_law_523 rfl 3 rfl ?_
    refine aw_iconst (v := (nI 0)) dd_lw_law_524 (by decide) ?_
    refine aw_lald 32 dd_lw_law_525 rfl (vp_in_nI (by decide) (by decide)) ?_
    rw [nI_clamp (show 0 < 2 ^ 31 by decide)]
    refine aw_iload dd_lw_law_526 0 rfl ?_
    refine aw_i2l dd_lw_law_528 rfl ?_
    refine aw_lcmp dd_lw_law_529 ?_
    refine aw_if_eq (tgt := 535) dd_lw_law_530 (by decide) (fun _ => ?_) (fun h9 => absurd ((lg_cmp_eq _ _).mpr (by rw [ho hz, e2 hz]; rfl)) h9)
    refine aw_goto (tgt := 1535) dd_lw_law_535 (by decide) ?_
    exact aw_lv [2, 3, 4, 5, 6] rfl (aw_le (hend κ' μ' o' rest' hK' hM') (Nat.le_refl _) (Nat.le_refl _) (by omega) (by omega))
theorem wb_takeRule (G : ag_T) (κ : ck_T) (μ : cm_T) (o : Nat → Int64) (rest : List va_E) {A : aa_T} (hK : rk_R G κ rest A) (hM : rm_R μ A) (hW : wa_W A) {i kc ks : Nat} (hi : i + 5 ≤ G.2.2.2.1.2.1) (hL : G.2.2.2.1.2.1 < 2 ^ 30) {Q : aq_T} (hend : ∀ κ' μ' o' rest', rk_R G κ' rest' (ab_takeRule A (G.2.2.2.1.2.2 (i + 1)) (G.2.2.2.1.2.2 (i + 2))).2.2 → rm_R μ' (ab_takeRule A (G.2.2.2.1.2.2 (i + 1)) (G.2.2.2.1.2.2 (i + 2))).2.2 → aw_w G mm_lw_law 10 215 kc ks 1535 [(4, .int (nI i)), (3, .ref (G.1 + 32)), (2, .ref (G.1 + 13)), (1, .ref (G.1 + 0)), (0, .ref G.2.2.2.1.1)] [] (hp_f G κ' μ' o' rest') Q) : aw_w G mm_lw_law 10 215 (kc + 2) (ks + 16) 538 [(4, .int (nI i)), (3, .ref (G.1 + 32)), (2, .ref (G.1 + 13)), (1, .ref (G.1 + 0)), (0, .ref G.2.2.2.1.1)] [] (hp_f G κ μ o rest) Q := by
  refine aw_aload_n dd_lw_law_538 rfl 3 rfl ?_
  refine aw_aload_n dd_lw_law_539 rfl 4 rfl ?_
  refine aw_iload dd_lw_law_540 0 rfl ?_
  refine aw_iconst (v := (nI 1)) dd_lw_law_542 (by decide) ?_
  refine aw_iadd dd_lw_law_543 ?_
  refine aw_top (nI_add _ _) ?_
  refine aw_sld (j := i + 1) dd_lw_law_544 (by omega) (by omega) ?_
  refine aw_aload_n dd_lw_law_545 rfl 4 rfl ?_
  refine aw_iload dd_lw_law_546 0 rfl ?_
  refine aw_iconst (v := (nI 2)) dd_lw_law_548 (by decide) ?_
  refine aw_iadd dd_lw_law_549 ?_
  refine aw_top (nI_add _ _) ?_
  refine aw_sld (j := i + 2) dd_lw_law_550 (by omega) (by omega) ?_
  refine aw_aload_n dd_lw_law_551 rfl 1 rfl ?_
  refine aw_cSe mm_lw_takeRule (kc + 0) (ks + 1) [_, _, _, _] _ (wc_lw_takeRule G κ μ o rest hK (G.2.2.2.1.2.2 (i + 1)) (G.2.2.2.1.2.2 (i + 2))) dd_lw_law_552 cs_lw_118 my_lw_takeRule np_lw_takeRule rfl (Nat.le_of_ble_eq_true rfl) (by omega) (by omega) (Nat.le_of_ble_eq_true rfl) (Nat.le_of_ble_eq_true rfl) (fun w9 h9 hq => ?_)
  obtain ⟨e1, κ', o', rest', rfl, hK', ho⟩ := hq
  subst e1
  refine aw_istore (lv' := [(5, _), (4, _), (3, _), (2, _), (1, _), (0, _)]) dd_lw_law_555 (by decide) rfl ?_
  refine aw_aload_n dd_lw_law_557 rfl 3 rfl ?_
  refine aw_aload_n dd_lw_law_558 rfl 5 rfl ?_
  refine aw_iload dd_lw_law_559 1 rfl ?_
  refine aw_iconst (v := (nI 1)) dd_lw_law_561 (by decide) ?_
  refine aw_iadd dd_lw_law_562 ?_
  refine aw_top (nI_add _ _) ?_
  refine aw_sld (j := i + 1) dd_lw_law_563 (by omega) (by omega) ?_
  refine aw_aload_n dd_lw_law_564 rfl 5 rfl ?_
  refine aw_iload dd_lw_law_565 1 rfl ?_
  refine aw_iconst (v := (nI 2)) dd_lw_law_567 (by decide) ?_
  refine aw_iadd dd_lw_law_568 ?_
  refine aw_top (nI_add _ _) ?_
  refine aw_sld (j := i + 2) dd_lw_law_569 (by omega) (by omega) ?_
  refine aw_cVe mm_mo_takeRule (kc + 0) (ks + 1) _ 5 [_, _] _ (wc_mo_takeRule G κ' μ o' rest' hM (G.2.2.2.1.2.2 (i + 1)) (G.2.2.2.1.2.2 (i + 2))) dd_lw_law_570 cv_lw_120 my_mo_takeRule np_mo_takeRule rfl rfl rfl (Nat.le_of_ble_eq_true rfl) (by omega) (by omega) (Nat.le_of_ble_eq_true rfl) (Nat.le_of_ble_eq_true rfl) (fun w9 h9 hq => ?_)
  obtain ⟨e2, μ', rfl, hM', hfl⟩ := hq
  refine aw_istore (lv' := [(6, _), (5, _), (4, _), (3, _), (2, _), (1, _), (0, _)]) dd_lw_law_573 (by decide) rfl ?_
  refine aw_aload_n dd_lw_law_575 rfl 4 rfl ?_
  refine aw_cVi mm_mo_thrown (kc + 0) (ks + 1) _ 5 [] _ (wc_mo_thrown G κ' μ' o' rest') dd_lw_law_576 cv_lw_97 my_mo_thrown np_mo_thrown rfl rfl rfl (Nat.le_of_ble_eq_true rfl) (by omega) (by omega) (Nat.le_of_ble_eq_true rfl) (Nat.le_of_ble_eq_true rfl) ?_
  refine aw_top hfl ?_
  refine aw_iload dd_lw_law_579 1 rfl ?_
  refine aw_icmp_eq (tgt := 586) dd_lw_law_581 (by decide) (fun _ => ?_) (fun h9 => absurd (rfl) h9)
  refine aw_iload dd_lw_law_586 1 rfl ?_
  refine aw_if_ne (tgt := 603) dd_lw_law_588 (by decide) (fun hz => ?_) (fun hz => ?_)
  · skip
    refine aw_goto (tgt := 1535) dd_lw_law_603 (by decide) ?_
    exact aw_lv [2, 3, 4, 5, 6] rfl (aw_le (hend κ' μ' o' rest' hK' hM') (Nat.le_refl _) (Nat.le_refl _) (by omega) (by omega))
  · skip
    refine aw_aload_n dd_lw_law_591 rfl 3 rfl ?_
    refine aw_iconst (v := (nI 0)) dd_lw_law_592 (by decide) ?_
    refine aw_lald 32 dd_lw_law_593 rfl (vp_in_nI (by decide) (by decide)) ?_
    rw [nI_clamp (show 0 < 2 ^ 31 by decide)]
    refine aw_iload dd_lw_law_594 0 rfl ?_
    refine aw_i2l dd_lw_law_596 rfl ?_
    refine aw_lcmp dd_lw_law_597 ?_
    refine aw_if_eq (tgt := 603) dd_lw_law_598 (by decide) (fun _ => ?_) (fun h9 => absurd ((lg_cmp_eq _ _).mpr (by rw [ho hz, e2 hz]; rfl)) h9)
    refine aw_goto (tgt := 1535) dd_lw_law_603 (by decide) ?_
    exact aw_lv [2, 3, 4, 5, 6] rfl (aw_le (hend κ' μ' o' rest' hK' hM') (Nat.le_refl _) (Nat.le_refl _) (by omega) (by omega))
theorem wb_assign (G : ag_T) (κ : ck_T) (μ : cm_T) (o : Nat → Int64) (rest : List va_E) {A : aa_T} (hK : rk_R G κ rest A) (hM : rm_R μ A) (hW : wa_W A) {i kc ks : Nat} (hi : i + 5 ≤ G.2.2.2.1.2.1) (hL : G.2.2.2.1.2.1 < 2 ^ 30) {Q : aq_T} (hend : ∀ κ' μ' o' rest', rk_R G κ' rest' (ab_assign A (G.2.2.2.1.2.2 (i + 1)) (G.2.2.2.1.2.2 (i + 2))).2.2 → rm_R μ' (ab_assign A (G.2.2.2.1.2.2 (i + 1)) (G.2.2.2.1.2.2 (i + 2))).2.2 → aw_w G mm_lw_law 10 215 kc ks 1535 [(4, .int (nI i)), (3, .ref (G.1 + 32)), (2, .ref (G.1 + 13)), (1, .ref (G.1 + 0)), (0, .ref G.2.2.2.1.1)] [] (hp_f G κ' μ' o' rest') Q) : aw_w G mm_lw_law 10 215 (kc + 2) (ks + 16) 606 [(4, .int (nI i)), (3, .ref (G.1 + 32)), (2, .ref (G.1 + 13)), (1, .ref (G.1 + 0)), (0, .ref G.2.2.2.1.1)] [] (hp_f G κ μ o rest) Q := by
  refine aw_aload_n dd_lw_law_606 rfl 3 rfl ?_
  refine aw_aload_n dd_lw_law_607 rfl 4 rfl ?_
  refine aw_iload dd_lw_law_608 0 rfl ?_
  refine aw_iconst (v := (nI 1)) dd_lw_law_610 (by decide) ?_
  refine aw_iadd dd_lw_law_611 ?_
  refine aw_top (nI_add _ _) ?_
  refine aw_sld (j := i + 1) dd_lw_law_612 (by omega) (by omega) ?_
  refine aw_aload_n dd_lw_law_613 rfl 4 rfl ?_
  refine aw_iload dd_lw_law_614 0 rfl ?_
  refine aw_iconst (v := (nI 2)) dd_lw_law_616 (by decide) ?_
  refine aw_iadd dd_lw_law_617 ?_
  refine aw_top (nI_add _ _) ?_
  refine aw_sld (j := i + 2) dd_lw_law_618 (by omega) (by omega) ?_
  refine aw_aload_n dd_lw_law_619 rfl 1 rfl ?_
  refine aw_cSe mm_lw_assign (kc + 1) (ks + 10) [_, _, _, _] _ (wc_lw_assign G κ μ o rest hK (G.2.2.2.1.2.2 (i + 1)) (G.2.2.2.1.2.2 (i + 2))) dd_lw_law_620 cs_lw_121 my_lw_assign np_lw_assign rfl (Nat.le_of_ble_eq_true rfl) (by omega) (by omega) (Nat.le_of_ble_eq_true rfl) (Nat.le_of_ble_eq_true rfl) (fun w9 h9 hq => ?_)
  obtain ⟨e1, κ', o', rest', rfl, hK', ho⟩ := hq
  subst e1
  refine aw_istore (lv' := [(5, _), (4, _), (3, _), (2, _), (1, _), (0, _)]) dd_lw_law_623 (by decide) rfl ?_
  refine aw_aload_n dd_lw_law_625 rfl 3 rfl ?_
  refine aw_aload_n dd_lw_law_626 rfl 5 rfl ?_
  refine aw_iload dd_lw_law_627 1 rfl ?_
  refine aw_iconst (v := (nI 1)) dd_lw_law_629 (by decide) ?_
  refine aw_iadd dd_lw_law_630 ?_
  refine aw_top (nI_add _ _) ?_
  refine aw_sld (j := i + 1) dd_lw_law_631 (by omega) (by omega) ?_
  refine aw_aload_n dd_lw_law_632 rfl 5 rfl ?_
  refine aw_iload dd_lw_law_633 1 rfl ?_
  refine aw_iconst (v := (nI 2)) dd_lw_law_635 (by decide) ?_
  refine aw_iadd dd_lw_law_636 ?_
  refine aw_top (nI_add _ _) ?_
  refine aw_sld (j := i + 2) dd_lw_law_637 (by omega) (by omega) ?_
  refine aw_cVe mm_mo_assign (kc + 1) (ks + 10) _ 5 [_, _] _ (wc_mo_assign G κ' μ o' rest' hM (G.2.2.2.1.2.2 (i + 1)) (G.2.2.2.1.2.2 (i + 2))) dd_lw_law_638 cv_lw_123 my_mo_assign np_mo_assign rfl rfl rfl (Nat.le_of_ble_eq_true rfl) (by omega) (by omega) (Nat.le_of_ble_eq_true rfl) (Nat.le_of_ble_eq_true rfl) (fun w9 h9 hq => ?_)
  obtain ⟨e2, μ', rfl, hM', hfl⟩ := hq
  refine aw_istore (lv' := [(6, _), (5, _), (4, _), (3, _), (2, _), (1, _), (0, _)]) dd_lw_law_641 (by decide) rfl ?_
  refine aw_aload_n dd_lw_law_643 rfl 4 rfl ?_
  refine aw_cVi mm_mo_thrown (kc + 1) (ks + 10) _ 5 [] _ (wc_mo_thrown G κ' μ' o' rest') dd_lw_law_644 cv_lw_97 my_mo_thrown np_mo_thrown rfl rfl rfl (Nat.le_of_ble_eq_true rfl) (by omega) (by omega) (Nat.le_of_ble_eq_true rfl) (Nat.le_of_ble_eq_true rfl) ?_
  refine aw_top hfl ?_
  refine aw_iload dd_lw_law_647 1 rfl ?_
  refine aw_icmp_eq (tgt := 654) dd_lw_law_649 (by decide) (fun _ => ?_) (fun h9 => absurd (rfl) h9)
  refine aw_iload dd_lw_law_654 1 rfl ?_
  refine aw_if_ne (tgt := 678) dd_lw_law_656 (by decide) (fun hz => ?_) (fun hz => ?_)
  · skip
    refine aw_goto (tgt := 1535) dd_lw_law_678 (by decide) ?_
    exact aw_lv [2, 3, 4, 5, 6] rfl (aw_le (hend κ' μ' o' rest' hK' hM') (Nat.le_refl _) (Nat.le_refl _) (by omega) (by omega))
  · skip
    refine aw_aload_n dd_lw_law_659 rfl 3 rfl ?_
    refine aw_iconst (v := (nI 0)) dd_lw_law_660 (by decide) ?_
    refine aw_lald 32 dd_lw_law_661 rfl (vp_in_nI (by decide) (by decide)) ?_
    rw [nI_clamp (show 0 < 2 ^ 31 by decide)]
    refine aw_iload dd_lw_law_662 0 rfl ?_
    refine aw_if_eq (tgt := 671) dd_lw_law_664 (by decide) (fun hbb => ?_) (fun hbb => ?_)
    · refine aw_lconst (v := 0) dd_lw_law_671 (by decide) ?_
      refine aw_lcmp dd_lw_law_672 ?_
      refine aw_if_eq (tgt := 678) dd_lw_law_673 (by decide) (fun _ => ?_) (fun h9 => absurd ((lg_cmp_eq _ _).mpr (by rw [ho hz, ← e2 hz]; first | exact if_pos hbb | exact if_neg hbb)) h9)
      refine aw_goto (tgt := 1535) dd_lw_law_678 (by decide) ?_
      exact aw_lv [2, 3, 4, 5, 6] rfl (aw_le (hend κ' μ' o' rest' hK' hM') (Nat.le_refl _) (Nat.le_refl _) (by omega) (by omega))
    · refine aw_lconst (v := 1) dd_lw_law_667 (by decide) ?_
      refine aw_goto (tgt := 672) dd_lw_law_668 (by decide) ?_
      refine aw_lcmp dd_lw_law_672 ?_
      refine aw_if_eq (tgt := 678) dd_lw_law_673 (by decide) (fun _ => ?_) (fun h9 => absurd ((lg_cmp_eq _ _).mpr (by rw [ho hz, ← e2 hz]; first | exact if_pos hbb | exact if_neg hbb)) h9)
      refine aw_goto (tgt := 1535) dd_lw_law_678 (by decide) ?_
      exact aw_lv [2, 3, 4, 5, 6] rfl (aw_le (hend κ' μ' o' rest' hK' hM') (Nat.le_refl _) (Nat.le_refl _) (by omega) (by omega))
theorem wb_remove (G : ag_T) (κ : ck_T) (μ : cm_T) (o : Nat → Int64) (rest : List va_E) {A : aa_T} (hK : rk_R G κ rest A) (hM : rm_R μ A) (hW : wa_W A) {i kc ks : Nat} (hi : i + 5 ≤ G.2.2.2.1.2.1) (hL : G.2.2.2.1.2.1 < 2 ^ 30) {Q : aq_T} (hend : ∀ κ' μ' o' rest', rk_R G κ' rest' (ab_remove A (G.2.2.2.1.2.2 (i + 1)) (G.2.2.2.1.2.2 (i + 2))).2.2 → rm_R μ' (ab_remove A (G.2.2.2.1.2.2 (i + 1)) (G.2.2.2.1.2.2 (i + 2))).2.2 → aw_w G mm_lw_law 10 215 kc ks 1535 [(4, .int (nI i)), (3, .ref (G.1 + 32)), (2, .ref (G.1 + 13)), (1, .ref (G.1 + 0)), (0, .ref G.2.2.2.1.1)] [] (hp_f G κ' μ' o' rest') Q) : aw_w G mm_lw_law 10 215 (kc + 2) (ks + 16) 681 [(4, .int (nI i)), (3, .ref (G.1 + 32)), (2, .ref (G.1 + 13)), (1, .ref (G.1 + 0)), (0, .ref G.2.2.2.1.1)] [] (hp_f G κ μ o rest) Q := by
  refine aw_aload_n dd_lw_law_681 rfl 3 rfl ?_
  refine aw_aload_n dd_lw_law_682 rfl 4 rfl ?_
  refine aw_iload dd_lw_law_683 0 rfl ?_
  refine aw_iconst (v := (nI 1)) dd_lw_law_685 (by decide) ?_
  refine aw_iadd dd_lw_law_686 ?_
  refine aw_top (nI_add _ _) ?_
  refine aw_sld (j := i + 1) dd_lw_law_687 (by omega) (by omega) ?_
  refine aw_aload_n dd_lw_law_688 rfl 4 rfl ?_
  refine aw_iload dd_lw_law_689 0 rfl ?_
  refine aw_iconst (v := (nI 2)) dd_lw_law_691 (by decide) ?_
  refine aw_iadd dd_lw_law_692 ?_
  refine aw_top (nI_add _ _) ?_
  refine aw_sld (j := i + 2) dd_lw_law_693 (by omega) (by omega) ?_
  refine aw_aload_n dd_lw_law_694 rfl 1 rfl ?_
  refine aw_cSe mm_lw_remove (kc + 1) (ks + 10) [_, _, _, _] _ (wc_lw_remove G κ μ o rest hK (G.2.2.2.1.2.2 (i + 1)) (G.2.2.2.1.2.2 (i + 2))) dd_lw_law_695 cs_lw_124 my_lw_remove np_lw_remove rfl (Nat.le_of_ble_eq_true rfl) (by omega) (by omega) (Nat.le_of_ble_eq_true rfl) (Nat.le_of_ble_eq_true rfl) (fun w9 h9 hq => ?_)
  obtain ⟨e1, κ', o', rest', rfl, hK', ho⟩ := hq
  subst e1
  refine aw_istore (lv' := [(5, _), (4, _), (3, _), (2, _), (1, _), (0, _)]) dd_lw_law_698 (by decide) rfl ?_
  refine aw_aload_n dd_lw_law_700 rfl 3 rfl ?_
  refine aw_aload_n dd_lw_law_701 rfl 5 rfl ?_
  refine aw_iload dd_lw_law_702 1 rfl ?_
  refine aw_iconst (v := (nI 1)) dd_lw_law_704 (by decide) ?_
  refine aw_iadd dd_lw_law_705 ?_
  refine aw_top (nI_add _ _) ?_
  refine aw_sld (j := i + 1) dd_lw_law_706 (by omega) (by omega) ?_
  refine aw_aload_n dd_lw_law_707 rfl 5 rfl ?_
  refine aw_iload dd_lw_law_708 1 rfl ?_
  refine aw_iconst (v := (nI 2)) dd_lw_law_710 (by decide) ?_
  refine aw_iadd dd_lw_law_711 ?_
  refine aw_top (nI_add _ _) ?_
  refine aw_sld (j := i + 2) dd_lw_law_712 (by omega) (by omega) ?_
  refine aw_cVe mm_mo_remove (kc + 1) (ks + 10) _ 5 [_, _] _ (wc_mo_remove G κ' μ o' rest' hM hW (G.2.2.2.1.2.2 (i + 1)) (G.2.2.2.1.2.2 (i + 2))) dd_lw_law_713 cv_lw_126 my_mo_remove np_mo_remove rfl rfl rfl (Nat.le_of_ble_eq_true rfl) (by omega) (by omega) (Nat.le_of_ble_eq_true rfl) (Nat.le_of_ble_eq_true rfl) (fun w9 h9 hq => ?_)
  obtain ⟨e2, μ', rfl, hM', hfl⟩ := hq
  refine aw_istore (lv' := [(6, _), (5, _), (4, _), (3, _), (2, _), (1, _), (0, _)]) dd_lw_law_716 (by decide) rfl ?_
  refine aw_aload_n dd_lw_law_718 rfl 4 rfl ?_
  refine aw_cVi mm_mo_thrown (kc + 1) (ks + 10) _ 5 [] _ (wc_mo_thrown G κ' μ' o' rest') dd_lw_law_719 cv_lw_97 my_mo_thrown np_mo_thrown rfl rfl rfl (Nat.le_of_ble_eq_true rfl) (by omega) (by omega) (Nat.le_of_ble_eq_true rfl) (Nat.le_of_ble_eq_true rfl) ?_
  refine aw_top hfl ?_
  refine aw_iload dd_lw_law_722 1 rfl ?_
  refine aw_icmp_eq (tgt := 729) dd_lw_law_724 (by decide) (fun _ => ?_) (fun h9 => absurd (rfl) h9)
  refine aw_iload dd_lw_law_729 1 rfl ?_
  refine aw_if_ne (tgt := 753) dd_lw_law_731 (by decide) (fun hz => ?_) (fun hz => ?_)
  · skip
    refine aw_goto (tgt := 1535) dd_lw_law_753 (by decide) ?_
    exact aw_lv [2, 3, 4, 5, 6] rfl (aw_le (hend κ' μ' o' rest' hK' hM') (Nat.le_refl _) (Nat.le_refl _) (by omega) (by omega))
  · skip
    refine aw_aload_n dd_lw_law_734 rfl 3 rfl ?_
    refine aw_iconst (v := (nI 0)) dd_lw_law_735 (by decide) ?_
    refine aw_lald 32 dd_lw_law_736 rfl (vp_in_nI (by decide) (by decide)) ?_
    rw [nI_clamp (show 0 < 2 ^ 31 by decide)]
    refine aw_iload dd_lw_law_737 0 rfl ?_
    refine aw_if_eq (tgt := 746) dd_lw_law_739 (by decide) (fun hbb => ?_) (fun hbb => ?_)
    · refine aw_lconst (v := 0) dd_lw_law_746 (by decide) ?_
      refine aw_lcmp dd_lw_law_747 ?_
      refine aw_if_eq (tgt := 753) dd_lw_law_748 (by decide) (fun _ => ?_) (fun h9 => absurd ((lg_cmp_eq _ _).mpr (by rw [ho hz, ← e2 hz]; first | exact if_pos hbb | exact if_neg hbb)) h9)
      refine aw_goto (tgt := 1535) dd_lw_law_753 (by decide) ?_
      exact aw_lv [2, 3, 4, 5, 6] rfl (aw_le (hend κ' μ' o' rest' hK' hM') (Nat.le_refl _) (Nat.le_refl _) (by omega) (by omega))
    · refine aw_lconst (v := 1) dd_lw_law_742 (by decide) ?_
      refine aw_goto (tgt := 747) dd_lw_law_743 (by decide) ?_
      refine aw_lcmp dd_lw_law_747 ?_
      refine aw_if_eq (tgt := 753) dd_lw_law_748 (by decide) (fun _ => ?_) (fun h9 => absurd ((lg_cmp_eq _ _).mpr (by rw [ho hz, ← e2 hz]; first | exact if_pos hbb | exact if_neg hbb)) h9)
      refine aw_goto (tgt := 1535) dd_lw_law_753 (by decide) ?_
      exact aw_lv [2, 3, 4, 5, 6] rfl (aw_le (hend κ' μ' o' rest' hK' hM') (Nat.le_refl _) (Nat.le_refl _) (by omega) (by omega))
theorem wb_give (G : ag_T) (κ : ck_T) (μ : cm_T) (o : Nat → Int64) (rest : List va_E) {A : aa_T} (hK : rk_R G κ rest A) (hM : rm_R μ A) (hW : wa_W A) {i kc ks : Nat} (hi : i + 5 ≤ G.2.2.2.1.2.1) (hL : G.2.2.2.1.2.1 < 2 ^ 30) {Q : aq_T} (hend : ∀ κ' μ' o' rest', rk_R G κ' rest' (ab_give A (G.2.2.2.1.2.2 (i + 1)) (G.2.2.2.1.2.2 (i + 2)) (G.2.2.2.1.2.2 (i + 3))).2.2 → rm_R μ' (ab_give A (G.2.2.2.1.2.2 (i + 1)) (G.2.2.2.1.2.2 (i + 2)) (G.2.2.2.1.2.2 (i + 3))).2.2 → aw_w G mm_lw_law 10 215 kc ks 1535 [(4, .int (nI i)), (3, .ref (G.1 + 32)), (2, .ref (G.1 + 13)), (1, .ref (G.1 + 0)), (0, .ref G.2.2.2.1.1)] [] (hp_f G κ' μ' o' rest') Q) : aw_w G mm_lw_law 10 215 (kc + 2) (ks + 16) 756 [(4, .int (nI i)), (3, .ref (G.1 + 32)), (2, .ref (G.1 + 13)), (1, .ref (G.1 + 0)), (0, .ref G.2.2.2.1.1)] [] (hp_f G κ μ o rest) Q := by
  refine aw_aload_n dd_lw_law_756 rfl 3 rfl ?_
  refine aw_aload_n dd_lw_law_757 rfl 4 rfl ?_
  refine aw_iload dd_lw_law_758 0 rfl ?_
  refine aw_iconst (v := (nI 1)) dd_lw_law_760 (by decide) ?_
  refine aw_iadd dd_lw_law_761 ?_
  refine aw_top (nI_add _ _) ?_
  refine aw_sld (j := i + 1) dd_lw_law_762 (by omega) (by omega) ?_
  refine aw_aload_n dd_lw_law_763 rfl 4 rfl ?_
  refine aw_iload dd_lw_law_764 0 rfl ?_
  refine aw_iconst (v := (nI 2)) dd_lw_law_766 (by decide) ?_
  refine aw_iadd dd_lw_law_767 ?_
  refine aw_top (nI_add _ _) ?_
  refine aw_sld (j := i + 2) dd_lw_law_768 (by omega) (by omega) ?_
  refine aw_aload_n dd_lw_law_769 rfl 4 rfl ?_
  refine aw_iload dd_lw_law_770 0 rfl ?_
  refine aw_iconst (v := (nI 3)) dd_lw_law_772 (by decide) ?_
  refine aw_iadd dd_lw_law_773 ?_
  refine aw_top (nI_add _ _) ?_
  refine aw_sld (j := i + 3) dd_lw_law_774 (by omega) (by omega) ?_
  refine aw_aload_n dd_lw_law_775 rfl 1 rfl ?_
  refine aw_cSe mm_lw_give (kc + 1) (ks + 10) [_, _, _, _, _] _ (wc_lw_give G κ μ o rest hK (G.2.2.2.1.2.2 (i + 1)) (G.2.2.2.1.2.2 (i + 2)) (G.2.2.2.1.2.2 (i + 3))) dd_lw_law_776 cs_lw_127 my_lw_give np_lw_give rfl (Nat.le_of_ble_eq_true rfl) (by omega) (by omega) (Nat.le_of_ble_eq_true rfl) (Nat.le_of_ble_eq_true rfl) (fun w9 h9 hq => ?_)
  obtain ⟨e1, κ', o', rest', rfl, hK', ho⟩ := hq
  subst e1
  refine aw_istore (lv' := [(5, _), (4, _), (3, _), (2, _), (1, _), (0, _)]) dd_lw_law_779 (by decide) rfl ?_
  refine aw_aload_n dd_lw_law_781 rfl 3 rfl ?_
  refine aw_aload_n dd_lw_law_782 rfl 5 rfl ?_
  refine aw_iload dd_lw_law_783 1 rfl ?_
  refine aw_iconst (v := (nI 1)) dd_lw_law_785 (by decide) ?_
  refine aw_iadd dd_lw_law_786 ?_
  refine aw_top (nI_add _ _) ?_
  refine aw_sld (j := i + 1) dd_lw_law_787 (by omega) (by omega) ?_
  refine aw_aload_n dd_lw_law_788 rfl 5 rfl ?_
  refine aw_iload dd_lw_law_789 1 rfl ?_
  refine aw_iconst (v := (nI 2)) dd_lw_law_791 (by decide) ?_
  refine aw_iadd dd_lw_law_792 ?_
  refine aw_top (nI_add _ _) ?_
  refine aw_sld (j := i + 2) dd_lw_law_793 (by omega) (by omega) ?_
  refine aw_aload_n dd_lw_law_794 rfl 5 rfl ?_
  refine aw_iload dd_lw_law_795 1 rfl ?_
  refine aw_iconst (v := (nI 3)) dd_lw_law_797 (by decide) ?_
  refine aw_iadd dd_lw_law_798 ?_
  refine aw_top (nI_add _ _) ?_
  refine aw_sld (j := i + 3) dd_lw_law_799 (by omega) (by omega) ?_
  refine aw_cVe mm_mo_give (kc + 1) (ks + 10) _ 5 [_, _, _] _ (wc_mo_give G κ' μ o' rest' hM hW (G.2.2.2.1.2.2 (i + 1)) (G.2.2.2.1.2.2 (i + 2)) (G.2.2.2.1.2.2 (i + 3))) dd_lw_law_800 cv_lw_130 my_mo_give np_mo_give rfl rfl rfl (Nat.le_of_ble_eq_true rfl) (by omega) (by omega) (Nat.le_of_ble_eq_true rfl) (Nat.le_of_ble_eq_true rfl) (fun w9 h9 hq => ?_)
  obtain ⟨e2, μ', rfl, hM', hfl⟩ := hq
  refine aw_istore (lv' := [(6, _), (5, _), (4, _), (3, _), (2, _), (1, _), (0, _)]) dd_lw_law_803 (by decide) rfl ?_
  refine aw_aload_n dd_lw_law_805 rfl 4 rfl ?_
  refine aw_cVi mm_mo_thrown (kc + 1) (ks + 10) _ 5 [] _ (wc_mo_thrown G κ' μ' o' rest') dd_lw_law_806 cv_lw_97 my_mo_thrown np_mo_thrown rfl rfl rfl (Nat.le_of_ble_eq_true rfl) (by omega) (by omega) (Nat.le_of_ble_eq_true rfl) (Nat.le_of_ble_eq_true rfl) ?_
  refine aw_top hfl ?_
  refine aw_iload dd_lw_law_809 1 rfl ?_
  refine aw_icmp_eq (tgt := 816) dd_lw_law_811 (by decide) (fun _ => ?_) (fun h9 => absurd (rfl) h9)
  refine aw_iload dd_lw_law_816 1 rfl ?_
  refine aw_if_ne (tgt := 840) dd_lw_law_818 (by decide) (fun hz => ?_) (fun hz => ?_)
  · skip
    refine aw_goto (tgt := 1535) dd_lw_law_840 (by decide) ?_
    exact aw_lv [2, 3, 4, 5, 6] rfl (aw_le (hend κ' μ' o' rest' hK' hM') (Nat.le_refl _) (Nat.le_refl _) (by omega) (by omega))
  · skip
    refine aw_aload_n dd_lw_law_821 rfl 3 rfl ?_
    refine aw_iconst (v := (nI 0)) dd_lw_law_822 (by decide) ?_
    refine aw_lald 32 dd_lw_law_823 rfl (vp_in_nI (by decide) (by decide)) ?_
    rw [nI_clamp (show 0 < 2 ^ 31 by decide)]
    refine aw_iload dd_lw_law_824 0 rfl ?_
    refine aw_if_eq (tgt := 833) dd_lw_law_826 (by decide) (fun hbb => ?_) (fun hbb => ?_)
    · refine aw_lconst (v := 0) dd_lw_law_833 (by decide) ?_
      refine aw_lcmp dd_lw_law_834 ?_
      refine aw_if_eq (tgt := 840) dd_lw_law_835 (by decide) (fun _ => ?_) (fun h9 => absurd ((lg_cmp_eq _ _).mpr (by rw [ho hz, ← e2 hz]; first | exact if_pos hbb | exact if_neg hbb)) h9)
      refine aw_goto (tgt := 1535) dd_lw_law_840 (by decide) ?_
      exact aw_lv [2, 3, 4, 5, 6] rfl (aw_le (hend κ' μ' o' rest' hK' hM') (Nat.le_refl _) (Nat.le_refl _) (by omega) (by omega))
    · refine aw_lconst (v := 1) dd_lw_law_829 (by decide) ?_
      refine aw_goto (tgt := 834) dd_lw_law_830 (by decide) ?_
      refine aw_lcmp dd_lw_law_834 ?_
      refine aw_if_eq (tgt := 840) dd_lw_law_835 (by decide) (fun _ => ?_) (fun h9 => absurd ((lg_cmp_eq _ _).mpr (by rw [ho hz, ← e2 hz]; first | exact if_pos hbb | exact if_neg hbb)) h9)
      refine aw_goto (tgt := 1535) dd_lw_law_840 (by decide) ?_
      exact aw_lv [2, 3, 4, 5, 6] rfl (aw_le (hend κ' μ' o' rest' hK' hM') (Nat.le_refl _) (Nat.le_refl _) (by omega) (by omega))
theorem wb_take (G : ag_T) (κ : ck_T) (μ : cm_T) (o : Nat → Int64) (rest : List va_E) {A : aa_T} (hK : rk_R G κ rest A) (hM : rm_R μ A) (hW : wa_W A) {i kc ks : Nat} (hi : i + 5 ≤ G.2.2.2.1.2.1) (hL : G.2.2.2.1.2.1 < 2 ^ 30) {Q : aq_T} (hend : ∀ κ' μ' o' rest', rk_R G κ' rest' (ab_take A (G.2.2.2.1.2.2 (i + 1)) (G.2.2.2.1.2.2 (i + 2)) (G.2.2.2.1.2.2 (i + 3))).2.2 → rm_R μ' (ab_take A (G.2.2.2.1.2.2 (i + 1)) (G.2.2.2.1.2.2 (i + 2)) (G.2.2.2.1.2.2 (i + 3))).2.2 → aw_w G mm_lw_law 10 215 kc ks 1535 [(4, .int (nI i)), (3, .ref (G.1 + 32)), (2, .ref (G.1 + 13)), (1, .ref (G.1 + 0)), (0, .ref G.2.2.2.1.1)] [] (hp_f G κ' μ' o' rest') Q) : aw_w G mm_lw_law 10 215 (kc + 2) (ks + 16) 843 [(4, .int (nI i)), (3, .ref (G.1 + 32)), (2, .ref (G.1 + 13)), (1, .ref (G.1 + 0)), (0, .ref G.2.2.2.1.1)] [] (hp_f G κ μ o rest) Q := by
  refine aw_aload_n dd_lw_law_843 rfl 3 rfl ?_
  refine aw_aload_n dd_lw_law_844 rfl 4 rfl ?_
  refine aw_iload dd_lw_law_845 0 rfl ?_
  refine aw_iconst (v := (nI 1)) dd_lw_law_847 (by decide) ?_
  refine aw_iadd dd_lw_law_848 ?_
  refine aw_top (nI_add _ _) ?_
  refine aw_sld (j := i + 1) dd_lw_law_849 (by omega) (by omega) ?_
  refine aw_aload_n dd_lw_law_850 rfl 4 rfl ?_
  refine aw_iload dd_lw_law_851 0 rfl ?_
  refine aw_iconst (v := (nI 2)) dd_lw_law_853 (by decide) ?_
  refine aw_iadd dd_lw_law_854 ?_
  refine aw_top (nI_add _ _) ?_
  refine aw_sld (j := i + 2) dd_lw_law_855 (by omega) (by omega) ?_
  refine aw_aload_n dd_lw_law_856 rfl 4 rfl ?_
  refine aw_iload dd_lw_law_857 0 rfl ?_
  refine aw_iconst (v := (nI 3)) dd_lw_law_859 (by decide) ?_
  refine aw_iadd dd_lw_law_860 ?_
  refine aw_top (nI_add _ _) ?_
  refine aw_sld (j := i + 3) dd_lw_law_861 (by omega) (by omega) ?_
  refine aw_aload_n dd_lw_law_862 rfl 1 rfl ?_
  refine aw_cSe mm_lw_take (kc + 1) (ks + 10) [_, _, _, _, _] _ (wc_lw_take G κ μ o rest hK (G.2.2.2.1.2.2 (i + 1)) (G.2.2.2.1.2.2 (i + 2)) (G.2.2.2.1.2.2 (i + 3))) dd_lw_law_863 cs_lw_131 my_lw_take np_lw_take rfl (Nat.le_of_ble_eq_true rfl) (by omega) (by omega) (Nat.le_of_ble_eq_true rfl) (Nat.le_of_ble_eq_true rfl) (fun w9 h9 hq => ?_)
  obtain ⟨e1, κ', o', rest', rfl, hK', ho⟩ := hq
  subst e1
  refine aw_istore (lv' := [(5, _), (4, _), (3, _), (2, _), (1, _), (0, _)]) dd_lw_law_866 (by decide) rfl ?_
  refine aw_aload_n dd_lw_law_868 rfl 3 rfl ?_
  refine aw_aload_n dd_lw_law_869 rfl 5 rfl ?_
  refine aw_iload dd_lw_law_870 1 rfl ?_
  refine aw_iconst (v := (nI 1)) dd_lw_law_872 (by decide) ?_
  refine aw_iadd dd_lw_law_873 ?_
  refine aw_top (nI_add _ _) ?_
  refine aw_sld (j := i + 1) dd_lw_law_874 (by omega) (by omega) ?_
  refine aw_aload_n dd_lw_law_875 rfl 5 rfl ?_
  refine aw_iload dd_lw_law_876 1 rfl ?_
  refine aw_iconst (v := (nI 2)) dd_lw_law_878 (by decide) ?_
  refine aw_iadd dd_lw_law_879 ?_
  refine aw_top (nI_add _ _) ?_
  refine aw_sld (j := i + 2) dd_lw_law_880 (by omega) (by omega) ?_
  refine aw_aload_n dd_lw_law_881 rfl 5 rfl ?_
  refine aw_iload dd_lw_law_882 1 rfl ?_
  refine aw_iconst (v := (nI 3)) dd_lw_law_884 (by decide) ?_
  refine aw_iadd dd_lw_law_885 ?_
  refine aw_top (nI_add _ _) ?_
  refine aw_sld (j := i + 3) dd_lw_law_886 (by omega) (by omega) ?_
  refine aw_cVe mm_mo_take (kc + 1) (ks + 10) _ 5 [_, _, _] _ (wc_mo_take G κ' μ o' rest' hM hW (G.2.2.2.1.2.2 (i + 1)) (G.2.2.2.1.2.2 (i + 2)) (G.2.2.2.1.2.2 (i + 3))) dd_lw_law_887 cv_lw_133 my_mo_take np_mo_take rfl rfl rfl (Nat.le_of_ble_eq_true rfl) (by omega) (by omega) (Nat.le_of_ble_eq_true rfl) (Nat.le_of_ble_eq_true rfl) (fun w9 h9 hq => ?_)
  obtain ⟨e2, μ', rfl, hM', hfl⟩ := hq
  refine aw_istore (lv' := [(6, _), (5, _), (4, _), (3, _), (2, _), (1, _), (0, _)]) dd_lw_law_890 (by decide) rfl ?_
  refine aw_aload_n dd_lw_law_892 rfl 4 rfl ?_
  refine aw_cVi mm_mo_thrown (kc + 1) (ks + 10) _ 5 [] _ (wc_mo_thrown G κ' μ' o' rest') dd_lw_law_893 cv_lw_97 my_mo_thrown np_mo_thrown rfl rfl rfl (Nat.le_of_ble_eq_true rfl) (by omega) (by omega) (Nat.le_of_ble_eq_true rfl) (Nat.le_of_ble_eq_true rfl) ?_
  refine aw_top hfl ?_
  refine aw_iload dd_lw_law_896 1 rfl ?_
  refine aw_icmp_eq (tgt := 903) dd_lw_law_898 (by decide) (fun _ => ?_) (fun h9 => absurd (rfl) h9)
  refine aw_iload dd_lw_law_903 1 rfl ?_
  refine aw_if_ne (tgt := 927) dd_lw_law_905 (by decide) (fun hz => ?_) (fun hz => ?_)
  · skip
    refine aw_goto (tgt := 1535) dd_lw_law_927 (by decide) ?_
    exact aw_lv [2, 3, 4, 5, 6] rfl (aw_le (hend κ' μ' o' rest' hK' hM') (Nat.le_refl _) (Nat.le_refl _) (by omega) (by omega))
  · skip
    refine aw_aload_n dd_lw_law_908 rfl 3 rfl ?_
    refine aw_iconst (v := (nI 0)) dd_lw_law_909 (by decide) ?_
    refine aw_lald 32 dd_lw_law_910 rfl (vp_in_nI (by decide) (by decide)) ?_
    rw [nI_clamp (show 0 < 2 ^ 31 by decide)]
    refine aw_iload dd_lw_law_911 0 rfl ?_
    refine aw_if_eq (tgt := 920) dd_lw_law_913 (by decide) (fun hbb => ?_) (fun hbb => ?_)
    · refine aw_lconst (v := 0) dd_lw_law_920 (by decide) ?_
      refine aw_lcmp dd_lw_law_921 ?_
      refine aw_if_eq (tgt := 927) dd_lw_law_922 (by decide) (fun _ => ?_) (fun h9 => absurd ((lg_cmp_eq _ _).mpr (by rw [ho hz, ← e2 hz]; first | exact if_pos hbb | exact if_neg hbb)) h9)
      refine aw_goto (tgt := 1535) dd_lw_law_927 (by decide) ?_
      exact aw_lv [2, 3, 4, 5, 6] rfl (aw_le (hend κ' μ' o' rest' hK' hM') (Nat.le_refl _) (Nat.le_refl _) (by omega) (by omega))
    · refine aw_lconst (v := 1) dd_lw_law_916 (by decide) ?_
      refine aw_goto (tgt := 921) dd_lw_law_917 (by decide) ?_
      refine aw_lcmp dd_lw_law_921 ?_
      refine aw_if_eq (tgt := 927) dd_lw_law_922 (by decide) (fun _ => ?_) (fun h9 => absurd ((lg_cmp_eq _ _).mpr (by rw [ho hz, ← e2 hz]; first | exact if_pos hbb | exact if_neg hbb)) h9)
      refine aw_goto (tgt := 1535) dd_lw_law_927 (by decide) ?_
      exact aw_lv [2, 3, 4, 5, 6] rfl (aw_le (hend κ' μ' o' rest' hK' hM') (Nat.le_refl _) (Nat.le_refl _) (by omega) (by omega))
theorem wb_roles (G : ag_T) (κ : ck_T) (μ : cm_T) (o : Nat → Int64) (rest : List va_E) {A : aa_T} (hK : rk_R G κ rest A) (hM : rm_R μ A) (hW : wa_W A) {i kc ks : Nat} (hi : i + 5 ≤ G.2.2.2.1.2.1) (hL : G.2.2.2.1.2.1 < 2 ^ 30) {Q : aq_T} (hend : ∀ κ' μ' o' rest', rk_R G κ' rest' (ab_roles A (G.2.2.2.1.2.2 (i + 1)) (decide (¬ G.2.2.2.1.2.2 (i + 2) = 0))).2.2 → rm_R μ' (ab_roles A (G.2.2.2.1.2.2 (i + 1)) (decide (¬ G.2.2.2.1.2.2 (i + 2) = 0))).2.2 → aw_w G mm_lw_law 10 215 kc ks 1535 [(4, .int (nI i)), (3, .ref (G.1 + 32)), (2, .ref (G.1 + 13)), (1, .ref (G.1 + 0)), (0, .ref G.2.2.2.1.1)] [] (hp_f G κ' μ' o' rest') Q) : aw_w G mm_lw_law 10 215 (kc + 2) (ks + 16) 930 [(4, .int (nI i)), (3, .ref (G.1 + 32)), (2, .ref (G.1 + 13)), (1, .ref (G.1 + 0)), (0, .ref G.2.2.2.1.1)] [] (hp_f G κ μ o rest) Q := by
  refine aw_aload_n dd_lw_law_930 rfl 3 rfl ?_
  refine aw_aload_n dd_lw_law_931 rfl 4 rfl ?_
  refine aw_iload dd_lw_law_932 0 rfl ?_
  refine aw_iconst (v := (nI 1)) dd_lw_law_934 (by decide) ?_
  refine aw_iadd dd_lw_law_935 ?_
  refine aw_top (nI_add _ _) ?_
  refine aw_sld (j := i + 1) dd_lw_law_936 (by omega) (by omega) ?_
  refine aw_join (tgt := 951) (v := zb_i (decide (¬ G.2.2.2.1.2.2 (i + 2) = 0))) ?_ (fun kj937 => ?_)
  · refine aw_aload_n dd_lw_law_951 rfl 1 rfl ?_
    refine aw_cSe mm_lw_roles (kc + 1) (ks + 10) [_, _, _, _] _ (wc_lw_roles G κ μ o rest hK (G.2.2.2.1.2.2 (i + 1)) (decide (¬ G.2.2.2.1.2.2 (i + 2) = 0))) dd_lw_law_952 cs_lw_134 my_lw_roles np_lw_roles rfl (Nat.le_of_ble_eq_true rfl) (by omega) (by omega) (Nat.le_of_ble_eq_true rfl) (Nat.le_of_ble_eq_true rfl) (fun w9 h9 hq => ?_)
    obtain ⟨e1, κ', o', rest', rfl, hK', ho⟩ := hq
    subst e1
    refine aw_istore (lv' := [(5, _), (4, _), (3, _), (2, _), (1, _), (0, _)]) dd_lw_law_955 (by decide) rfl ?_
    refine aw_aload_n dd_lw_law_957 rfl 3 rfl ?_
    refine aw_aload_n dd_lw_law_958 rfl 5 rfl ?_
    refine aw_iload dd_lw_law_959 1 rfl ?_
    refine aw_iconst (v := (nI 1)) dd_lw_law_961 (by decide) ?_
    refine aw_iadd dd_lw_law_962 ?_
    refine aw_top (nI_add _ _) ?_
    refine aw_sld (j := i + 1) dd_lw_law_963 (by omega) (by omega) ?_
    refine aw_join (tgt := 978) (v := zb_i (decide (¬ G.2.2.2.1.2.2 (i + 2) = 0))) ?_ (fun kj964 => ?_)
    · refine aw_cVe mm_mo_roles (kc + 1) (ks + 10) _ 5 [_, _] _ (wc_mo_roles G κ' μ o' rest' hM (G.2.2.2.1.2.2 (i + 1)) (decide (¬ G.2.2.2.1.2.2 (i + 2) = 0))) dd_lw_law_978 cv_lw_137 my_mo_roles np_mo_roles rfl rfl rfl (Nat.le_of_ble_eq_true rfl) (by omega) (by omega) (Nat.le_of_ble_eq_true rfl) (Nat.le_of_ble_eq_true rfl) (fun w9 h9 hq => ?_)
      obtain ⟨e2, μ', rfl, hM', hfl⟩ := hq
      refine aw_istore (lv' := [(6, _), (5, _), (4, _), (3, _), (2, _), (1, _), (0, _)]) dd_lw_law_981 (by decide) rfl ?_
      refine aw_aload_n dd_lw_law_983 rfl 4 rfl ?_
      refine aw_cVi mm_mo_thrown (kc + 1) (ks + 10) _ 5 [] _ (wc_mo_thrown G κ' μ' o' rest') dd_lw_law_984 cv_lw_97 my_mo_thrown np_mo_thrown rfl rfl rfl (Nat.le_of_ble_eq_true rfl) (by omega) (by omega) (Nat.le_of_ble_eq_true rfl) (Nat.le_of_ble_eq_true rfl) ?_
      refine aw_top hfl ?_
      refine aw_iload dd_lw_law_987 1 rfl ?_
      refine aw_icmp_eq (tgt := 994) dd_lw_law_989 (by decide) (fun _ => ?_) (fun h9 => absurd (rfl) h9)
      refine aw_iload dd_lw_law_994 1 rfl ?_
      refine aw_if_ne (tgt := 1011) dd_lw_law_996 (by decide) (fun hz => ?_) (fun hz => ?_)
      · skip
        refine aw_goto (tgt := 1535) dd_lw_law_1011 (by decide) ?_
        exact aw_lv [2, 3, 4, 5, 6] rfl (aw_le (hend κ' μ' o' rest' hK' hM') (Nat.le_refl _) (Nat.le_refl _) (by omega) (by omega))
      · skip
        refine aw_aload_n dd_lw_law_999 rfl 3 rfl ?_
        refine aw_iconst (v := (nI 0)) dd_lw_law_1000 (by decide) ?_
        refine aw_lald 32 dd_lw_law_1001 rfl (vp_in_nI (by decide) (by decide)) ?_
        rw [nI_clamp (show 0 < 2 ^ 31 by decide)]
        refine aw_iload dd_lw_law_1002 0 rfl ?_
        refine aw_i2l dd_lw_law_1004 rfl ?_
        refine aw_lcmp dd_lw_law_1005 ?_
        refine aw_if_eq (tgt := 1011) dd_lw_law_1006 (by decide) (fun _ => ?_) (fun h9 => absurd ((lg_cmp_eq _ _).mpr (by rw [ho hz, e2 hz]; rfl)) h9)
        refine aw_goto (tgt := 1535) dd_lw_law_1011 (by decide) ?_
        exact aw_lv [2, 3, 4, 5, 6] rfl (aw_le (hend κ' μ' o' rest' hK' hM') (Nat.le_refl _) (Nat.le_refl _) (by omega) (by omega))
    · refine aw_aload_n dd_lw_law_964 rfl 5 rfl ?_
      refine aw_iload dd_lw_law_965 1 rfl ?_
      refine aw_iconst (v := (nI 2)) dd_lw_law_967 (by decide) ?_
      refine aw_iadd dd_lw_law_968 ?_
      refine aw_top (nI_add _ _) ?_
      refine aw_sld (j := i + 2) dd_lw_law_969 (by omega) (by omega) ?_
      refine aw_if_eq (tgt := 977) dd_lw_law_970 (by decide) (fun hbz => ?_) (fun hbz => ?_)
      · refine aw_iconst (v := 0) dd_lw_law_977 (by decide) ?_
        exact aw_top (by simp [zb_i, hbz]) kj964
      · refine aw_iconst (v := 1) dd_lw_law_973 (by decide) ?_
        refine aw_goto (tgt := 978) dd_lw_law_974 (by decide) ?_
        exact aw_top (by simp [zb_i, hbz]) kj964
  · refine aw_aload_n dd_lw_law_937 rfl 4 rfl ?_
    refine aw_iload dd_lw_law_938 0 rfl ?_
    refine aw_iconst (v := (nI 2)) dd_lw_law_940 (by decide) ?_
    refine aw_iadd dd_lw_law_941 ?_
    refine aw_top (nI_add _ _) ?_
    refine aw_sld (j := i + 2) dd_lw_law_942 (by omega) (by omega) ?_
    refine aw_if_eq (tgt := 950) dd_lw_law_943 (by decide) (fun hbz => ?_) (fun hbz => ?_)
    · refine aw_iconst (v := 0) dd_lw_law_950 (by decide) ?_
      exact aw_top (by simp [zb_i, hbz]) kj937
    · refine aw_iconst (v := 1) dd_lw_law_946 (by decide) ?_
      refine aw_goto (tgt := 951) dd_lw_law_947 (by decide) ?_
      exact aw_top (by simp [zb_i, hbz]) kj937
theorem wb_open (G : ag_T) (κ : ck_T) (μ : cm_T) (o : Nat → Int64) (rest : List va_E) {A : aa_T} (hK : rk_R G κ rest A) (hM : rm_R μ A) (hW : wa_W A) {i kc ks : Nat} (hi : i + 5 ≤ G.2.2.2.1.2.1) (hL : G.2.2.2.1.2.1 < 2 ^ 30) {Q : aq_T} (hend : ∀ κ' μ' o' rest', rk_R G κ' rest' (ab_open A (G.2.2.2.1.2.2 (i + 1))).2.2 → rm_R μ' (ab_open A (G.2.2.2.1.2.2 (i + 1))).2.2 → aw_w G mm_lw_law 10 215 kc ks 1535 [(4, .int (nI i)), (3, .ref (G.1 + 32)), (2, .ref (G.1 + 13)), (1, .ref (G.1 + 0)), (0, .ref G.2.2.2.1.1)] [] (hp_f G κ' μ' o' rest') Q) : aw_w G mm_lw_law 10 215 (kc + 2) (ks + 16) 1014 [(4, .int (nI i)), (3, .ref (G.1 + 32)), (2, .ref (G.1 + 13)), (1, .ref (G.1 + 0)), (0, .ref G.2.2.2.1.1)] [] (hp_f G κ μ o rest) Q := by
  refine aw_aload_n dd_lw_law_1014 rfl 3 rfl ?_
  refine aw_aload_n dd_lw_law_1015 rfl 4 rfl ?_
  refine aw_iload dd_lw_law_1016 0 rfl ?_
  refine aw_iconst (v := (nI 1)) dd_lw_law_1018 (by decide) ?_
  refine aw_iadd dd_lw_law_1019 ?_
  refine aw_top (nI_add _ _) ?_
  refine aw_sld (j := i + 1) dd_lw_law_1020 (by omega) (by omega) ?_
  refine aw_aload_n dd_lw_law_1021 rfl 1 rfl ?_
  refine aw_cSe mm_lw_open (kc + 1) (ks + 10) [_, _, _] _ (wc_lw_open G κ μ o rest hK hW (G.2.2.2.1.2.2 (i + 1))) dd_lw_law_1022 cs_lw_138 my_lw_open np_lw_open rfl (Nat.le_of_ble_eq_true rfl) (by omega) (by omega) (Nat.le_of_ble_eq_true rfl) (Nat.le_of_ble_eq_true rfl) (fun w9 h9 hq => ?_)
  obtain ⟨e1, κ', o', rest', rfl, hK', ho⟩ := hq
  subst e1
  refine aw_istore (lv' := [(5, _), (4, _), (3, _), (2, _), (1, _), (0, _)]) dd_lw_law_1025 (by decide) rfl ?_
  refine aw_aload_n dd_lw_law_1027 rfl 3 rfl ?_
  refine aw_aload_n dd_lw_law_1028 rfl 5 rfl ?_
  refine aw_iload dd_lw_law_1029 1 rfl ?_
  refine aw_iconst (v := (nI 1)) dd_lw_law_1031 (by decide) ?_
  refine aw_iadd dd_lw_law_1032 ?_
  refine aw_top (nI_add _ _) ?_
  refine aw_sld (j := i + 1) dd_lw_law_1033 (by omega) (by omega) ?_
  refine aw_cVe mm_mo_open (kc + 1) (ks + 10) _ 5 [_] _ (wc_mo_open G κ' μ o' rest' hM (G.2.2.2.1.2.2 (i + 1))) dd_lw_law_1034 cv_lw_141 my_mo_open np_mo_open rfl rfl rfl (Nat.le_of_ble_eq_true rfl) (by omega) (by omega) (Nat.le_of_ble_eq_true rfl) (Nat.le_of_ble_eq_true rfl) (fun w9 h9 hq => ?_)
  obtain ⟨e2, μ', rfl, hM', hfl⟩ := hq
  refine aw_istore (lv' := [(6, _), (5, _), (4, _), (3, _), (2, _), (1, _), (0, _)]) dd_lw_law_1037 (by decide) rfl ?_
  refine aw_aload_n dd_lw_law_1039 rfl 4 rfl ?_
  refine aw_cVi mm_mo_thrown (kc + 1) (ks + 10) _ 5 [] _ (wc_mo_thrown G κ' μ' o' rest') dd_lw_law_1040 cv_lw_97 my_mo_thrown np_mo_thrown rfl rfl rfl (Nat.le_of_ble_eq_true rfl) (by omega) (by omega) (Nat.le_of_ble_eq_true rfl) (Nat.le_of_ble_eq_true rfl) ?_
  refine aw_top hfl ?_
  refine aw_iload dd_lw_law_1043 1 rfl ?_
  refine aw_icmp_eq (tgt := 1050) dd_lw_law_1045 (by decide) (fun _ => ?_) (fun h9 => absurd (rfl) h9)
  refine aw_iload dd_lw_law_1050 1 rfl ?_
  refine aw_if_ne (tgt := 1067) dd_lw_law_1052 (by decide) (fun hz => ?_) (fun hz => ?_)
  · skip
    refine aw_goto (tgt := 1535) dd_lw_law_1067 (by decide) ?_
    exact aw_lv [2, 3, 4, 5, 6] rfl (aw_le (hend κ' μ' o' rest' hK' hM') (Nat.le_refl _) (Nat.le_refl _) (by omega) (by omega))
  · skip
    refine aw_aload_n dd_lw_law_1055 rfl 3 rfl ?_
    refine aw_iconst (v := (nI 0)) dd_lw_law_1056 (by decide) ?_
    refine aw_lald 32 dd_lw_law_1057 rfl (vp_in_nI (by decide) (by decide)) ?_
    rw [nI_clamp (show 0 < 2 ^ 31 by decide)]
    refine aw_iload dd_lw_law_1058 0 rfl ?_
    refine aw_i2l dd_lw_law_1060 rfl ?_
    refine aw_lcmp dd_lw_law_1061 ?_
    refine aw_if_eq (tgt := 1067) dd_lw_law_1062 (by decide) (fun _ => ?_) (fun h9 => absurd ((lg_cmp_eq _ _).mpr (by rw [ho hz, e2 hz]; rfl)) h9)
    refine aw_goto (tgt := 1535) dd_lw_law_1067 (by decide) ?_
    exact aw_lv [2, 3, 4, 5, 6] rfl (aw_le (hend κ' μ' o' rest' hK' hM') (Nat.le_refl _) (Nat.le_refl _) (by omega) (by omega))
theorem wb_close (G : ag_T) (κ : ck_T) (μ : cm_T) (o : Nat → Int64) (rest : List va_E) {A : aa_T} (hK : rk_R G κ rest A) (hM : rm_R μ A) (hW : wa_W A) {i kc ks : Nat} (hi : i + 5 ≤ G.2.2.2.1.2.1) (hL : G.2.2.2.1.2.1 < 2 ^ 30) {Q : aq_T} (hend : ∀ κ' μ' o' rest', rk_R G κ' rest' (ab_close A (G.2.2.2.1.2.2 (i + 1))).2.2 → rm_R μ' (ab_close A (G.2.2.2.1.2.2 (i + 1))).2.2 → aw_w G mm_lw_law 10 215 kc ks 1535 [(4, .int (nI i)), (3, .ref (G.1 + 32)), (2, .ref (G.1 + 13)), (1, .ref (G.1 + 0)), (0, .ref G.2.2.2.1.1)] [] (hp_f G κ' μ' o' rest') Q) : aw_w G mm_lw_law 10 215 (kc + 2) (ks + 16) 1070 [(4, .int (nI i)), (3, .ref (G.1 + 32)), (2, .ref (G.1 + 13)), (1, .ref (G.1 + 0)), (0, .ref G.2.2.2.1.1)] [] (hp_f G κ μ o rest) Q := by
  refine aw_aload_n dd_lw_law_1070 rfl 3 rfl ?_
  refine aw_aload_n dd_lw_law_1071 rfl 4 rfl ?_
  refine aw_iload dd_lw_law_1072 0 rfl ?_
  refine aw_iconst (v := (nI 1)) dd_lw_law_1074 (by decide) ?_
  refine aw_iadd dd_lw_law_1075 ?_
  refine aw_top (nI_add _ _) ?_
  refine aw_sld (j := i + 1) dd_lw_law_1076 (by omega) (by omega) ?_
  refine aw_cSe mm_lw_close (kc + 1) (ks + 10) [_, _] _ (wc_lw_close G κ μ o rest hK (G.2.2.2.1.2.2 (i + 1))) dd_lw_law_1077 cs_lw_142 my_lw_close np_lw_close rfl (Nat.le_of_ble_eq_true rfl) (by omega) (by omega) (Nat.le_of_ble_eq_true rfl) (Nat.le_of_ble_eq_true rfl) (fun w9 h9 hq => ?_)
  obtain ⟨e1, κ', o', rest', rfl, hK'⟩ := hq
  subst e1
  refine aw_istore (lv' := [(5, _), (4, _), (3, _), (2, _), (1, _), (0, _)]) dd_lw_law_1080 (by decide) rfl ?_
  refine aw_aload_n dd_lw_law_1082 rfl 3 rfl ?_
  refine aw_aload_n dd_lw_law_1083 rfl 5 rfl ?_
  refine aw_iload dd_lw_law_1084 1 rfl ?_
  refine aw_iconst (v := (nI 1)) dd_lw_law_1086 (by decide) ?_
  refine aw_iadd dd_lw_law_1087 ?_
  refine aw_top (nI_add _ _) ?_
  refine aw_sld (j := i + 1) dd_lw_law_1088 (by omega) (by omega) ?_
  refine aw_cVf mm_mo_close (kc + 1) (ks + 10) _ 5 [_] _ (wc_mo_close G κ' μ o' rest' hM (G.2.2.2.1.2.2 (i + 1))) dd_lw_law_1089 cv_lw_145 my_mo_close np_mo_close rfl rfl rfl (Nat.le_of_ble_eq_true rfl) (by omega) (by omega) (Nat.le_of_ble_eq_true rfl) (Nat.le_of_ble_eq_true rfl) (fun h9 hq => ?_)
  obtain ⟨μ', rfl, hM', hfl⟩ := hq
  refine aw_aload_n dd_lw_law_1092 rfl 3 rfl ?_
  refine aw_cVi mm_mo_thrown (kc + 1) (ks + 10) _ 5 [] _ (wc_mo_thrown G κ' μ' o' rest') dd_lw_law_1093 cv_lw_97 my_mo_thrown np_mo_thrown rfl rfl rfl (Nat.le_of_ble_eq_true rfl) (by omega) (by omega) (Nat.le_of_ble_eq_true rfl) (Nat.le_of_ble_eq_true rfl) ?_
  refine aw_top hfl ?_
  refine aw_iload dd_lw_law_1096 0 rfl ?_
  refine aw_icmp_eq (tgt := 1103) dd_lw_law_1098 (by decide) (fun _ => ?_) (fun h9 => absurd (rfl) h9)
  refine aw_goto (tgt := 1535) dd_lw_law_1103 (by decide) ?_
  exact aw_lv [1, 2, 3, 4, 5] rfl (aw_le (hend κ' μ' o' rest' hK' hM') (Nat.le_refl _) (Nat.le_refl _) (by omega) (by omega))
theorem wb_activate (G : ag_T) (κ : ck_T) (μ : cm_T) (o : Nat → Int64) (rest : List va_E) {A : aa_T} (hK : rk_R G κ rest A) (hM : rm_R μ A) (hW : wa_W A) {i kc ks : Nat} (hi : i + 5 ≤ G.2.2.2.1.2.1) (hL : G.2.2.2.1.2.1 < 2 ^ 30) {Q : aq_T} (hend : ∀ κ' μ' o' rest', rk_R G κ' rest' (ab_activate A (G.2.2.2.1.2.2 (i + 1)) (G.2.2.2.1.2.2 (i + 2))).2.2 → rm_R μ' (ab_activate A (G.2.2.2.1.2.2 (i + 1)) (G.2.2.2.1.2.2 (i + 2))).2.2 → aw_w G mm_lw_law 10 215 kc ks 1535 [(4, .int (nI i)), (3, .ref (G.1 + 32)), (2, .ref (G.1 + 13)), (1, .ref (G.1 + 0)), (0, .ref G.2.2.2.1.1)] [] (hp_f G κ' μ' o' rest') Q) : aw_w G mm_lw_law 10 215 (kc + 2) (ks + 16) 1106 [(4, .int (nI i)), (3, .ref (G.1 + 32)), (2, .ref (G.1 + 13)), (1, .ref (G.1 + 0)), (0, .ref G.2.2.2.1.1)] [] (hp_f G κ μ o rest) Q := by
  refine aw_aload_n dd_lw_law_1106 rfl 3 rfl ?_
  refine aw_aload_n dd_lw_law_1107 rfl 4 rfl ?_
  refine aw_iload dd_lw_law_1108 0 rfl ?_
  refine aw_iconst (v := (nI 1)) dd_lw_law_1110 (by decide) ?_
  refine aw_iadd dd_lw_law_1111 ?_
  refine aw_top (nI_add _ _) ?_
  refine aw_sld (j := i + 1) dd_lw_law_1112 (by omega) (by omega) ?_
  refine aw_aload_n dd_lw_law_1113 rfl 4 rfl ?_
  refine aw_iload dd_lw_law_1114 0 rfl ?_
  refine aw_iconst (v := (nI 2)) dd_lw_law_1116 (by decide) ?_
  refine aw_iadd dd_lw_law_1117 ?_
  refine aw_top (nI_add _ _) ?_
  refine aw_sld (j := i + 2) dd_lw_law_1118 (by omega) (by omega) ?_
  refine aw_aload_n dd_lw_law_1119 rfl 1 rfl ?_
  refine aw_cSe mm_lw_activate (kc + 1) (ks + 10) [_, _, _, _] _ (wc_lw_activate G κ μ o rest hK (G.2.2.2.1.2.2 (i + 1)) (G.2.2.2.1.2.2 (i + 2))) dd_lw_law_1120 cs_lw_146 my_lw_activate np_lw_activate rfl (Nat.le_of_ble_eq_true rfl) (by omega) (by omega) (Nat.le_of_ble_eq_true rfl) (Nat.le_of_ble_eq_true rfl) (fun w9 h9 hq => ?_)
  obtain ⟨e1, κ', o', rest', rfl, hK', ho⟩ := hq
  subst e1
  refine aw_istore (lv' := [(5, _), (4, _), (3, _), (2, _), (1, _), (0, _)]) dd_lw_law_1123 (by decide) rfl ?_
  refine aw_aload_n dd_lw_law_1125 rfl 3 rfl ?_
  refine aw_aload_n dd_lw_law_1126 rfl 5 rfl ?_
  refine aw_iload dd_lw_law_1127 1 rfl ?_
  refine aw_iconst (v := (nI 1)) dd_lw_law_1129 (by decide) ?_
  refine aw_iadd dd_lw_law_1130 ?_
  refine aw_top (nI_add _ _) ?_
  refine aw_sld (j := i + 1) dd_lw_law_1131 (by omega) (by omega) ?_
  refine aw_aload_n dd_lw_law_1132 rfl 5 rfl ?_
  refine aw_iload dd_lw_law_1133 1 rfl ?_
  refine aw_iconst (v := (nI 2)) dd_lw_law_1135 (by decide) ?_
  refine aw_iadd dd_lw_law_1136 ?_
  refine aw_top (nI_add _ _) ?_
  refine aw_sld (j := i + 2) dd_lw_law_1137 (by omega) (by omega) ?_
  refine aw_cVe mm_mo_activate (kc + 1) (ks + 10) _ 5 [_, _] _ (wc_mo_activate G κ' μ o' rest' hM (G.2.2.2.1.2.2 (i + 1)) (G.2.2.2.1.2.2 (i + 2))) dd_lw_law_1138 cv_lw_148 my_mo_activate np_mo_activate rfl rfl rfl (Nat.le_of_ble_eq_true rfl) (by omega) (by omega) (Nat.le_of_ble_eq_true rfl) (Nat.le_of_ble_eq_true rfl) (fun w9 h9 hq => ?_)
  obtain ⟨e2, μ', rfl, hM', hfl⟩ := hq
  refine aw_istore (lv' := [(6, _), (5, _), (4, _), (3, _), (2, _), (1, _), (0, _)]) dd_lw_law_1141 (by decide) rfl ?_
  refine aw_aload_n dd_lw_law_1143 rfl 4 rfl ?_
  refine aw_cVi mm_mo_thrown (kc + 1) (ks + 10) _ 5 [] _ (wc_mo_thrown G κ' μ' o' rest') dd_lw_law_1144 cv_lw_97 my_mo_thrown np_mo_thrown rfl rfl rfl (Nat.le_of_ble_eq_true rfl) (by omega) (by omega) (Nat.le_of_ble_eq_true rfl) (Nat.le_of_ble_eq_true rfl) ?_
  refine aw_top hfl ?_
  refine aw_iload dd_lw_law_1147 1 rfl ?_
  refine aw_icmp_eq (tgt := 1154) dd_lw_law_1149 (by decide) (fun _ => ?_) (fun h9 => absurd (rfl) h9)
  refine aw_iload dd_lw_law_1154 1 rfl ?_
  refine aw_if_ne (tgt := 1178) dd_lw_law_1156 (by decide) (fun hz => ?_) (fun hz => ?_)
  · skip
    refine aw_goto (tgt := 1535) dd_lw_law_1178 (by decide) ?_
    exact aw_lv [2, 3, 4, 5, 6] rfl (aw_le (hend κ' μ' o' rest' hK' hM') (Nat.le_refl _) (Nat.le_refl _) (by omega) (by omega))
  · skip
    refine aw_aload_n dd_lw_law_1159 rfl 3 rfl ?_
    refine aw_iconst (v := (nI 0)) dd_lw_law_1160 (by decide) ?_
    refine aw_lald 32 dd_lw_law_1161 rfl (vp_in_nI (by decide) (by decide)) ?_
    rw [nI_clamp (show 0 < 2 ^ 31 by decide)]
    refine aw_iload dd_lw_law_1162 0 rfl ?_
    refine aw_if_eq (tgt := 1171) dd_lw_law_1164 (by decide) (fun hbb => ?_) (fun hbb => ?_)
    · refine aw_lconst (v := 0) dd_lw_law_1171 (by decide) ?_
      refine aw_lcmp dd_lw_law_1172 ?_
      refine aw_if_eq (tgt := 1178) dd_lw_law_1173 (by decide) (fun _ => ?_) (fun h9 => absurd ((lg_cmp_eq _ _).mpr (by rw [ho hz, ← e2 hz]; first | exact if_pos hbb | exact if_neg hbb)) h9)
      refine aw_goto (tgt := 1535) dd_lw_law_1178 (by decide) ?_
      exact aw_lv [2, 3, 4, 5, 6] rfl (aw_le (hend κ' μ' o' rest' hK' hM') (Nat.le_refl _) (Nat.le_refl _) (by omega) (by omega))
    · refine aw_lconst (v := 1) dd_lw_law_1167 (by decide) ?_
      refine aw_goto (tgt := 1172) dd_lw_law_1168 (by decide) ?_
      refine aw_lcmp dd_lw_law_1172 ?_
      refine aw_if_eq (tgt := 1178) dd_lw_law_1173 (by decide) (fun _ => ?_) (fun h9 => absurd ((lg_cmp_eq _ _).mpr (by rw [ho hz, ← e2 hz]; first | exact if_pos hbb | exact if_neg hbb)) h9)
      refine aw_goto (tgt := 1535) dd_lw_law_1178 (by decide) ?_
      exact aw_lv [2, 3, 4, 5, 6] rfl (aw_le (hend κ' μ' o' rest' hK' hM') (Nat.le_refl _) (Nat.le_refl _) (by omega) (by omega))
theorem wb_rest (G : ag_T) (κ : ck_T) (μ : cm_T) (o : Nat → Int64) (rest : List va_E) {A : aa_T} (hK : rk_R G κ rest A) (hM : rm_R μ A) (hW : wa_W A) {i kc ks : Nat} (hi : i + 5 ≤ G.2.2.2.1.2.1) (hL : G.2.2.2.1.2.1 < 2 ^ 30) {Q : aq_T} (hend : ∀ κ' μ' o' rest', rk_R G κ' rest' (ab_rest A (G.2.2.2.1.2.2 (i + 1)) (G.2.2.2.1.2.2 (i + 2))).2.2 → rm_R μ' (ab_rest A (G.2.2.2.1.2.2 (i + 1)) (G.2.2.2.1.2.2 (i + 2))).2.2 → aw_w G mm_lw_law 10 215 kc ks 1535 [(4, .int (nI i)), (3, .ref (G.1 + 32)), (2, .ref (G.1 + 13)), (1, .ref (G.1 + 0)), (0, .ref G.2.2.2.1.1)] [] (hp_f G κ' μ' o' rest') Q) : aw_w G mm_lw_law 10 215 (kc + 2) (ks + 16) 1181 [(4, .int (nI i)), (3, .ref (G.1 + 32)), (2, .ref (G.1 + 13)), (1, .ref (G.1 + 0)), (0, .ref G.2.2.2.1.1)] [] (hp_f G κ μ o rest) Q := by
  refine aw_aload_n dd_lw_law_1181 rfl 3 rfl ?_
  refine aw_aload_n dd_lw_law_1182 rfl 4 rfl ?_
  refine aw_iload dd_lw_law_1183 0 rfl ?_
  refine aw_iconst (v := (nI 1)) dd_lw_law_1185 (by decide) ?_
  refine aw_iadd dd_lw_law_1186 ?_
  refine aw_top (nI_add _ _) ?_
  refine aw_sld (j := i + 1) dd_lw_law_1187 (by omega) (by omega) ?_
  refine aw_aload_n dd_lw_law_1188 rfl 4 rfl ?_
  refine aw_iload dd_lw_law_1189 0 rfl ?_
  refine aw_iconst (v := (nI 2)) dd_lw_law_1191 (by decide) ?_
  refine aw_iadd dd_lw_law_1192 ?_
  refine aw_top (nI_add _ _) ?_
  refine aw_sld (j := i + 2) dd_lw_law_1193 (by omega) (by omega) ?_
  refine aw_aload_n dd_lw_law_1194 rfl 1 rfl ?_
  refine aw_cSe mm_lw_rest (kc + 1) (ks + 10) [_, _, _, _] _ (wc_lw_rest G κ μ o rest hK (G.2.2.2.1.2.2 (i + 1)) (G.2.2.2.1.2.2 (i + 2))) dd_lw_law_1195 cs_lw_149 my_lw_rest np_lw_rest rfl (Nat.le_of_ble_eq_true rfl) (by omega) (by omega) (Nat.le_of_ble_eq_true rfl) (Nat.le_of_ble_eq_true rfl) (fun w9 h9 hq => ?_)
  obtain ⟨e1, κ', o', rest', rfl, hK', ho⟩ := hq
  subst e1
  refine aw_istore (lv' := [(5, _), (4, _), (3, _), (2, _), (1, _), (0, _)]) dd_lw_law_1198 (by decide) rfl ?_
  refine aw_aload_n dd_lw_law_1200 rfl 3 rfl ?_
  refine aw_aload_n dd_lw_law_1201 rfl 5 rfl ?_
  refine aw_iload dd_lw_law_1202 1 rfl ?_
  refine aw_iconst (v := (nI 1)) dd_lw_law_1204 (by decide) ?_
  refine aw_iadd dd_lw_law_1205 ?_
  refine aw_top (nI_add _ _) ?_
  refine aw_sld (j := i + 1) dd_lw_law_1206 (by omega) (by omega) ?_
  refine aw_aload_n dd_lw_law_1207 rfl 5 rfl ?_
  refine aw_iload dd_lw_law_1208 1 rfl ?_
  refine aw_iconst (v := (nI 2)) dd_lw_law_1210 (by decide) ?_
  refine aw_iadd dd_lw_law_1211 ?_
  refine aw_top (nI_add _ _) ?_
  refine aw_sld (j := i + 2) dd_lw_law_1212 (by omega) (by omega) ?_
  refine aw_cVe mm_mo_rest (kc + 1) (ks + 10) _ 5 [_, _] _ (wc_mo_rest G κ' μ o' rest' hM (G.2.2.2.1.2.2 (i + 1)) (G.2.2.2.1.2.2 (i + 2))) dd_lw_law_1213 cv_lw_151 my_mo_rest np_mo_rest rfl rfl rfl (Nat.le_of_ble_eq_true rfl) (by omega) (by omega) (Nat.le_of_ble_eq_true rfl) (Nat.le_of_ble_eq_true rfl) (fun w9 h9 hq => ?_)
  obtain ⟨e2, μ', rfl, hM', hfl⟩ := hq
  refine aw_istore (lv' := [(6, _), (5, _), (4, _), (3, _), (2, _), (1, _), (0, _)]) dd_lw_law_1216 (by decide) rfl ?_
  refine aw_aload_n dd_lw_law_1218 rfl 4 rfl ?_
  refine aw_cVi mm_mo_thrown (kc + 1) (ks + 10) _ 5 [] _ (wc_mo_thrown G κ' μ' o' rest') dd_lw_law_1219 cv_lw_97 my_mo_thrown np_mo_thrown rfl rfl rfl (Nat.le_of_ble_eq_true rfl) (by omega) (by omega) (Nat.le_of_ble_eq_true rfl) (Nat.le_of_ble_eq_true rfl) ?_
  refine aw_top hfl ?_
  refine aw_iload dd_lw_law_1222 1 rfl ?_
  refine aw_icmp_eq (tgt := 1229) dd_lw_law_1224 (by decide) (fun _ => ?_) (fun h9 => absurd (rfl) h9)
  refine aw_iload dd_lw_law_1229 1 rfl ?_
  refine aw_if_ne (tgt := 1253) dd_lw_law_1231 (by decide) (fun hz => ?_) (fun hz => ?_)
  · skip
    refine aw_goto (tgt := 1535) dd_lw_law_1253 (by decide) ?_
    exact aw_lv [2, 3, 4, 5, 6] rfl (aw_le (hend κ' μ' o' rest' hK' hM') (Nat.le_refl _) (Nat.le_refl _) (by omega) (by omega))
  · skip
    refine aw_aload_n dd_lw_law_1234 rfl 3 rfl ?_
    refine aw_iconst (v := (nI 0)) dd_lw_law_1235 (by decide) ?_
    refine aw_lald 32 dd_lw_law_1236 rfl (vp_in_nI (by decide) (by decide)) ?_
    rw [nI_clamp (show 0 < 2 ^ 31 by decide)]
    refine aw_iload dd_lw_law_1237 0 rfl ?_
    refine aw_if_eq (tgt := 1246) dd_lw_law_1239 (by decide) (fun hbb => ?_) (fun hbb => ?_)
    · refine aw_lconst (v := 0) dd_lw_law_1246 (by decide) ?_
      refine aw_lcmp dd_lw_law_1247 ?_
      refine aw_if_eq (tgt := 1253) dd_lw_law_1248 (by decide) (fun _ => ?_) (fun h9 => absurd ((lg_cmp_eq _ _).mpr (by rw [ho hz, ← e2 hz]; first | exact if_pos hbb | exact if_neg hbb)) h9)
      refine aw_goto (tgt := 1535) dd_lw_law_1253 (by decide) ?_
      exact aw_lv [2, 3, 4, 5, 6] rfl (aw_le (hend κ' μ' o' rest' hK' hM') (Nat.le_refl _) (Nat.le_refl _) (by omega) (by omega))
    · refine aw_lconst (v := 1) dd_lw_law_1242 (by decide) ?_
      refine aw_goto (tgt := 1247) dd_lw_law_1243 (by decide) ?_
      refine aw_lcmp dd_lw_law_1247 ?_
      refine aw_if_eq (tgt := 1253) dd_lw_law_1248 (by decide) (fun _ => ?_) (fun h9 => absurd ((lg_cmp_eq _ _).mpr (by rw [ho hz, ← e2 hz]; first | exact if_pos hbb | exact if_neg hbb)) h9)
      refine aw_goto (tgt := 1535) dd_lw_law_1253 (by decide) ?_
      exact aw_lv [2, 3, 4, 5, 6] rfl (aw_le (hend κ' μ' o' rest' hK' hM') (Nat.le_refl _) (Nat.le_refl _) (by omega) (by omega))
theorem wb_active (G : ag_T) (κ : ck_T) (μ : cm_T) (o : Nat → Int64) (rest : List va_E) {A : aa_T} (hK : rk_R G κ rest A) (hM : rm_R μ A) (hW : wa_W A) {i kc ks : Nat} (hi : i + 5 ≤ G.2.2.2.1.2.1) (hL : G.2.2.2.1.2.1 < 2 ^ 30) {Q : aq_T} (hend : ∀ κ' μ' o' rest', rk_R G κ' rest' (ab_active A (G.2.2.2.1.2.2 (i + 1))).2.2 → rm_R μ' (ab_active A (G.2.2.2.1.2.2 (i + 1))).2.2 → aw_w G mm_lw_law 10 215 kc ks 1535 [(4, .int (nI i)), (3, .ref (G.1 + 32)), (2, .ref (G.1 + 13)), (1, .ref (G.1 + 0)), (0, .ref G.2.2.2.1.1)] [] (hp_f G κ' μ' o' rest') Q) : aw_w G mm_lw_law 10 215 (kc + 2) (ks + 16) 1256 [(4, .int (nI i)), (3, .ref (G.1 + 32)), (2, .ref (G.1 + 13)), (1, .ref (G.1 + 0)), (0, .ref G.2.2.2.1.1)] [] (hp_f G κ μ o rest) Q := by
  refine aw_aload_n dd_lw_law_1256 rfl 3 rfl ?_
  refine aw_aload_n dd_lw_law_1257 rfl 4 rfl ?_
  refine aw_iload dd_lw_law_1258 0 rfl ?_
  refine aw_iconst (v := (nI 1)) dd_lw_law_1260 (by decide) ?_
  refine aw_iadd dd_lw_law_1261 ?_
  refine aw_top (nI_add _ _) ?_
  refine aw_sld (j := i + 1) dd_lw_law_1262 (by omega) (by omega) ?_
  refine aw_aload_n dd_lw_law_1263 rfl 1 rfl ?_
  refine aw_cSe mm_lw_active (kc + 1) (ks + 10) [_, _, _] _ (wc_lw_active G κ μ o rest hK (G.2.2.2.1.2.2 (i + 1))) dd_lw_law_1264 cs_lw_152 my_lw_active np_lw_active rfl (Nat.le_of_ble_eq_true rfl) (by omega) (by omega) (Nat.le_of_ble_eq_true rfl) (Nat.le_of_ble_eq_true rfl) (fun w9 h9 hq => ?_)
  obtain ⟨e1, κ', o', rest', rfl, hK', ho⟩ := hq
  subst e1
  refine aw_istore (lv' := [(5, _), (4, _), (3, _), (2, _), (1, _), (0, _)]) dd_lw_law_1267 (by decide) rfl ?_
  refine aw_aload_n dd_lw_law_1269 rfl 3 rfl ?_
  refine aw_aload_n dd_lw_law_1270 rfl 5 rfl ?_
  refine aw_iload dd_lw_law_1271 1 rfl ?_
  refine aw_iconst (v := (nI 1)) dd_lw_law_1273 (by decide) ?_
  refine aw_iadd dd_lw_law_1274 ?_
  refine aw_top (nI_add _ _) ?_
  refine aw_sld (j := i + 1) dd_lw_law_1275 (by omega) (by omega) ?_
  refine aw_cVe mm_mo_active (kc + 1) (ks + 10) _ 5 [_] _ (wc_mo_active G κ' μ o' rest' hM (G.2.2.2.1.2.2 (i + 1))) dd_lw_law_1276 cv_lw_154 my_mo_active np_mo_active rfl rfl rfl (Nat.le_of_ble_eq_true rfl) (by omega) (by omega) (Nat.le_of_ble_eq_true rfl) (Nat.le_of_ble_eq_true rfl) (fun w9 h9 hq => ?_)
  obtain ⟨e2, μ', rfl, hM', hfl⟩ := hq
  refine aw_istore (lv' := [(6, _), (5, _), (4, _), (3, _), (2, _), (1, _), (0, _)]) dd_lw_law_1279 (by decide) rfl ?_
  refine aw_aload_n dd_lw_law_1281 rfl 4 rfl ?_
  refine aw_cVi mm_mo_thrown (kc + 1) (ks + 10) _ 5 [] _ (wc_mo_thrown G κ' μ' o' rest') dd_lw_law_1282 cv_lw_97 my_mo_thrown np_mo_thrown rfl rfl rfl (Nat.le_of_ble_eq_true rfl) (by omega) (by omega) (Nat.le_of_ble_eq_true rfl) (Nat.le_of_ble_eq_true rfl) ?_
  refine aw_top hfl ?_
  refine aw_iload dd_lw_law_1285 1 rfl ?_
  refine aw_icmp_eq (tgt := 1292) dd_lw_law_1287 (by decide) (fun _ => ?_) (fun h9 => absurd (rfl) h9)
  refine aw_iload dd_lw_law_1292 1 rfl ?_
  refine aw_if_ne (tgt := 1309) dd_lw_law_1294 (by decide) (fun hz => ?_) (fun hz => ?_)
  · skip
    refine aw_goto (tgt := 1535) dd_lw_law_1309 (by decide) ?_
    exact aw_lv [2, 3, 4, 5, 6] rfl (aw_le (hend κ' μ' o' rest' hK' hM') (Nat.le_refl _) (Nat.le_refl _) (by omega) (by omega))
  · skip
    refine aw_aload_n dd_lw_law_1297 rfl 3 rfl ?_
    refine aw_iconst (v := (nI 0)) dd_lw_law_1298 (by decide) ?_
    refine aw_lald 32 dd_lw_law_1299 rfl (vp_in_nI (by decide) (by decide)) ?_
    rw [nI_clamp (show 0 < 2 ^ 31 by decide)]
    refine aw_iload dd_lw_law_1300 0 rfl ?_
    refine aw_i2l dd_lw_law_1302 rfl ?_
    refine aw_lcmp dd_lw_law_1303 ?_
    refine aw_if_eq (tgt := 1309) dd_lw_law_1304 (by decide) (fun _ => ?_) (fun h9 => absurd ((lg_cmp_eq _ _).mpr (by rw [ho hz, e2 hz]; rfl)) h9)
    refine aw_goto (tgt := 1535) dd_lw_law_1309 (by decide) ?_
    exact aw_lv [2, 3, 4, 5, 6] rfl (aw_le (hend κ' μ' o' rest' hK' hM') (Nat.le_refl _) (Nat.le_refl _) (by omega) (by omega))
theorem wb_may (G : ag_T) (κ : ck_T) (μ : cm_T) (o : Nat → Int64) (rest : List va_E) {A : aa_T} (hK : rk_R G κ rest A) (hM : rm_R μ A) (hW : wa_W A) {i kc ks : Nat} (hi : i + 5 ≤ G.2.2.2.1.2.1) (hL : G.2.2.2.1.2.1 < 2 ^ 30) {Q : aq_T} (hend : ∀ κ' μ' o' rest', rk_R G κ' rest' (ab_may A (G.2.2.2.1.2.2 (i + 1)) (G.2.2.2.1.2.2 (i + 2))).2.2 → rm_R μ' (ab_may A (G.2.2.2.1.2.2 (i + 1)) (G.2.2.2.1.2.2 (i + 2))).2.2 → aw_w G mm_lw_law 10 215 kc ks 1535 [(4, .int (nI i)), (3, .ref (G.1 + 32)), (2, .ref (G.1 + 13)), (1, .ref (G.1 + 0)), (0, .ref G.2.2.2.1.1)] [] (hp_f G κ' μ' o' rest') Q) : aw_w G mm_lw_law 10 215 (kc + 2) (ks + 16) 1312 [(4, .int (nI i)), (3, .ref (G.1 + 32)), (2, .ref (G.1 + 13)), (1, .ref (G.1 + 0)), (0, .ref G.2.2.2.1.1)] [] (hp_f G κ μ o rest) Q := by
  refine aw_aload_n dd_lw_law_1312 rfl 3 rfl ?_
  refine aw_aload_n dd_lw_law_1313 rfl 4 rfl ?_
  refine aw_iload dd_lw_law_1314 0 rfl ?_
  refine aw_iconst (v := (nI 1)) dd_lw_law_1316 (by decide) ?_
  refine aw_iadd dd_lw_law_1317 ?_
  refine aw_top (nI_add _ _) ?_
  refine aw_sld (j := i + 1) dd_lw_law_1318 (by omega) (by omega) ?_
  refine aw_aload_n dd_lw_law_1319 rfl 4 rfl ?_
  refine aw_iload dd_lw_law_1320 0 rfl ?_
  refine aw_iconst (v := (nI 2)) dd_lw_law_1322 (by decide) ?_
  refine aw_iadd dd_lw_law_1323 ?_
  refine aw_top (nI_add _ _) ?_
  refine aw_sld (j := i + 2) dd_lw_law_1324 (by omega) (by omega) ?_
  refine aw_aload_n dd_lw_law_1325 rfl 1 rfl ?_
  refine aw_cSe mm_lw_may (kc + 1) (ks + 10) [_, _, _, _] _ (wc_lw_may G κ μ o rest hK (G.2.2.2.1.2.2 (i + 1)) (G.2.2.2.1.2.2 (i + 2))) dd_lw_law_1326 cs_lw_155 my_lw_may np_lw_may rfl (Nat.le_of_ble_eq_true rfl) (by omega) (by omega) (Nat.le_of_ble_eq_true rfl) (Nat.le_of_ble_eq_true rfl) (fun w9 h9 hq => ?_)
  obtain ⟨e1, κ', o', rest', rfl, hK', ho⟩ := hq
  subst e1
  refine aw_istore (lv' := [(5, _), (4, _), (3, _), (2, _), (1, _), (0, _)]) dd_lw_law_1329 (by decide) rfl ?_
  refine aw_aload_n dd_lw_law_1331 rfl 3 rfl ?_
  refine aw_aload_n dd_lw_law_1332 rfl 5 rfl ?_
  refine aw_iload dd_lw_law_1333 1 rfl ?_
  refine aw_iconst (v := (nI 1)) dd_lw_law_1335 (by decide) ?_
  refine aw_iadd dd_lw_law_1336 ?_
  refine aw_top (nI_add _ _) ?_
  refine aw_sld (j := i + 1) dd_lw_law_1337 (by omega) (by omega) ?_
  refine aw_aload_n dd_lw_law_1338 rfl 5 rfl ?_
  refine aw_iload dd_lw_law_1339 1 rfl ?_
  refine aw_iconst (v := (nI 2)) dd_lw_law_1341 (by decide) ?_
  refine aw_iadd dd_lw_law_1342 ?_
  refine aw_top (nI_add _ _) ?_
  refine aw_sld (j := i + 2) dd_lw_law_1343 (by omega) (by omega) ?_
  refine aw_cVe mm_mo_may (kc + 1) (ks + 10) _ 5 [_, _] _ (wc_mo_may G κ' μ o' rest' hM (G.2.2.2.1.2.2 (i + 1)) (G.2.2.2.1.2.2 (i + 2))) dd_lw_law_1344 cv_lw_157 my_mo_may np_mo_may rfl rfl rfl (Nat.le_of_ble_eq_true rfl) (by omega) (by omega) (Nat.le_of_ble_eq_true rfl) (Nat.le_of_ble_eq_true rfl) (fun w9 h9 hq => ?_)
  obtain ⟨e2, μ', rfl, hM', hfl⟩ := hq
  refine aw_istore (lv' := [(6, _), (5, _), (4, _), (3, _), (2, _), (1, _), (0, _)]) dd_lw_law_1347 (by decide) rfl ?_
  refine aw_aload_n dd_lw_law_1349 rfl 4 rfl ?_
  refine aw_cVi mm_mo_thrown (kc + 1) (ks + 10) _ 5 [] _ (wc_mo_thrown G κ' μ' o' rest') dd_lw_law_1350 cv_lw_97 my_mo_thrown np_mo_thrown rfl rfl rfl (Nat.le_of_ble_eq_true rfl) (by omega) (by omega) (Nat.le_of_ble_eq_true rfl) (Nat.le_of_ble_eq_true rfl) ?_
  refine aw_top hfl ?_
  refine aw_iload dd_lw_law_1353 1 rfl ?_
  refine aw_icmp_eq (tgt := 1360) dd_lw_law_1355 (by decide) (fun _ => ?_) (fun h9 => absurd (rfl) h9)
  refine aw_iload dd_lw_law_1360 1 rfl ?_
  refine aw_if_ne (tgt := 1384) dd_lw_law_1362 (by decide) (fun hz => ?_) (fun hz => ?_)
  · skip
    refine aw_goto (tgt := 1535) dd_lw_law_1384 (by decide) ?_
    exact aw_lv [2, 3, 4, 5, 6] rfl (aw_le (hend κ' μ' o' rest' hK' hM') (Nat.le_refl _) (Nat.le_refl _) (by omega) (by omega))
  · skip
    refine aw_aload_n dd_lw_law_1365 rfl 3 rfl ?_
    refine aw_iconst (v := (nI 0)) dd_lw_law_1366 (by decide) ?_
    refine aw_lald 32 dd_lw_law_1367 rfl (vp_in_nI (by decide) (by decide)) ?_
    rw [nI_clamp (show 0 < 2 ^ 31 by decide)]
    refine aw_iload dd_lw_law_1368 0 rfl ?_
    refine aw_if_eq (tgt := 1377) dd_lw_law_1370 (by decide) (fun hbb => ?_) (fun hbb => ?_)
    · refine aw_lconst (v := 0) dd_lw_law_1377 (by decide) ?_
      refine aw_lcmp dd_lw_law_1378 ?_
      refine aw_if_eq (tgt := 1384) dd_lw_law_1379 (by decide) (fun _ => ?_) (fun h9 => absurd ((lg_cmp_eq _ _).mpr (by rw [ho hz, ← e2 hz]; first | exact if_pos hbb | exact if_neg hbb)) h9)
      refine aw_goto (tgt := 1535) dd_lw_law_1384 (by decide) ?_
      exact aw_lv [2, 3, 4, 5, 6] rfl (aw_le (hend κ' μ' o' rest' hK' hM') (Nat.le_refl _) (Nat.le_refl _) (by omega) (by omega))
    · refine aw_lconst (v := 1) dd_lw_law_1373 (by decide) ?_
      refine aw_goto (tgt := 1378) dd_lw_law_1374 (by decide) ?_
      refine aw_lcmp dd_lw_law_1378 ?_
      refine aw_if_eq (tgt := 1384) dd_lw_law_1379 (by decide) (fun _ => ?_) (fun h9 => absurd ((lg_cmp_eq _ _).mpr (by rw [ho hz, ← e2 hz]; first | exact if_pos hbb | exact if_neg hbb)) h9)
      refine aw_goto (tgt := 1535) dd_lw_law_1384 (by decide) ?_
      exact aw_lv [2, 3, 4, 5, 6] rfl (aw_le (hend κ' μ' o' rest' hK' hM') (Nat.le_refl _) (Nat.le_refl _) (by omega) (by omega))
theorem wb_distance (G : ag_T) (κ : ck_T) (μ : cm_T) (o : Nat → Int64) (rest : List va_E) {A : aa_T} (hK : rk_R G κ rest A) (hM : rm_R μ A) (hW : wa_W A) {i kc ks : Nat} (hi : i + 5 ≤ G.2.2.2.1.2.1) (hL : G.2.2.2.1.2.1 < 2 ^ 30) {Q : aq_T} (hend : ∀ κ' μ' o' rest', rk_R G κ' rest' (ab_distance A (G.2.2.2.1.2.2 (i + 1)) (G.2.2.2.1.2.2 (i + 2))).2.2 → rm_R μ' (ab_distance A (G.2.2.2.1.2.2 (i + 1)) (G.2.2.2.1.2.2 (i + 2))).2.2 → aw_w G mm_lw_law 10 215 kc ks 1535 [(4, .int (nI i)), (3, .ref (G.1 + 32)), (2, .ref (G.1 + 13)), (1, .ref (G.1 + 0)), (0, .ref G.2.2.2.1.1)] [] (hp_f G κ' μ' o' rest') Q) : aw_w G mm_lw_law 10 215 (kc + 2) (ks + 16) 1387 [(4, .int (nI i)), (3, .ref (G.1 + 32)), (2, .ref (G.1 + 13)), (1, .ref (G.1 + 0)), (0, .ref G.2.2.2.1.1)] [] (hp_f G κ μ o rest) Q := by
  refine aw_aload_n dd_lw_law_1387 rfl 3 rfl ?_
  refine aw_aload_n dd_lw_law_1388 rfl 4 rfl ?_
  refine aw_iload dd_lw_law_1389 0 rfl ?_
  refine aw_iconst (v := (nI 1)) dd_lw_law_1391 (by decide) ?_
  refine aw_iadd dd_lw_law_1392 ?_
  refine aw_top (nI_add _ _) ?_
  refine aw_sld (j := i + 1) dd_lw_law_1393 (by omega) (by omega) ?_
  refine aw_aload_n dd_lw_law_1394 rfl 4 rfl ?_
  refine aw_iload dd_lw_law_1395 0 rfl ?_
  refine aw_iconst (v := (nI 2)) dd_lw_law_1397 (by decide) ?_
  refine aw_iadd dd_lw_law_1398 ?_
  refine aw_top (nI_add _ _) ?_
  refine aw_sld (j := i + 2) dd_lw_law_1399 (by omega) (by omega) ?_
  refine aw_aload_n dd_lw_law_1400 rfl 1 rfl ?_
  refine aw_cSe mm_lw_distance (kc + 1) (ks + 10) [_, _, _, _] _ (wc_lw_distance G κ μ o rest hK hW (G.2.2.2.1.2.2 (i + 1)) (G.2.2.2.1.2.2 (i + 2))) dd_lw_law_1401 cs_lw_158 my_lw_distance np_lw_distance rfl (Nat.le_of_ble_eq_true rfl) (by omega) (by omega) (Nat.le_of_ble_eq_true rfl) (Nat.le_of_ble_eq_true rfl) (fun w9 h9 hq => ?_)
  obtain ⟨e1, κ', o', rest', rfl, hK', ho⟩ := hq
  subst e1
  refine aw_istore (lv' := [(5, _), (4, _), (3, _), (2, _), (1, _), (0, _)]) dd_lw_law_1404 (by decide) rfl ?_
  refine aw_aload_n dd_lw_law_1406 rfl 3 rfl ?_
  refine aw_aload_n dd_lw_law_1407 rfl 5 rfl ?_
  refine aw_iload dd_lw_law_1408 1 rfl ?_
  refine aw_iconst (v := (nI 1)) dd_lw_law_1410 (by decide) ?_
  refine aw_iadd dd_lw_law_1411 ?_
  refine aw_top (nI_add _ _) ?_
  refine aw_sld (j := i + 1) dd_lw_law_1412 (by omega) (by omega) ?_
  refine aw_aload_n dd_lw_law_1413 rfl 5 rfl ?_
  refine aw_iload dd_lw_law_1414 1 rfl ?_
  refine aw_iconst (v := (nI 2)) dd_lw_law_1416 (by decide) ?_
  refine aw_iadd dd_lw_law_1417 ?_
  refine aw_top (nI_add _ _) ?_
  refine aw_sld (j := i + 2) dd_lw_law_1418 (by omega) (by omega) ?_
  refine aw_cVe mm_mo_distance (kc + 1) (ks + 10) _ 5 [_, _] _ (wc_mo_distance G κ' μ o' rest' hM hW (G.2.2.2.1.2.2 (i + 1)) (G.2.2.2.1.2.2 (i + 2))) dd_lw_law_1419 cv_lw_160 my_mo_distance np_mo_distance rfl rfl rfl (Nat.le_of_ble_eq_true rfl) (by omega) (by omega) (Nat.le_of_ble_eq_true rfl) (Nat.le_of_ble_eq_true rfl) (fun w9 h9 hq => ?_)
  obtain ⟨e2, μ', rfl, hM', hfl⟩ := hq
  refine aw_istore (lv' := [(6, _), (5, _), (4, _), (3, _), (2, _), (1, _), (0, _)]) dd_lw_law_1422 (by decide) rfl ?_
  refine aw_aload_n dd_lw_law_1424 rfl 4 rfl ?_
  refine aw_cVi mm_mo_thrown (kc + 1) (ks + 10) _ 5 [] _ (wc_mo_thrown G κ' μ' o' rest') dd_lw_law_1425 cv_lw_97 my_mo_thrown np_mo_thrown rfl rfl rfl (Nat.le_of_ble_eq_true rfl) (by omega) (by omega) (Nat.le_of_ble_eq_true rfl) (Nat.le_of_ble_eq_true rfl) ?_
  refine aw_top hfl ?_
  refine aw_iload dd_lw_law_1428 1 rfl ?_
  refine aw_icmp_eq (tgt := 1435) dd_lw_law_1430 (by decide) (fun _ => ?_) (fun h9 => absurd (rfl) h9)
  refine aw_iload dd_lw_law_1435 1 rfl ?_
  refine aw_if_ne (tgt := 1452) dd_lw_law_1437 (by decide) (fun hz => ?_) (fun hz => ?_)
  · skip
    refine aw_goto (tgt := 1535) dd_lw_law_1452 (by decide) ?_
    exact aw_lv [2, 3, 4, 5, 6] rfl (aw_le (hend κ' μ' o' rest' hK' hM') (Nat.le_refl _) (Nat.le_refl _) (by omega) (by omega))
  · skip
    refine aw_aload_n dd_lw_law_1440 rfl 3 rfl ?_
    refine aw_iconst (v := (nI 0)) dd_lw_law_1441 (by decide) ?_
    refine aw_lald 32 dd_lw_law_1442 rfl (vp_in_nI (by decide) (by decide)) ?_
    rw [nI_clamp (show 0 < 2 ^ 31 by decide)]
    refine aw_iload dd_lw_law_1443 0 rfl ?_
    refine aw_i2l dd_lw_law_1445 rfl ?_
    refine aw_lcmp dd_lw_law_1446 ?_
    refine aw_if_eq (tgt := 1452) dd_lw_law_1447 (by decide) (fun _ => ?_) (fun h9 => absurd ((lg_cmp_eq _ _).mpr (by rw [ho hz, e2 hz]; rfl)) h9)
    refine aw_goto (tgt := 1535) dd_lw_law_1452 (by decide) ?_
    exact aw_lv [2, 3, 4, 5, 6] rfl (aw_le (hend κ' μ' o' rest' hK' hM') (Nat.le_refl _) (Nat.le_refl _) (by omega) (by omega))
theorem wb_plan (G : ag_T) (κ : ck_T) (μ : cm_T) (o : Nat → Int64) (rest : List va_E) {A : aa_T} (hK : rk_R G κ rest A) (hM : rm_R μ A) (hW : wa_W A) {i kc ks : Nat} (hi : i + 5 ≤ G.2.2.2.1.2.1) (hL : G.2.2.2.1.2.1 < 2 ^ 30) {Q : aq_T} (hend : ∀ κ' μ' o' rest', rk_R G κ' rest' (ab_plan A (G.2.2.2.1.2.2 (i + 1)) (G.2.2.2.1.2.2 (i + 2)) (G.2.2.2.1.2.2 (i + 3))).2.2 → rm_R μ' (ab_plan A (G.2.2.2.1.2.2 (i + 1)) (G.2.2.2.1.2.2 (i + 2)) (G.2.2.2.1.2.2 (i + 3))).2.2 → aw_w G mm_lw_law 10 215 kc ks 1535 [(4, .int (nI i)), (3, .ref (G.1 + 32)), (2, .ref (G.1 + 13)), (1, .ref (G.1 + 0)), (0, .ref G.2.2.2.1.1)] [] (hp_f G κ' μ' o' rest') Q) : aw_w G mm_lw_law 10 215 (kc + 2) (ks + 16) 1455 [(4, .int (nI i)), (3, .ref (G.1 + 32)), (2, .ref (G.1 + 13)), (1, .ref (G.1 + 0)), (0, .ref G.2.2.2.1.1)] [] (hp_f G κ μ o rest) Q := by
  refine aw_aload_n dd_lw_law_1455 rfl 3 rfl ?_
  refine aw_aload_n dd_lw_law_1456 rfl 4 rfl ?_
  refine aw_iload dd_lw_law_1457 0 rfl ?_
  refine aw_iconst (v := (nI 1)) dd_lw_law_1459 (by decide) ?_
  refine aw_iadd dd_lw_law_1460 ?_
  refine aw_top (nI_add _ _) ?_
  refine aw_sld (j := i + 1) dd_lw_law_1461 (by omega) (by omega) ?_
  refine aw_aload_n dd_lw_law_1462 rfl 4 rfl ?_
  refine aw_iload dd_lw_law_1463 0 rfl ?_
  refine aw_iconst (v := (nI 2)) dd_lw_law_1465 (by decide) ?_
  refine aw_iadd dd_lw_law_1466 ?_
  refine aw_top (nI_add _ _) ?_
  refine aw_sld (j := i + 2) dd_lw_law_1467 (by omega) (by omega) ?_
  refine aw_aload_n dd_lw_law_1468 rfl 4 rfl ?_
  refine aw_iload dd_lw_law_1469 0 rfl ?_
  refine aw_iconst (v := (nI 3)) dd_lw_law_1471 (by decide) ?_
  refine aw_iadd dd_lw_law_1472 ?_
  refine aw_top (nI_add _ _) ?_
  refine aw_sld (j := i + 3) dd_lw_law_1473 (by omega) (by omega) ?_
  refine aw_aload_n dd_lw_law_1474 rfl 1 rfl ?_
  refine aw_cSe mm_lw_plan (kc + 1) (ks + 10) [_, _, _, _, _] _ (wc_lw_plan G κ μ o rest hK hW (G.2.2.2.1.2.2 (i + 1)) (G.2.2.2.1.2.2 (i + 2)) (G.2.2.2.1.2.2 (i + 3))) dd_lw_law_1475 cs_lw_161 my_lw_plan np_lw_plan rfl (Nat.le_of_ble_eq_true rfl) (by omega) (by omega) (Nat.le_of_ble_eq_true rfl) (Nat.le_of_ble_eq_true rfl) (fun w9 h9 hq => ?_)
  obtain ⟨e1, κ', o', rest', rfl, hK', ho⟩ := hq
  subst e1
  refine aw_istore (lv' := [(5, _), (4, _), (3, _), (2, _), (1, _), (0, _)]) dd_lw_law_1478 (by decide) rfl ?_
  refine aw_aload_n dd_lw_law_1480 rfl 3 rfl ?_
  refine aw_aload_n dd_lw_law_1481 rfl 5 rfl ?_
  refine aw_iload dd_lw_law_1482 1 rfl ?_
  refine aw_iconst (v := (nI 1)) dd_lw_law_1484 (by decide) ?_
  refine aw_iadd dd_lw_law_1485 ?_
  refine aw_top (nI_add _ _) ?_
  refine aw_sld (j := i + 1) dd_lw_law_1486 (by omega) (by omega) ?_
  refine aw_aload_n dd_lw_law_1487 rfl 5 rfl ?_
  refine aw_iload dd_lw_law_1488 1 rfl ?_
  refine aw_iconst (v := (nI 2)) dd_lw_law_1490 (by decide) ?_
  refine aw_iadd dd_lw_law_1491 ?_
  refine aw_top (nI_add _ _) ?_
  refine aw_sld (j := i + 2) dd_lw_law_1492 (by omega) (by omega) ?_
  refine aw_aload_n dd_lw_law_1493 rfl 5 rfl ?_
  refine aw_iload dd_lw_law_1494 1 rfl ?_
  refine aw_iconst (v := (nI 3)) dd_lw_law_1496 (by decide) ?_
  refine aw_iadd dd_lw_law_1497 ?_
  refine aw_top (nI_add _ _) ?_
  refine aw_sld (j := i + 3) dd_lw_law_1498 (by omega) (by omega) ?_
  refine aw_cVe mm_mo_plan (kc + 1) (ks + 10) _ 5 [_, _, _] _ (wc_mo_plan G κ' μ o' rest' hM hW (G.2.2.2.1.2.2 (i + 1)) (G.2.2.2.1.2.2 (i + 2)) (G.2.2.2.1.2.2 (i + 3))) dd_lw_law_1499 cv_lw_163 my_mo_plan np_mo_plan rfl rfl rfl (Nat.le_of_ble_eq_true rfl) (by omega) (by omega) (Nat.le_of_ble_eq_true rfl) (Nat.le_of_ble_eq_true rfl) (fun w9 h9 hq => ?_)
  obtain ⟨e2, μ', rfl, hM', hfl⟩ := hq
  refine aw_istore (lv' := [(6, _), (5, _), (4, _), (3, _), (2, _), (1, _), (0, _)]) dd_lw_law_1502 (by decide) rfl ?_
  refine aw_aload_n dd_lw_law_1504 rfl 4 rfl ?_
  refine aw_cVi mm_mo_thrown (kc + 1) (ks + 10) _ 5 [] _ (wc_mo_thrown G κ' μ' o' rest') dd_lw_law_1505 cv_lw_97 my_mo_thrown np_mo_thrown rfl rfl rfl (Nat.le_of_ble_eq_true rfl) (by omega) (by omega) (Nat.le_of_ble_eq_true rfl) (Nat.le_of_ble_eq_true rfl) ?_
  refine aw_top hfl ?_
  refine aw_iload dd_lw_law_1508 1 rfl ?_
  refine aw_icmp_eq (tgt := 1515) dd_lw_law_1510 (by decide) (fun _ => ?_) (fun h9 => absurd (rfl) h9)
  refine aw_iload dd_lw_law_1515 1 rfl ?_
  refine aw_if_ne (tgt := 1532) dd_lw_law_1517 (by decide) (fun hz => ?_) (fun hz => ?_)
  · skip
    refine aw_goto (tgt := 1535) dd_lw_law_1532 (by decide) ?_
    exact aw_lv [2, 3, 4, 5, 6] rfl (aw_le (hend κ' μ' o' rest' hK' hM') (Nat.le_refl _) (Nat.le_refl _) (by omega) (by omega))
  · skip
    refine aw_aload_n dd_lw_law_1520 rfl 3 rfl ?_
    refine aw_iconst (v := (nI 0)) dd_lw_law_1521 (by decide) ?_
    refine aw_lald 32 dd_lw_law_1522 rfl (vp_in_nI (by decide) (by decide)) ?_
    rw [nI_clamp (show 0 < 2 ^ 31 by decide)]
    refine aw_iload dd_lw_law_1523 0 rfl ?_
    refine aw_i2l dd_lw_law_1525 rfl ?_
    refine aw_lcmp dd_lw_law_1526 ?_
    refine aw_if_eq (tgt := 1532) dd_lw_law_1527 (by decide) (fun _ => ?_) (fun h9 => absurd ((lg_cmp_eq _ _).mpr (by rw [ho hz, e2 hz]; rfl)) h9)
    refine aw_goto (tgt := 1535) dd_lw_law_1532 (by decide) ?_
    exact aw_lv [2, 3, 4, 5, 6] rfl (aw_le (hend κ' μ' o' rest' hK' hM') (Nat.le_refl _) (Nat.le_refl _) (by omega) (by omega))
