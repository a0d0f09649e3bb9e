/-! ===== the law's loop, round and round ===== -/
theorem lw_n5 : ∀ n, n < 5 → (nI n - 5).toInt < 0 := by decide +kernel
theorem lw_gt {n i : Nat} (hn : n < 2 ^ 30) (hi : i < 2 ^ 31) : (nI n - 5 < nI i) ↔ n < i + 5 := by
  by_cases h : n < 5
  · constructor
    · intro _; omega
    · intro _
      rw [Int32.lt_iff_toInt_lt, nI_toInt hi]
      have := lw_n5 n h
      omega
  · show (nI n - nI 5 < nI i) ↔ _
    rw [nI_sub (by omega), nI_ltI (by omega) hi]
    omega
theorem an_31 (x : Int32) : ∃ c, c < 32 ∧ x &&& 31 = nI c := by
  refine ⟨(x.toBitVec &&& 31#32).toNat, ?_, ?_⟩
  · rw [BitVec.toNat_and]
    exact Nat.lt_of_le_of_lt Nat.and_le_right (by decide)
  · apply iB_e
    show x.toBitVec &&& 31#32 = BitVec.ofNat 32 _
    rw [BitVec.ofNat_toNat, BitVec.setWidth_eq]
theorem wl_lw_law (G : ag_T) (hL : G.2.2.2.1.2.1 < 2 ^ 30) : ∀ (rem i : Nat), G.2.2.2.1.2.1 < i + 5 * rem + 5 → i ≤ G.2.2.2.1.2.1 → ∀ (κ : ck_T) (μ : cm_T) (o : Nat → Int64) (rest : List va_E) (A : aa_T), rk_R G κ rest A → rm_R μ A → wa_W A → aw_w G mm_lw_law 10 215 (2 * rem) (16 * rem) 23 [(4, .int (nI i)), (3, .ref (G.1 + 32)), (2, .ref (G.1 + 13)), (1, .ref (G.1 + 0)), (0, .ref G.2.2.2.1.1)] [] (hp_f G κ μ o rest) (fun out _ => out = .inl (some (.int 1))) := by
  intro rem
  induction rem with
  | zero =>
    intro i h1 h2 κ μ o rest A hK hM hW
    refine aw_iload dd_lw_law_23 0 rfl ?_
    refine aw_aload_n dd_lw_law_25 rfl 4 rfl ?_
    refine aw_slen dd_lw_law_26 ?_
    refine aw_iconst (v := 5) dd_lw_law_27 (by decide) ?_
    refine aw_isub dd_lw_law_28 ?_
    refine aw_icmp_gt (tgt := 1541) dd_lw_law_29 (by decide) (fun _ => ?_) (fun h9 => absurd ((lw_gt hL (by omega)).mpr (by omega)) h9)
    refine aw_iconst (v := 1) dd_lw_law_1541 (by decide) ?_
    exact aw_zret dd_lw_law_1542 rfl (Or.inr rfl) rfl
  | succ rem ih =>
    intro i h1 h2 κ μ o rest A hK hM hW
    have hn := hM.1.2.1
    have hu := hM.2.2.1.2.1
    have nx : i + 5 ≤ G.2.2.2.1.2.1 → ∀ (A' : aa_T) (κ' : ck_T) (μ' : cm_T) (o' : Nat → Int64) (rest' : List va_E), rk_R G κ' rest' A' → rm_R μ' A' → wa_W A' → aw_w G mm_lw_law 10 215 (2 * rem) (16 * rem) 1535 [(4, .int (nI i)), (3, .ref (G.1 + 32)), (2, .ref (G.1 + 13)), (1, .ref (G.1 + 0)), (0, .ref G.2.2.2.1.1)] [] (hp_f G κ' μ' o' rest') (fun out _ => out = .inl (some (.int 1))) := by
      intro h5 A' κ' μ' o' rest' hK' hM' hW'
      refine aw_iinc (v := nI (i + 5)) (lv' := [(4, _), (3, _), (2, _), (1, _), (0, _)]) dd_lw_law_1535 0 rfl (nI_add i 5) (by decide) rfl ?_
      refine aw_goto (tgt := 23) dd_lw_law_1538 (by decide) ?_
      exact ih (i + 5) (by omega) h5 κ' μ' o' rest' A' hK' hM' hW'
    refine aw_iload dd_lw_law_23 0 rfl ?_
    refine aw_aload_n dd_lw_law_25 rfl 4 rfl ?_
    refine aw_slen dd_lw_law_26 ?_
    refine aw_iconst (v := 5) dd_lw_law_27 (by decide) ?_
    refine aw_isub dd_lw_law_28 ?_
    refine aw_icmp_gt (tgt := 1541) dd_lw_law_29 (by decide) (fun hc => ?_) (fun hc => ?_)
    · refine aw_iconst (v := 1) dd_lw_law_1541 (by decide) ?_
      exact aw_zret dd_lw_law_1542 rfl (Or.inr rfl) rfl
    · rw [lw_gt hL (by omega)] at hc
      refine aw_aload_n dd_lw_law_32 rfl 4 rfl ?_
      refine aw_iload dd_lw_law_33 0 rfl ?_
      refine aw_sld (j := i) dd_lw_law_35 (by omega) (by omega) ?_
      refine aw_bipush (v := 31) dd_lw_law_36 (by decide) ?_
      refine aw_iand dd_lw_law_38 ?_
      obtain ⟨c, hc32, hce⟩ := an_31 (G.2.2.2.1.2.2 i)
      refine aw_top hce ?_
      clear hce
      refine aw_le (kc' := 2 * rem + 2) (ks' := 16 * rem + 16) ?_ (Nat.le_refl _) (Nat.le_refl _) (by omega) (by omega)
      rcases (show c = 0 ∨ c = 1 ∨ c = 2 ∨ c = 3 ∨ c = 4 ∨ c = 5 ∨ c = 6 ∨ c = 7 ∨ c = 8 ∨ c = 9 ∨ c = 10 ∨ c = 11 ∨ c = 12 ∨ c = 13 ∨ c = 14 ∨ c = 15 ∨ c = 16 ∨ c = 17 ∨ c = 18 ∨ c = 19 ∨ 20 ≤ c by omega) with rfl | rfl | rfl | rfl | rfl | rfl | rfl | rfl | rfl | rfl | rfl | rfl | rfl | rfl | rfl | rfl | rfl | rfl | rfl | rfl | h20
      · refine aw_tableIn (off := 93) (tgt := 132) dd_lw_law_39 (by decide) (by decide) rfl (by decide) ?_
        exact wb_role G κ μ o rest hK hM hW (by omega) hL (fun κ' μ' o' rest' hK' hM' => nx (by omega) _ κ' μ' o' rest' hK' hM' (wa_role hW))
      · refine aw_tableIn (off := 137) (tgt := 176) dd_lw_law_39 (by decide) (by decide) rfl (by decide) ?_
        exact wb_user G κ μ o rest hK hM hW (by omega) hL (fun κ' μ' o' rest' hK' hM' => nx (by omega) _ κ' μ' o' rest' hK' hM' (wa_user hW))
      · refine aw_tableIn (off := 181) (tgt := 220) dd_lw_law_39 (by decide) (by decide) rfl (by decide) ?_
        exact wb_above G κ μ o rest hK hM hW (by omega) hL (fun κ' μ' o' rest' hK' hM' => nx (by omega) _ κ' μ' o' rest' hK' hM' (wa_above hn hW _ _))
      · refine aw_tableIn (off := 256) (tgt := 295) dd_lw_law_39 (by decide) (by decide) rfl (by decide) ?_
        exact wb_grant G κ μ o rest hK hM hW (by omega) hL (fun κ' μ' o' rest' hK' hM' => nx (by omega) _ κ' μ' o' rest' hK' hM' (wa_grant hn hW _ _))
      · refine aw_tableIn (off := 331) (tgt := 370) dd_lw_law_39 (by decide) (by decide) rfl (by decide) ?_
        exact wb_limit G κ μ o rest hK hM hW (by omega) hL (fun κ' μ' o' rest' hK' hM' => nx (by omega) _ κ' μ' o' rest' hK' hM' (wa_limit hW _ _ _))
      · refine aw_tableIn (off := 407) (tgt := 446) dd_lw_law_39 (by decide) (by decide) rfl (by decide) ?_
        exact wb_giveRule G κ μ o rest hK hM hW (by omega) hL (fun κ' μ' o' rest' hK' hM' => nx (by omega) _ κ' μ' o' rest' hK' hM' (wa_giveRule hW _ _ _ _))
      · refine aw_tableIn (off := 499) (tgt := 538) dd_lw_law_39 (by decide) (by decide) rfl (by decide) ?_
        exact wb_takeRule G κ μ o rest hK hM hW (by omega) hL (fun κ' μ' o' rest' hK' hM' => nx (by omega) _ κ' μ' o' rest' hK' hM' (wa_takeRule hW _ _))
      · refine aw_tableIn (off := 567) (tgt := 606) dd_lw_law_39 (by decide) (by decide) rfl (by decide) ?_
        exact wb_assign G κ μ o rest hK hM hW (by omega) hL (fun κ' μ' o' rest' hK' hM' => nx (by omega) _ κ' μ' o' rest' hK' hM' (wa_assign hn hu hW _ _))
      · refine aw_tableIn (off := 642) (tgt := 681) dd_lw_law_39 (by decide) (by decide) rfl (by decide) ?_
        exact wb_remove G κ μ o rest hK hM hW (by omega) hL (fun κ' μ' o' rest' hK' hM' => nx (by omega) _ κ' μ' o' rest' hK' hM' (wa_remove hu hW _ _))
      · refine aw_tableIn (off := 717) (tgt := 756) dd_lw_law_39 (by decide) (by decide) rfl (by decide) ?_
        exact wb_give G κ μ o rest hK hM hW (by omega) hL (fun κ' μ' o' rest' hK' hM' => nx (by omega) _ κ' μ' o' rest' hK' hM' (wa_give hn hu hW _ _ _))
      · refine aw_tableIn (off := 804) (tgt := 843) dd_lw_law_39 (by decide) (by decide) rfl (by decide) ?_
        exact wb_take G κ μ o rest hK hM hW (by omega) hL (fun κ' μ' o' rest' hK' hM' => nx (by omega) _ κ' μ' o' rest' hK' hM' (wa_take hu hW _ _ _))
      · refine aw_tableIn (off := 891) (tgt := 930) dd_lw_law_39 (by decide) (by decide) rfl (by decide) ?_
        exact wb_roles G κ μ o rest hK hM hW (by omega) hL (fun κ' μ' o' rest' hK' hM' => nx (by omega) _ κ' μ' o' rest' hK' hM' (wa_roles hW _ _))
      · refine aw_tableIn (off := 975) (tgt := 1014) dd_lw_law_39 (by decide) (by decide) rfl (by decide) ?_
        exact wb_open G κ μ o rest hK hM hW (by omega) hL (fun κ' μ' o' rest' hK' hM' => nx (by omega) _ κ' μ' o' rest' hK' hM' (wa_open hu hW _))
      · refine aw_tableIn (off := 1031) (tgt := 1070) dd_lw_law_39 (by decide) (by decide) rfl (by decide) ?_
        exact wb_close G κ μ o rest hK hM hW (by omega) hL (fun κ' μ' o' rest' hK' hM' => nx (by omega) _ κ' μ' o' rest' hK' hM' (wa_close hW _))
      · refine aw_tableIn (off := 1067) (tgt := 1106) dd_lw_law_39 (by decide) (by decide) rfl (by decide) ?_
        exact wb_activate G κ μ o rest hK hM hW (by omega) hL (fun κ' μ' o' rest' hK' hM' => nx (by omega) _ κ' μ' o' rest' hK' hM' (wa_activate hW _ _))
      · refine aw_tableIn (off := 1142) (tgt := 1181) dd_lw_law_39 (by decide) (by decide) rfl (by decide) ?_
        exact wb_rest G κ μ o rest hK hM hW (by omega) hL (fun κ' μ' o' rest' hK' hM' => nx (by omega) _ κ' μ' o' rest' hK' hM' (wa_rest hW _ _))
      · refine aw_tableIn (off := 1217) (tgt := 1256) dd_lw_law_39 (by decide) (by decide) rfl (by decide) ?_
        exact wb_active G κ μ o rest hK hM hW (by omega) hL (fun κ' μ' o' rest' hK' hM' => nx (by omega) _ κ' μ' o' rest' hK' hM' (wa_active hW _))
      · refine aw_tableIn (off := 1273) (tgt := 1312) dd_lw_law_39 (by decide) (by decide) rfl (by decide) ?_
        exact wb_may G κ μ o rest hK hM hW (by omega) hL (fun κ' μ' o' rest' hK' hM' => nx (by omega) _ κ' μ' o' rest' hK' hM' (wa_may hW _ _))
      · refine aw_tableIn (off := 1348) (tgt := 1387) dd_lw_law_39 (by decide) (by decide) rfl (by decide) ?_
        exact wb_distance G κ μ o rest hK hM hW (by omega) hL (fun κ' μ' o' rest' hK' hM' => nx (by omega) _ κ' μ' o' rest' hK' hM' (wa_distance hW _ _))
      · refine aw_tableIn (off := 1416) (tgt := 1455) dd_lw_law_39 (by decide) (by decide) rfl (by decide) ?_
        exact wb_plan G κ μ o rest hK hM hW (by omega) hL (fun κ' μ' o' rest' hK' hM' => nx (by omega) _ κ' μ' o' rest' hK' hM' (wa_plan hW _ _ _))
      · refine aw_tableOut (tgt := 1535) dd_lw_law_39 (Or.inr (by rw [nI_toInt (by omega)]; omega)) (by decide) ?_
        exact aw_le (nx (by omega) A κ μ o rest hK hM hW) (Nat.le_refl _) (Nat.le_refl _) (by omega) (by omega)
