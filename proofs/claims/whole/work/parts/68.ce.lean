/-! ===== the class: limit, above ===== -/
theorem wl_ra_isKeptByUsers (G : ag_T) (κ : ck_T) (μ : cm_T) (o : Nat → Int64) (rest : List va_E) {n : Nat} {bel : Nat → Nat} (hC : rk_c κ n bel) {u : Nat} {asg : Nat → Nat} (hU : rk_u κ u asg) {l : Nat × Int32} {p : Nat} (hp : rest[p]? = some (ob_l l)) : ∀ (k r : Nat), r + k = u → pa_k (fun v => pk_1 l (pc_f bel (asg v) n)) r = true → aw_w G mm_ra_isKeptByUsers 2 41 0 0 2 [(2, .int (nI r)), (0, .ref (G.1 + 0)), (1, .ref (G.1 + (p + 33)))] [] (hp_f G κ μ o rest) (q_i (zb_i (pa_k (fun v => pk_1 l (pc_f bel (asg v) n)) u)) (hp_f G κ μ o rest)) := by
  have hu5 := hU.2.1
  intro k
  induction k with
  | zero =>
    intro r hr hk
    have e : r = u := by omega
    subst e
    rw [hk]
    refine aw_iload_n dd_ra_isKeptByUsers_2 rfl 0 rfl ?_
    refine aw_aload_n dd_ra_isKeptByUsers_3 rfl 1 rfl ?_
    refine aw_getf _ 0 6 dd_ra_isKeptByUsers_4 fl_ra_55 rfl rfl ?_
    refine aw_top (hU.1) ?_
    refine aw_icmp_ge (tgt := 30) dd_ra_isKeptByUsers_7 (by decide) (fun _ => ?_) (fun h9 => absurd (nI_le (Nat.le_refl _) (by omega)) h9)
    refine aw_iconst (v := 1) dd_ra_isKeptByUsers_30 (by decide) ?_
    exact aw_zret dd_ra_isKeptByUsers_31 rfl (Or.inr rfl) ⟨rfl, rfl⟩
  | succ k ih =>
    intro r hr hk
    refine aw_iload_n dd_ra_isKeptByUsers_2 rfl 0 rfl ?_
    refine aw_aload_n dd_ra_isKeptByUsers_3 rfl 1 rfl ?_
    refine aw_getf _ 0 6 dd_ra_isKeptByUsers_4 fl_ra_55 rfl rfl ?_
    refine aw_top (hU.1) ?_
    refine aw_icmp_ge (tgt := 30) dd_ra_isKeptByUsers_7 (by decide) (fun h9 => absurd h9 (nI_ge (by omega) (by omega))) (fun _ => ?_)
    refine aw_aload_n dd_ra_isKeptByUsers_10 rfl 2 rfl ?_
    refine aw_aload_n dd_ra_isKeptByUsers_11 rfl 1 rfl ?_
    refine aw_iload_n dd_ra_isKeptByUsers_12 rfl 0 rfl ?_
    refine aw_cVi mm_ra_authorizedRoles 0 0 _ 0 [_] _ (wc_ra_authorizedRoles G κ μ o rest hC hU (by omega)) dd_ra_isKeptByUsers_13 cv_ra_73 my_ra_authorizedRoles np_ra_authorizedRoles rfl rfl rfl (by decide) rfl rfl (Nat.le_of_ble_eq_true rfl) (Nat.le_of_ble_eq_true rfl) ?_
    refine aw_cVi mm_li_isKept 0 0 _ 3 [_] _ (wc_li_isKept G κ μ o rest hp (pc_64 hC.2.2.2 (hU.2.2.2 r) n)) dd_ra_isKeptByUsers_16 cv_ra_191 my_li_isKept np_li_isKept hp rfl rfl (by decide) rfl rfl (Nat.le_of_ble_eq_true rfl) (Nat.le_of_ble_eq_true rfl) ?_
    refine aw_if_ne (tgt := 24) dd_ra_isKeptByUsers_19 (by decide) (fun h1 => ?_) (fun h1 => ?_)
    · refine aw_iinc (v := nI (r + 1)) (lv' := [(2, _), (0, _), (1, _)]) dd_ra_isKeptByUsers_24 0 rfl (nI_1 _) (by decide) rfl ?_
      refine aw_goto (tgt := 2) dd_ra_isKeptByUsers_27 (by decide) ?_
      refine ih (r + 1) (by omega) ?_
      unfold pa_k
      rw [hk, zb_n0 h1]
      rfl
    · have h9 : pa_k (fun v => pk_1 l (pc_f bel (asg v) n)) u = false := by
        cases h8 : pa_k (fun v => pk_1 l (pc_f bel (asg v) n)) u with
        | false => rfl
        | true => (have h7 := (pa_ki _ u).mp h8 r (by omega); rw [h7] at h1; exact absurd h1 (by decide))
      rw [h9]
      refine aw_iconst (v := 0) dd_ra_isKeptByUsers_22 (by decide) ?_
      exact aw_zret dd_ra_isKeptByUsers_23 rfl (Or.inl rfl) ⟨rfl, rfl⟩
theorem wc_ra_isKeptByUsers (G : ag_T) (κ : ck_T) (μ : cm_T) (o : Nat → Int64) (rest : List va_E) {n : Nat} {bel : Nat → Nat} (hC : rk_c κ n bel) {u : Nat} {asg : Nat → Nat} (hU : rk_u κ u asg) {l : Nat × Int32} {p : Nat} (hp : rest[p]? = some (ob_l l)) : aw_w G mm_ra_isKeptByUsers 2 41 0 0 0 (lv_args 0 [.ref (G.1 + 0), .ref (G.1 + (p + 33))]) [] (hp_f G κ μ o rest) (q_i (zb_i (pa_k (fun v => pk_1 l (pc_f bel (asg v) n)) u)) (hp_f G κ μ o rest)) := by
  refine aw_iconst (v := (nI 0)) dd_ra_isKeptByUsers_0 (by decide) ?_
  refine aw_istore_n (lv' := [(2, _), (0, _), (1, _)]) dd_ra_isKeptByUsers_1 rfl (by decide) rfl ?_
  exact wl_ra_isKeptByUsers G κ μ o rest hC hU hp u 0 (Nat.zero_add _) rfl
theorem wl_ra_isKeptBySessions (G : ag_T) (κ : ck_T) (μ : cm_T) (o : Nat → Int64) (rest : List va_E) {so : Nat → Option Nat} {sa : Nat → Nat} (hSs : rk_s κ so sa) {l : Nat × Int32} {p : Nat} (hp : rest[p]? = some (ob_l l)) : ∀ (k r : Nat), r + k = 4 → pa_k (fun i => pk_1 l (sa i)) r = true → aw_w G mm_ra_isKeptBySessions 2 41 0 0 2 [(2, .int (nI r)), (0, .ref (G.1 + 0)), (1, .ref (G.1 + (p + 33)))] [] (hp_f G κ μ o rest) (q_i (zb_i (pa_k (fun i => pk_1 l (sa i)) 4)) (hp_f G κ μ o rest)) := by
  intro k
  induction k with
  | zero =>
    intro r hr hk
    have e : r = 4 := by omega
    subst e
    rw [hk]
    refine aw_iload_n dd_ra_isKeptBySessions_2 rfl 0 rfl ?_
    refine aw_iconst (v := (nI 4)) dd_ra_isKeptBySessions_3 (by decide) ?_
    refine aw_icmp_ge (tgt := 28) dd_ra_isKeptBySessions_4 (by decide) (fun _ => ?_) (fun h9 => absurd (nI_le (Nat.le_refl _) (by decide)) h9)
    refine aw_iconst (v := 1) dd_ra_isKeptBySessions_28 (by decide) ?_
    exact aw_zret dd_ra_isKeptBySessions_29 rfl (Or.inr rfl) ⟨rfl, rfl⟩
  | succ k ih =>
    intro r hr hk
    refine aw_iload_n dd_ra_isKeptBySessions_2 rfl 0 rfl ?_
    refine aw_iconst (v := (nI 4)) dd_ra_isKeptBySessions_3 (by decide) ?_
    refine aw_icmp_ge (tgt := 28) dd_ra_isKeptBySessions_4 (by decide) (fun h9 => absurd h9 (nI_ge (by omega) (by decide))) (fun _ => ?_)
    refine aw_aload_n dd_ra_isKeptBySessions_7 rfl 2 rfl ?_
    refine aw_aload_n dd_ra_isKeptBySessions_8 rfl 1 rfl ?_
    refine aw_getf _ 0 5 dd_ra_isKeptBySessions_9 fl_ra_35 rfl rfl ?_
    refine aw_iload_n dd_ra_isKeptBySessions_12 rfl 0 rfl ?_
    refine aw_iaN _ (r) dd_ra_isKeptBySessions_13 rfl (by omega) (by decide) ?_
    refine aw_top (hSs.1 r (by omega)).2 ?_
    refine aw_cVi mm_li_isKept 0 0 _ 3 [_] _ (wc_li_isKept G κ μ o rest hp (hSs.2.2 r)) dd_ra_isKeptBySessions_14 cv_ra_191 my_li_isKept np_li_isKept hp rfl rfl (by decide) rfl rfl (Nat.le_of_ble_eq_true rfl) (Nat.le_of_ble_eq_true rfl) ?_
    refine aw_if_ne (tgt := 22) dd_ra_isKeptBySessions_17 (by decide) (fun h1 => ?_) (fun h1 => ?_)
    · refine aw_iinc (v := nI (r + 1)) (lv' := [(2, _), (0, _), (1, _)]) dd_ra_isKeptBySessions_22 0 rfl (nI_1 _) (by decide) rfl ?_
      refine aw_goto (tgt := 2) dd_ra_isKeptBySessions_25 (by decide) ?_
      refine ih (r + 1) (by omega) ?_
      unfold pa_k
      rw [hk, zb_n0 h1]
      rfl
    · have h9 : pa_k (fun i => pk_1 l (sa i)) 4 = false := by
        cases h8 : pa_k (fun i => pk_1 l (sa i)) 4 with
        | false => rfl
        | true => (have h7 := (pa_ki _ 4).mp h8 r (by omega); rw [h7] at h1; exact absurd h1 (by decide))
      rw [h9]
      refine aw_iconst (v := 0) dd_ra_isKeptBySessions_20 (by decide) ?_
      exact aw_zret dd_ra_isKeptBySessions_21 rfl (Or.inl rfl) ⟨rfl, rfl⟩
theorem wc_ra_isKeptBySessions (G : ag_T) (κ : ck_T) (μ : cm_T) (o : Nat → Int64) (rest : List va_E) {so : Nat → Option Nat} {sa : Nat → Nat} (hSs : rk_s κ so sa) {l : Nat × Int32} {p : Nat} (hp : rest[p]? = some (ob_l l)) : aw_w G mm_ra_isKeptBySessions 2 41 0 0 0 (lv_args 0 [.ref (G.1 + 0), .ref (G.1 + (p + 33))]) [] (hp_f G κ μ o rest) (q_i (zb_i (pa_k (fun i => pk_1 l (sa i)) 4)) (hp_f G κ μ o rest)) := by
  refine aw_iconst (v := (nI 0)) dd_ra_isKeptBySessions_0 (by decide) ?_
  refine aw_istore_n (lv' := [(2, _), (0, _), (1, _)]) dd_ra_isKeptBySessions_1 rfl (by decide) rfl ?_
  exact wl_ra_isKeptBySessions G κ μ o rest hSs hp 4 0 rfl rfl
theorem pk_ap (ls : pl_T) (l : Nat × Int32) (s : Nat) : pk_l (ls ++ [l]) s = (pk_l ls s && pk_1 l s) := by
  unfold pk_l; rw [List.all_append]; simp
theorem pa_cg {f g : Nat → Bool} : ∀ {n : Nat}, (∀ v, v < n → f v = g v) → pa_k f n = pa_k g n
  | 0, _ => rfl
  | n + 1, h => by
    unfold pa_k
    rw [pa_cg (fun v hv => h v (by omega)), h n (by omega)]
theorem lm_s {A : aa_T} (hW : wa_W A) (l : Nat × Int32) : pa_k (fun v => pk_l (ga_s A ++ [l]) (ga_l A (ga_a A v))) (ga_u A) = pa_k (fun v => pk_1 l (pc_f (ga_b A) (ga_a A v) (ga_n A))) (ga_u A) :=
  pa_cg fun v hv => by rw [pk_ap, hW.2.2.2.2.2.1 v hv, Bool.true_and]
theorem pk_0 : ∀ k, pk_f 0 k = 0
  | 0 => rfl
  | k + 1 => by unfold pk_f; rw [pk_0 k, Nat.zero_testBit]; rfl
theorem lm_d {A : aa_T} (hW : wa_W A) (l : Nat × Int32) (hm : ¬ l.2 < 2) : pa_k (fun i => !(ga_o A i).isSome || pk_l (ga_d A ++ [l]) (ga_c A i)) 4 = pa_k (fun i => pk_1 l (ga_c A i)) 4 :=
  pa_cg fun i hi => by
    show (!(ga_o A i).isSome || pk_l (ga_d A ++ [l]) (ga_c A i)) = pk_1 l (ga_c A i)
    rw [pk_ap, hW.2.2.2.2.2.2.1 i hi, Bool.true_and]
    cases ho : ga_o A i with
    | some v => rfl
    | none =>
      rw [(hW.2.2.2.2.2.2.2.1 i).1 ho]
      have h2 : pk_1 l 0 = true := by
        unfold pk_1
        rw [Nat.zero_and, pk_0, decide_eq_true_iff, nI_0]
        rw [Int32.lt_iff_toInt_lt] at *
        have e2 : (2 : Int32).toInt = 2 := by decide
        have e0 : (0 : Int32).toInt = 0 := by decide
        omega
      rw [h2]; rfl
theorem wc_ra_limit1 (G : ag_T) (κ : ck_T) (μ : cm_T) (o : Nat → Int64) (rest : List va_E) {A : aa_T} (hR : rk_R G κ rest A) (hW : wa_W A) (s m : Int32) : aw_w G mm_ra_limit 7 113 2 16 0 (lv_args 0 [.ref (G.1 + 0), .int (zb_i true), .int s, .int m]) [] (hp_f G κ μ o rest) (qc_V G μ o [9, 7] (ab_limit A true s m)) := by
  obtain ⟨hC, hGr, hU, hSL, hDL, hRu, hSs, hDD⟩ := id hR; have hn6 := hC.2.1; have hu5 := hU.2.1
  have hsz : κ.1 7 = nI (ga_d A).length := by obtain ⟨ps, -, h2, -⟩ := hDL.1; exact h2
  have hl4 := hDL.2.1
  refine aw_iload_n dd_ra_limit_0 rfl 3 rfl ?_
  refine aw_iconst (v := 2) dd_ra_limit_1 (by decide) ?_
  refine aw_icmp_ge (tgt := 15) dd_ra_limit_2 (by decide) (fun hm => ?_) (fun hm => ?_)
  · have hm : ¬ m < 2 := Int32.not_lt.mpr hm
    refine aw_iload_n dd_ra_limit_15 rfl 2 rfl ?_
    rcases bl_c (st_i s) with h2 | h2
    · refine aw_cSx mm_ra_checkRoleSet 1 10 [_] _ (wc_ra_checkRoleSetF G _ h2) dd_ra_limit_16 cs_ra_96 my_ra_checkRoleSet np_ra_checkRoleSet rfl (by decide) rfl rfl (Nat.le_of_ble_eq_true rfl) (Nat.le_of_ble_eq_true rfl) (fun k9 => ?_)
      rw [ab_limit, if_pos (show (decide (¬ m < 2) && st_i s) = false by rw [h2, Bool.and_false])]
      exact aw_out (fun _ h9 => nomatch h9) ⟨_, _, rfl, hR.app _, Or.inr ⟨0, 9, rfl, rfl, rfl⟩⟩
    · rw [ab_limit, if_neg (show ¬ (decide (¬ m < 2) && st_i s) = false by rw [h2, show decide (¬ m < 2) = true from decide_eq_true hm]; decide)]
      obtain ⟨a, ha, rfl⟩ := st_n h2
      rw [iN_n (by omega)]
      refine aw_cSv mm_ra_checkRoleSet 2 16 [_] _ (wc_ra_checkRoleSetT G _ h2) dd_ra_limit_16 cs_ra_96 my_ra_checkRoleSet np_ra_checkRoleSet rfl (by decide) rfl rfl (Nat.le_of_ble_eq_true rfl) (Nat.le_of_ble_eq_true rfl) ?_
      refine aw_iload_n dd_ra_limit_19 rfl 1 rfl ?_
      refine aw_if_eq (tgt := 33) dd_ra_limit_20 (by decide) (fun h9 => absurd h9 (by decide)) (fun _ => ?_)
      refine aw_aload_n dd_ra_limit_23 rfl 0 rfl ?_
      refine aw_getf _ 0 0 dd_ra_limit_24 fl_ra_12 rfl rfl ?_
      refine aw_getf _ 1 3 dd_ra_limit_27 fl_ra_99 rfl rfl ?_
      refine aw_goto (tgt := 40) dd_ra_limit_30 (by decide) ?_
      refine aw_astore (lv' := [(4, _), (0, _), (1, _), (2, _), (3, _)]) dd_ra_limit_40 (by decide) rfl ?_
      refine aw_aload dd_ra_limit_42 0 rfl ?_
      refine aw_cVi mm_al_size 2 16 _ 6 [] _ (wc_al_size1 G κ μ o rest) dd_ra_limit_44 cv_ra_106 my_al_size np_al_size rfl rfl rfl (by decide) rfl rfl (Nat.le_of_ble_eq_true rfl) (Nat.le_of_ble_eq_true rfl) ?_
      refine aw_top (y := nI (ga_d A).length) hsz ?_
      refine aw_iconst (v := (nI 4)) dd_ra_limit_47 (by decide) ?_
      refine aw_icmp_lt (tgt := 61) dd_ra_limit_48 (by decide) (fun h4 => ?_) (fun h4 => ?_)
      · rw [nI_ltI (by omega) (by decide)] at h4
        rw [if_neg (show ¬ ¬ (if true = true then ga_d A else ga_s A).length < 4 from fun h9 => h9 h4), if_pos rfl]
        refine aw_new 3 2 (kc' := 1) (ks' := 14) (fs := [.int 0, .int 0]) dd_ra_limit_61 nl_ra_114 (by decide) rfl rfl ?_
        rw [hp_l, hp_a]
        refine aw_dup dd_ra_limit_64 rfl ?_
        refine aw_iload_n dd_ra_limit_65 rfl 3 rfl ?_
        refine aw_iload_n dd_ra_limit_66 rfl 4 rfl ?_
        refine aw_cIv mm_li_init 1 14 _ [_, _] _ (wc_li_init G κ μ o rest (a, m)) dd_ra_limit_67 ci_ra_116 my_li_init np_li_init rfl (by decide) rfl rfl (Nat.le_of_ble_eq_true rfl) (Nat.le_of_ble_eq_true rfl) ?_
        refine aw_astore (lv' := [(5, _), (4, _), (0, _), (1, _), (2, _), (3, _)]) dd_ra_limit_70 (by decide) rfl ?_
        refine aw_iload_n dd_ra_limit_72 rfl 3 rfl ?_
        refine aw_if_eq (tgt := 88) dd_ra_limit_73 (by decide) (fun h9 => absurd h9 (by decide)) (fun _ => ?_)
        refine aw_aload_n dd_ra_limit_76 rfl 2 rfl ?_
        refine aw_aload dd_ra_limit_77 0 rfl ?_
        refine aw_cVi mm_ra_isKeptBySessions 1 14 _ 0 [_] _ (wc_ra_isKeptBySessions G κ μ o (rest ++ [ob_l (a, m)]) hSs cc_g) dd_ra_limit_79 cv_ra_118 my_ra_isKeptBySessions np_ra_isKeptBySessions rfl rfl rfl (by decide) rfl rfl (Nat.le_of_ble_eq_true rfl) (Nat.le_of_ble_eq_true rfl) ?_
        refine aw_if_eq (tgt := 97) dd_ra_limit_82 (by decide) (fun h5 => ?_) (fun h5 => ?_)
        · have h5 := zb_e0 h5
          rw [if_neg (show ¬ pa_k (fun i => !(ga_o A i).isSome || pk_l (ga_d A ++ [(a, m)]) (ga_c A i)) 4 = true from fun h9 => bt_ne (((lm_d hW (a, m) hm).symm.trans h9)) h5)]
          exact aw_throw 7 th_ra_48_125 dd_ra_limit_97 dd_ra_limit_100 dd_ra_limit_101 dd_ra_limit_103 dd_ra_limit_106 (fun _ h9 => nomatch h9) (Nat.le_of_ble_eq_true rfl) (Nat.le_of_ble_eq_true rfl) (by decide) (by decide) ⟨_, _, rfl, (hR.app _).app _, Or.inr ⟨1, 7, rfl, rfl, rfl⟩⟩
        · have h5 := zb_n0 h5
          rw [if_pos (show pa_k (fun i => !(ga_o A i).isSome || pk_l (ga_d A ++ [(a, m)]) (ga_c A i)) 4 = true from (lm_d hW (a, m) hm).trans h5)]
          refine aw_goto (tgt := 107) dd_ra_limit_85 (by decide) ?_
          refine aw_aload dd_ra_limit_107 1 rfl ?_
          refine aw_aload dd_ra_limit_109 0 rfl ?_
          refine aw_cVe mm_al_add1 0 4 _ 6 [_] _ (wc_al_add1 G κ μ o (rest ++ [ob_l (a, m)]) (hDL.1.app _) (by omega) cc_g ky_li) dd_ra_limit_111 cv_ra_127 my_al_add1 np_al_add1 rfl rfl rfl (by decide) rfl rfl (Nat.le_of_ble_eq_true rfl) (Nat.le_of_ble_eq_true rfl) (fun w9 h9 hq => ?_)
          obtain ⟨κ', rest', rfl, hA⟩ := hq
          refine aw_pop dd_ra_limit_114 rfl ?_
          exact aw_vret dd_ra_limit_115 rfl ⟨κ', rest', rfl, ad_RD (hR.app _) h4 ha cc_g hA, Or.inl ⟨rfl, rfl⟩⟩
      · rw [nI_ltI (by omega) (by decide)] at h4
        rw [if_pos (show ¬ (if true = true then ga_d A else ga_s A).length < 4 from h4)]
        exact aw_throw 7 th_ra_48_112 dd_ra_limit_51 dd_ra_limit_54 dd_ra_limit_55 dd_ra_limit_57 dd_ra_limit_60 (fun _ h9 => nomatch h9) (Nat.le_of_ble_eq_true rfl) (Nat.le_of_ble_eq_true rfl) (by decide) (by decide) ⟨_, _, rfl, hR.app _, Or.inr ⟨1, 7, rfl, rfl, rfl⟩⟩
  · have hm : m < 2 := Int32.not_le.mp hm
    rw [ab_limit, if_pos (show (decide (¬ m < 2) && st_i s) = false by rw [show decide (¬ m < 2) = false from decide_eq_false (fun h9 => h9 hm)]; rfl)]
    exact aw_throw 9 th_ra_68_94 dd_ra_limit_5 dd_ra_limit_8 dd_ra_limit_9 dd_ra_limit_11 dd_ra_limit_14 (fun _ h9 => nomatch h9) (Nat.le_of_ble_eq_true rfl) (Nat.le_of_ble_eq_true rfl) (by decide) (by decide) ⟨_, _, rfl, hR.app _, Or.inr ⟨0, 9, rfl, rfl, rfl⟩⟩
theorem wc_ra_limit0 (G : ag_T) (κ : ck_T) (μ : cm_T) (o : Nat → Int64) (rest : List va_E) {A : aa_T} (hR : rk_R G κ rest A) (hW : wa_W A) (s m : Int32) : aw_w G mm_ra_limit 7 113 2 16 0 (lv_args 0 [.ref (G.1 + 0), .int (zb_i false), .int s, .int m]) [] (hp_f G κ μ o rest) (qc_V G μ o [9, 7] (ab_limit A false s m)) := by
  obtain ⟨hC, hGr, hU, hSL, hDL, hRu, hSs, hDD⟩ := id hR; have hn6 := hC.2.1; have hu5 := hU.2.1
  have hsz : κ.1 5 = nI (ga_s A).length := by obtain ⟨ps, -, h2, -⟩ := hSL.1; exact h2
  have hl4 := hSL.2.1
  refine aw_iload_n dd_ra_limit_0 rfl 3 rfl ?_
  refine aw_iconst (v := 2) dd_ra_limit_1 (by decide) ?_
  refine aw_icmp_ge (tgt := 15) dd_ra_limit_2 (by decide) (fun hm => ?_) (fun hm => ?_)
  · have hm : ¬ m < 2 := Int32.not_lt.mpr hm
    refine aw_iload_n dd_ra_limit_15 rfl 2 rfl ?_
    rcases bl_c (st_i s) with h2 | h2
    · refine aw_cSx mm_ra_checkRoleSet 1 10 [_] _ (wc_ra_checkRoleSetF G _ h2) dd_ra_limit_16 cs_ra_96 my_ra_checkRoleSet np_ra_checkRoleSet rfl (by decide) rfl rfl (Nat.le_of_ble_eq_true rfl) (Nat.le_of_ble_eq_true rfl) (fun k9 => ?_)
      rw [ab_limit, if_pos (show (decide (¬ m < 2) && st_i s) = false by rw [h2, Bool.and_false])]
      exact aw_out (fun _ h9 => nomatch h9) ⟨_, _, rfl, hR.app _, Or.inr ⟨0, 9, rfl, rfl, rfl⟩⟩
    · rw [ab_limit, if_neg (show ¬ (decide (¬ m < 2) && st_i s) = false by rw [h2, show decide (¬ m < 2) = true from decide_eq_true hm]; decide)]
      obtain ⟨a, ha, rfl⟩ := st_n h2
      rw [iN_n (by omega)]
      refine aw_cSv mm_ra_checkRoleSet 2 16 [_] _ (wc_ra_checkRoleSetT G _ h2) dd_ra_limit_16 cs_ra_96 my_ra_checkRoleSet np_ra_checkRoleSet rfl (by decide) rfl rfl (Nat.le_of_ble_eq_true rfl) (Nat.le_of_ble_eq_true rfl) ?_
      refine aw_iload_n dd_ra_limit_19 rfl 1 rfl ?_
      refine aw_if_eq (tgt := 33) dd_ra_limit_20 (by decide) (fun _ => ?_) (fun h9 => absurd (rfl) h9)
      refine aw_aload_n dd_ra_limit_33 rfl 0 rfl ?_
      refine aw_getf _ 0 0 dd_ra_limit_34 fl_ra_12 rfl rfl ?_
      refine aw_getf _ 1 2 dd_ra_limit_37 fl_ra_103 rfl rfl ?_
      refine aw_astore (lv' := [(4, _), (0, _), (1, _), (2, _), (3, _)]) dd_ra_limit_40 (by decide) rfl ?_
      refine aw_aload dd_ra_limit_42 0 rfl ?_
      refine aw_cVi mm_al_size 2 16 _ 6 [] _ (wc_al_size0 G κ μ o rest) dd_ra_limit_44 cv_ra_106 my_al_size np_al_size rfl rfl rfl (by decide) rfl rfl (Nat.le_of_ble_eq_true rfl) (Nat.le_of_ble_eq_true rfl) ?_
      refine aw_top (y := nI (ga_s A).length) hsz ?_
      refine aw_iconst (v := (nI 4)) dd_ra_limit_47 (by decide) ?_
      refine aw_icmp_lt (tgt := 61) dd_ra_limit_48 (by decide) (fun h4 => ?_) (fun h4 => ?_)
      · rw [nI_ltI (by omega) (by decide)] at h4
        rw [if_neg (show ¬ ¬ (if false = true then ga_d A else ga_s A).length < 4 from fun h9 => h9 h4), if_neg (show ¬ false = true by decide)]
        refine aw_new 3 2 (kc' := 1) (ks' := 14) (fs := [.int 0, .int 0]) dd_ra_limit_61 nl_ra_114 (by decide) rfl rfl ?_
        rw [hp_l, hp_a]
        refine aw_dup dd_ra_limit_64 rfl ?_
        refine aw_iload_n dd_ra_limit_65 rfl 3 rfl ?_
        refine aw_iload_n dd_ra_limit_66 rfl 4 rfl ?_
        refine aw_cIv mm_li_init 1 14 _ [_, _] _ (wc_li_init G κ μ o rest (a, m)) dd_ra_limit_67 ci_ra_116 my_li_init np_li_init rfl (by decide) rfl rfl (Nat.le_of_ble_eq_true rfl) (Nat.le_of_ble_eq_true rfl) ?_
        refine aw_astore (lv' := [(5, _), (4, _), (0, _), (1, _), (2, _), (3, _)]) dd_ra_limit_70 (by decide) rfl ?_
        refine aw_iload_n dd_ra_limit_72 rfl 3 rfl ?_
        refine aw_if_eq (tgt := 88) dd_ra_limit_73 (by decide) (fun _ => ?_) (fun h9 => absurd (rfl) h9)
        refine aw_aload_n dd_ra_limit_88 rfl 2 rfl ?_
        refine aw_aload dd_ra_limit_89 0 rfl ?_
        refine aw_cVi mm_ra_isKeptByUsers 1 14 _ 0 [_] _ (wc_ra_isKeptByUsers G κ μ o (rest ++ [ob_l (a, m)]) hC hU cc_g) dd_ra_limit_91 cv_ra_122 my_ra_isKeptByUsers np_ra_isKeptByUsers rfl rfl rfl (by decide) rfl rfl (Nat.le_of_ble_eq_true rfl) (Nat.le_of_ble_eq_true rfl) ?_
        refine aw_if_ne (tgt := 107) dd_ra_limit_94 (by decide) (fun h5 => ?_) (fun h5 => ?_)
        · have h5 := zb_n0 h5
          rw [if_pos (show pa_k (fun v => pk_l (ga_s A ++ [(a, m)]) (ga_l A (ga_a A v))) (ga_u A) = true from (lm_s hW (a, m)).trans h5)]
          refine aw_aload dd_ra_limit_107 1 rfl ?_
          refine aw_aload dd_ra_limit_109 0 rfl ?_
          refine aw_cVe mm_al_add1 0 4 _ 6 [_] _ (wc_al_add0 G κ μ o (rest ++ [ob_l (a, m)]) (hSL.1.app _) (by omega) cc_g ky_li) dd_ra_limit_111 cv_ra_127 my_al_add1 np_al_add1 rfl rfl rfl (by decide) rfl rfl (Nat.le_of_ble_eq_true rfl) (Nat.le_of_ble_eq_true rfl) (fun w9 h9 hq => ?_)
          obtain ⟨κ', rest', rfl, hA⟩ := hq
          refine aw_pop dd_ra_limit_114 rfl ?_
          exact aw_vret dd_ra_limit_115 rfl ⟨κ', rest', rfl, ad_RS (hR.app _) h4 ha cc_g hA, Or.inl ⟨rfl, rfl⟩⟩
        · have h5 := zb_e0 h5
          rw [if_neg (show ¬ pa_k (fun v => pk_l (ga_s A ++ [(a, m)]) (ga_l A (ga_a A v))) (ga_u A) = true from fun h9 => bt_ne (((lm_s hW (a, m)).symm.trans h9)) h5)]
          exact aw_throw 7 th_ra_48_125 dd_ra_limit_97 dd_ra_limit_100 dd_ra_limit_101 dd_ra_limit_103 dd_ra_limit_106 (fun _ h9 => nomatch h9) (Nat.le_of_ble_eq_true rfl) (Nat.le_of_ble_eq_true rfl) (by decide) (by decide) ⟨_, _, rfl, (hR.app _).app _, Or.inr ⟨1, 7, rfl, rfl, rfl⟩⟩
      · rw [nI_ltI (by omega) (by decide)] at h4
        rw [if_pos (show ¬ (if false = true then ga_d A else ga_s A).length < 4 from h4)]
        exact aw_throw 7 th_ra_48_112 dd_ra_limit_51 dd_ra_limit_54 dd_ra_limit_55 dd_ra_limit_57 dd_ra_limit_60 (fun _ h9 => nomatch h9) (Nat.le_of_ble_eq_true rfl) (Nat.le_of_ble_eq_true rfl) (by decide) (by decide) ⟨_, _, rfl, hR.app _, Or.inr ⟨1, 7, rfl, rfl, rfl⟩⟩
  · have hm : m < 2 := Int32.not_le.mp hm
    rw [ab_limit, if_pos (show (decide (¬ m < 2) && st_i s) = false by rw [show decide (¬ m < 2) = false from decide_eq_false (fun h9 => h9 hm)]; rfl)]
    exact aw_throw 9 th_ra_68_94 dd_ra_limit_5 dd_ra_limit_8 dd_ra_limit_9 dd_ra_limit_11 dd_ra_limit_14 (fun _ h9 => nomatch h9) (Nat.le_of_ble_eq_true rfl) (Nat.le_of_ble_eq_true rfl) (by decide) (by decide) ⟨_, _, rfl, hR.app _, Or.inr ⟨0, 9, rfl, rfl, rfl⟩⟩
theorem wc_ra_limit (G : ag_T) (κ : ck_T) (μ : cm_T) (o : Nat → Int64) (rest : List va_E) {A : aa_T} (hR : rk_R G κ rest A) (hW : wa_W A) (d : Bool) (s m : Int32) : aw_w G mm_ra_limit 7 113 2 16 0 (lv_args 0 [.ref (G.1 + 0), .int (zb_i d), .int s, .int m]) [] (hp_f G κ μ o rest) (qc_V G μ o [9, 7] (ab_limit A d s m)) := by
  cases d
  · exact wc_ra_limit0 G κ μ o rest hR hW s m
  · exact wc_ra_limit1 G κ μ o rest hR hW s m
theorem wc_po_standsAbove (G : ag_T) (κ : ck_T) (μ : cm_T) (o : Nat → Int64) (rest : List va_E) {n : Nat} {bel : Nat → Nat} (hC : rk_c κ n bel) {a b : Nat} (ha : a < 6) (hb : b < 6) : aw_w G mm_po_standsAbove 1 21 0 0 0 (lv_args 0 [.ref (G.1 + 1), .int (nI a), .int (nI b)]) [] (hp_f G κ μ o rest) (q_i (zb_i (decide (¬ a = b) && (pc_f bel (1 <<< a) n).testBit b)) (hp_f G κ μ o rest)) := by
  have h64 : 1 <<< a < 64 := bt_1 ha
  have hcl := pc_64 hC.2.2.2 h64 n
  refine aw_iload_n dd_po_standsAbove_0 rfl 1 rfl ?_
  refine aw_iload_n dd_po_standsAbove_1 rfl 2 rfl ?_
  refine aw_icmp_eq (tgt := 24) dd_po_standsAbove_2 (by decide) (fun h1 => ?_) (fun h1 => ?_)
  · rw [nI_eq (by omega) (by omega)] at h1
    refine aw_iconst (v := 0) dd_po_standsAbove_24 (by decide) ?_
    exact aw_zret dd_po_standsAbove_25 rfl (by first | exact Or.inl rfl | exact Or.inr rfl) ⟨by first | (simp [zb_i, h1, h2]; done) | (simp [zb_i, h1]; done), rfl⟩
  · rw [nI_eq (by omega) (by omega)] at h1
    refine aw_aload_n dd_po_standsAbove_5 rfl 0 rfl ?_
    refine aw_getf _ 1 1 dd_po_standsAbove_6 fl_po_9 rfl rfl ?_
    refine aw_iconst (v := (nI 1)) dd_po_standsAbove_9 (by decide) ?_
    refine aw_iload_n dd_po_standsAbove_10 rfl 1 rfl ?_
    refine aw_ishl dd_po_standsAbove_11 ?_
    refine aw_top (nI_shl 1 (by omega)) ?_
    refine aw_iaN _ (1 <<< a) dd_po_standsAbove_12 rfl (h64) (by decide) ?_
    refine aw_top (hC.2.2.1 _ h64) ?_
    refine aw_iload_n dd_po_standsAbove_13 rfl 2 rfl ?_
    refine aw_cNi mm_ra_has 0 0 "RoleAnalyser" [_, _] _ (wc_ra_has G _ (by omega) (by omega)) dd_po_standsAbove_14 cs_po_28 my_ra_has np_ra_has rfl (by decide) rfl rfl (Nat.le_of_ble_eq_true rfl) (Nat.le_of_ble_eq_true rfl) ?_
    refine aw_if_eq (tgt := 24) dd_po_standsAbove_17 (by decide) (fun h2 => ?_) (fun h2 => ?_)
    · have h2 := zb_e0 h2
      refine aw_iconst (v := 0) dd_po_standsAbove_24 (by decide) ?_
      exact aw_zret dd_po_standsAbove_25 rfl (by first | exact Or.inl rfl | exact Or.inr rfl) ⟨by first | (simp [zb_i, h1, h2]; done) | (simp [zb_i, h1]; done), rfl⟩
    · have h2 := zb_n0 h2
      refine aw_iconst (v := 1) dd_po_standsAbove_20 (by decide) ?_
      refine aw_goto (tgt := 25) dd_po_standsAbove_21 (by decide) ?_
      exact aw_zret dd_po_standsAbove_25 rfl (by first | exact Or.inl rfl | exact Or.inr rfl) ⟨by first | (simp [zb_i, h1, h2]; done) | (simp [zb_i, h1]; done), rfl⟩
theorem wc_po_widened (G : ag_T) (κ : ck_T) (μ : cm_T) (o : Nat → Int64) (rest : List va_E) {cl : Nat → Nat} {s a b : Nat} (hs : s < 2 ^ 31) (ha : a < 6) (hb : b < 6) (hf : κ.2.1 0 (1 <<< b) = nI (cl (1 <<< b))) : aw_w G mm_po_widened 1 21 0 0 0 (lv_args 0 [.ref (G.1 + 1), .int (nI s), .int (nI a), .int (nI b)]) [] (hp_f G κ μ o rest) (q_i (nI (wd_f cl a b s)) (hp_f G κ μ o rest)) := by
  refine aw_iload_n dd_po_widened_0 rfl 1 rfl ?_
  refine aw_iload_n dd_po_widened_1 rfl 2 rfl ?_
  refine aw_cNi mm_ra_has 0 0 "RoleAnalyser" [_, _] _ (wc_ra_has G _ hs (by omega)) dd_po_widened_2 cs_po_28 my_ra_has np_ra_has rfl (by decide) rfl rfl (Nat.le_of_ble_eq_true rfl) (Nat.le_of_ble_eq_true rfl) ?_
  refine aw_if_eq (tgt := 21) dd_po_widened_5 (by decide) (fun h1 => ?_) (fun h1 => ?_)
  · have h1 := zb_e0 h1
    rw [show wd_f cl a b s = s from if_neg (by rw [h1]; decide)]
    refine aw_iload_n dd_po_widened_21 rfl 1 rfl ?_
    exact aw_iret dd_po_widened_22 rfl ⟨rfl, rfl⟩
  · have h1 := zb_n0 h1
    rw [show wd_f cl a b s = s ||| cl (1 <<< b) from if_pos h1]
    refine aw_iload_n dd_po_widened_8 rfl 1 rfl ?_
    refine aw_aload_n dd_po_widened_9 rfl 0 rfl ?_
    refine aw_getf _ 1 1 dd_po_widened_10 fl_po_9 rfl rfl ?_
    refine aw_iconst (v := (nI 1)) dd_po_widened_13 (by decide) ?_
    refine aw_iload_n dd_po_widened_14 rfl 3 rfl ?_
    refine aw_ishl dd_po_widened_15 ?_
    refine aw_top (nI_shl 1 (by omega)) ?_
    refine aw_iaN _ (1 <<< b) dd_po_widened_16 rfl (bt_1 (n := 6) hb) (by decide) ?_
    refine aw_top hf ?_
    refine aw_ior dd_po_widened_17 ?_
    refine aw_top (nI_or _ _) ?_
    refine aw_goto (tgt := 22) dd_po_widened_18 (by decide) ?_
    exact aw_iret dd_po_widened_22 rfl ⟨rfl, rfl⟩
theorem wl_po_putAbove (G : ag_T) (κ : ck_T) (μ : cm_T) (o : Nat → Int64) (rest : List va_E) {n : Nat} {bel : Nat → Nat} (hC : rk_c κ n bel) {a b : Nat} (ha : a < 6) (hb : b < 6) (hnb : ¬ (pc_f bel (1 <<< b) n).testBit a = true) : ∀ (k r : Nat), r + k = 64 → ∀ f : Nat → Int32, (∀ s, s < 64 → f s = nI (if s < r then wd_f (fun t => pc_f bel t n) a b (pc_f bel s n) else pc_f bel s n)) → aw_w G mm_po_putAbove 2 44 0 0 2 [(3, .int (nI r)), (0, .ref (G.1 + 1)), (1, .int (nI a)), (2, .int (nI b))] [] (hp_f G (κ.1, va_up κ.2.1 0 f, κ.2.2) μ o rest) (qe_v fun h' => ∃ f : Nat → Int32, h' = hp_f G (κ.1, va_up κ.2.1 0 f, κ.2.2) μ o rest ∧ (∀ s, s < 64 → f s = nI (if s < 64 then wd_f (fun t => pc_f bel t n) a b (pc_f bel s n) else pc_f bel s n))) := by
  have h64 : 1 <<< b < 64 := bt_1 hb
  intro k
  induction k with
  | zero =>
    intro r hr f hf
    have e : r = 64 := by omega
    subst e
    refine aw_iload_n dd_po_putAbove_2 rfl 0 rfl ?_
    refine aw_bipush (v := (nI 64)) dd_po_putAbove_3 (by decide) ?_
    refine aw_icmp_ge (tgt := 32) dd_po_putAbove_5 (by decide) (fun _ => ?_) (fun h9 => absurd (nI_le (Nat.le_refl _) (by decide)) h9)
    exact aw_vret dd_po_putAbove_32 rfl ⟨rfl, f, rfl, hf⟩
  | succ k ih =>
    intro r hr f hf
    have hfr : f r = nI (pc_f bel r n) := by rw [hf r (by omega), if_neg (Nat.lt_irrefl r)]
    have hfb : f (1 <<< b) = nI (pc_f bel (1 <<< b) n) := by
      rw [hf _ h64]
      split
      · unfold wd_f; rw [if_neg hnb]
      · rfl
    have hcl := pc_64 hC.2.2.2 (show r < 64 by omega) n
    refine aw_iload_n dd_po_putAbove_2 rfl 0 rfl ?_
    refine aw_bipush (v := (nI 64)) dd_po_putAbove_3 (by decide) ?_
    refine aw_icmp_ge (tgt := 32) dd_po_putAbove_5 (by decide) (fun h9 => absurd h9 (nI_ge (by omega) (by decide))) (fun _ => ?_)
    refine aw_aload_n dd_po_putAbove_8 rfl 1 rfl ?_
    refine aw_getf _ 1 1 dd_po_putAbove_9 fl_po_9 rfl rfl ?_
    refine aw_iload_n dd_po_putAbove_12 rfl 0 rfl ?_
    refine aw_aload_n dd_po_putAbove_13 rfl 1 rfl ?_
    refine aw_aload_n dd_po_putAbove_14 rfl 1 rfl ?_
    refine aw_getf _ 1 1 dd_po_putAbove_15 fl_po_9 rfl rfl ?_
    refine aw_iload_n dd_po_putAbove_18 rfl 0 rfl ?_
    refine aw_iaN _ (r) dd_po_putAbove_19 rfl (by omega) (by decide) ?_
    refine aw_top (y := nI (pc_f bel r n)) hfr ?_
    refine aw_iload_n dd_po_putAbove_20 rfl 2 rfl ?_
    refine aw_iload_n dd_po_putAbove_21 rfl 3 rfl ?_
    refine aw_cVi mm_po_widened 0 0 _ 1 [_, _, _] _ (wc_po_widened G (κ.1, va_up κ.2.1 0 f, κ.2.2) μ o rest (cl := (fun t => pc_f bel t n)) (by omega) ha hb hfb) dd_po_putAbove_22 cv_po_32 my_po_widened np_po_widened rfl rfl rfl (by decide) rfl rfl (Nat.le_of_ble_eq_true rfl) (Nat.le_of_ble_eq_true rfl) ?_
    refine aw_isN _ (r) dd_po_putAbove_25 rfl (by omega) (by decide) ?_
    refine aw_h (hs_ka0 G _ _ _ _ _ _) ?_
    rw [kw_a]
    refine aw_iinc (v := nI (r + 1)) (lv' := [(3, _), (0, _), (1, _), (2, _)]) dd_po_putAbove_26 0 rfl (nI_1 _) (by decide) rfl ?_
    refine aw_goto (tgt := 2) dd_po_putAbove_29 (by decide) ?_
    refine ih (r + 1) (by omega) _ (fun s hs => ?_)
    unfold upd
    split
    · rename_i e; subst e; rw [if_pos (show s < s + 1 by omega)]
    · rename_i e; rw [hf s hs]; congr 1; by_cases h9 : s < r
      · rw [if_pos h9, if_pos (show s < r + 1 by omega)]
      · rw [if_neg h9, if_neg (show ¬ s < r + 1 by omega)]
theorem wc_po_putAbove (G : ag_T) (κ : ck_T) (μ : cm_T) (o : Nat → Int64) (rest : List va_E) {n : Nat} {bel : Nat → Nat} (hC : rk_c κ n bel) {a b : Nat} (ha : a < 6) (hb : b < 6) (hnb : ¬ (pc_f bel (1 <<< b) n).testBit a = true) : aw_w G mm_po_putAbove 2 44 0 0 0 (lv_args 0 [.ref (G.1 + 1), .int (nI a), .int (nI b)]) [] (hp_f G κ μ o rest) (qe_v fun h' => ∃ f : Nat → Int32, h' = hp_f G (κ.1, va_up κ.2.1 0 f, κ.2.2) μ o rest ∧ (∀ s, s < 64 → f s = nI (if s < 64 then wd_f (fun t => pc_f bel t n) a b (pc_f bel s n) else pc_f bel s n))) := by
  refine aw_iconst (v := (nI 0)) dd_po_putAbove_0 (by decide) ?_
  refine aw_istore_n (lv' := [(3, _), (0, _), (1, _), (2, _)]) dd_po_putAbove_1 rfl (by decide) rfl ?_
  rw [show hp_f G κ μ o rest = hp_f G (κ.1, va_up κ.2.1 0 (κ.2.1 0), κ.2.2) μ o rest by rw [kw_0]]
  refine wl_po_putAbove G κ μ o rest hC ha hb hnb 64 0 rfl _ (fun s hs => ?_)
  rw [if_neg (Nat.not_lt_zero s)]
  exact hC.2.2.1 s hs
theorem wl_ra_above (G : ag_T) (κ : ck_T) (μ : cm_T) (o : Nat → Int64) (rest : List va_E) {A : aa_T} (hR : rk_R G κ rest A) {a b : Nat} (ha : a < ga_n A) (hb : b < ga_n A) (hnb : ¬ (pc_f (ga_b A) (1 <<< b) (ga_n A)).testBit a = true) : ∀ (k r : Nat), r + k = ga_u A → pa_k (fun v => pk_l (ga_s A) (pc_f (pb_u (ga_n A) (ga_b A) a b) (ga_a A v) (ga_n A))) r = true → aw_w G mm_ra_above 7 114 1 6 53 [(3, .int (nI r)), (0, .ref (G.1 + 0)), (1, .int (nI a)), (2, .int (nI b))] [] (hp_f G κ μ o rest) (qc_R G μ o [8, 9, 7] (if pa_k (fun v => pk_l (ga_s A) (pc_f (pb_u (ga_n A) (ga_b A) a b) (ga_a A v) (ga_n A))) (ga_u A) = false then (3, 0, A) else (0, 1, sa_b A (pb_u (ga_n A) (ga_b A) a b)))) := by
  obtain ⟨hC, hGr, hU, hSL, hDL, hRu, hSs, hDD⟩ := id hR; have hn6 := hC.2.1; have hu5 := hU.2.1
  have h64 : 1 <<< b < 64 := bt_1 (n := 6) (by omega)
  have hwd : ∀ s, wd_f (fun t => pc_f (ga_b A) t (ga_n A)) a b (pc_f (ga_b A) s (ga_n A)) = pc_f (pb_u (ga_n A) (ga_b A) a b) s (ga_n A) := fun s => wd_e ha hb s
  intro k
  induction k with
  | zero =>
    intro r hr hk
    have e : r = ga_u A := by omega
    subst e
    rw [if_neg (bt_ne hk)]
    refine aw_iload_n dd_ra_above_53 rfl 0 rfl ?_
    refine aw_aload_n dd_ra_above_54 rfl 1 rfl ?_
    refine aw_getf _ 0 6 dd_ra_above_55 fl_ra_55 rfl rfl ?_
    refine aw_top (hU.1) ?_
    refine aw_icmp_ge (tgt := 85) dd_ra_above_58 (by decide) (fun _ => ?_) (fun h9 => absurd (nI_le (Nat.le_refl _) (by omega)) h9)
    refine aw_aload_n dd_ra_above_85 rfl 1 rfl ?_
    refine aw_getf _ 0 0 dd_ra_above_86 fl_ra_12 rfl rfl ?_
    refine aw_iload_n dd_ra_above_89 rfl 2 rfl ?_
    refine aw_iload_n dd_ra_above_90 rfl 3 rfl ?_
    refine aw_cVf mm_po_putAbove 1 6 _ 1 [_, _] _ (wc_po_putAbove G κ μ o rest hC (by omega) (by omega) hnb) dd_ra_above_91 cv_ra_84 my_po_putAbove np_po_putAbove rfl rfl rfl (by decide) rfl rfl (Nat.le_of_ble_eq_true rfl) (Nat.le_of_ble_eq_true rfl) (fun h9 hq => ?_)
    obtain ⟨f, rfl, hf⟩ := hq
    refine aw_iconst (v := 1) dd_ra_above_94 (by decide) ?_
    exact aw_zret dd_ra_above_95 rfl (Or.inr rfl) ⟨_, _, rfl, ⟨⟨hC.1, hn6, fun s hs => by (show f s = _; rw [hf s hs, if_pos hs, hwd]), pb_lt hC.2.2.2 a (by omega)⟩, hGr, hU, hSL, hDL, hRu, hSs, hDD⟩, Or.inl ⟨rfl, rfl⟩⟩
  | succ k ih =>
    intro r hr hk
    have hcl := pc_64 hC.2.2.2 (hU.2.2.2 r) (ga_n A)
    have hw64 := wd_lt (n := ga_n A) (a := a) hC.2.2.2 (show b < 6 by omega) hcl
    refine aw_iload_n dd_ra_above_53 rfl 0 rfl ?_
    refine aw_aload_n dd_ra_above_54 rfl 1 rfl ?_
    refine aw_getf _ 0 6 dd_ra_above_55 fl_ra_55 rfl rfl ?_
    refine aw_top (hU.1) ?_
    refine aw_icmp_ge (tgt := 85) dd_ra_above_58 (by decide) (fun h9 => absurd h9 (nI_ge (by omega) (by omega))) (fun _ => ?_)
    refine aw_aload_n dd_ra_above_61 rfl 1 rfl ?_
    refine aw_aload_n dd_ra_above_62 rfl 1 rfl ?_
    refine aw_getf _ 0 0 dd_ra_above_63 fl_ra_12 rfl rfl ?_
    refine aw_aload_n dd_ra_above_66 rfl 1 rfl ?_
    refine aw_iload_n dd_ra_above_67 rfl 0 rfl ?_
    refine aw_cVi mm_ra_authorizedRoles 1 6 _ 0 [_] _ (wc_ra_authorizedRoles G κ μ o rest hC hU (by omega)) dd_ra_above_68 cv_ra_73 my_ra_authorizedRoles np_ra_authorizedRoles rfl rfl rfl (by decide) rfl rfl (Nat.le_of_ble_eq_true rfl) (Nat.le_of_ble_eq_true rfl) ?_
    refine aw_iload_n dd_ra_above_71 rfl 2 rfl ?_
    refine aw_iload_n dd_ra_above_72 rfl 3 rfl ?_
    refine aw_cVi mm_po_widened 1 6 _ 1 [_, _, _] _ (wc_po_widened G κ μ o rest (cl := fun t => pc_f (ga_b A) t (ga_n A)) (by omega) (by omega) (by omega) (hC.2.2.1 _ h64)) dd_ra_above_73 cv_ra_77 my_po_widened np_po_widened rfl rfl rfl (by decide) rfl rfl (Nat.le_of_ble_eq_true rfl) (Nat.le_of_ble_eq_true rfl) ?_
    rcases bl_c (pk_l (ga_s A) (wd_f (fun t => pc_f (ga_b A) t (ga_n A)) a b (pc_f (ga_b A) (ga_a A r) (ga_n A)))) with h3 | h3
    · have h9 : pa_k (fun v => pk_l (ga_s A) (pc_f (pb_u (ga_n A) (ga_b A) a b) (ga_a A v) (ga_n A))) (ga_u A) = false := by
        cases h8 : pa_k (fun v => pk_l (ga_s A) (pc_f (pb_u (ga_n A) (ga_b A) a b) (ga_a A v) (ga_n A))) (ga_u A) with
        | false => rfl
        | true => (have h7 := (pa_ki _ _).mp h8 r (by omega); rw [hwd] at h3; rw [h3] at h7; cases h7)
      rw [if_pos h9]
      refine aw_cVx mm_ra_checkStaticLimits 0 0 _ 0 [_] _ (wc_ra_checkStaticLimitsF G κ μ o rest hSL hw64 h3) dd_ra_above_76 cv_ra_81 my_ra_checkStaticLimits np_ra_checkStaticLimits rfl rfl rfl (by decide) rfl rfl (Nat.le_of_ble_eq_true rfl) (Nat.le_of_ble_eq_true rfl) (fun k9 => ?_)
      exact aw_out (fun _ h9 => nomatch h9) ⟨_, _, rfl, hR.app _, Or.inr ⟨2, 7, rfl, rfl, rfl⟩⟩
    · refine aw_cVv mm_ra_checkStaticLimits 1 6 _ 0 [_] _ (wc_ra_checkStaticLimitsT G κ μ o rest hSL hw64 h3) dd_ra_above_76 cv_ra_81 my_ra_checkStaticLimits np_ra_checkStaticLimits rfl rfl rfl (by decide) rfl rfl (Nat.le_of_ble_eq_true rfl) (Nat.le_of_ble_eq_true rfl) ?_
      refine aw_iinc (v := nI (r + 1)) (lv' := [(3, _), (0, _), (1, _), (2, _)]) dd_ra_above_79 0 rfl (nI_1 _) (by decide) rfl ?_
      refine aw_goto (tgt := 53) dd_ra_above_82 (by decide) ?_
      refine ih (r + 1) (by omega) ?_
      unfold pa_k
      rw [hk, ← hwd, h3]
      rfl
theorem wc_ra_above (G : ag_T) (κ : ck_T) (μ : cm_T) (o : Nat → Int64) (rest : List va_E) {A : aa_T} (hR : rk_R G κ rest A) (hW : wa_W A) (x y : Int32) : aw_w G mm_ra_above 7 114 1 6 0 (lv_args 0 [.ref (G.1 + 0), .int x, .int y]) [] (hp_f G κ μ o rest) (qc_R G μ o [8, 9, 7] (ab_above A x y)) := by
  obtain ⟨hC, hGr, hU, hSL, hDL, hRu, hSs, hDD⟩ := id hR; have hn6 := hC.2.1; have hu5 := hU.2.1
  refine aw_aload_n dd_ra_above_0 rfl 0 rfl ?_
  refine aw_iload_n dd_ra_above_1 rfl 1 rfl ?_
  rcases bl_c (rb_i (ga_n A) x) with h1 | h1
  · refine aw_cVx mm_ra_checkRole 0 0 _ 0 [_] _ (wc_ra_checkRoleF G κ μ o rest (by omega) hC.1 h1) dd_ra_above_2 cv_ra_60 my_ra_checkRole np_ra_checkRole rfl rfl rfl (by decide) rfl rfl (Nat.le_of_ble_eq_true rfl) (Nat.le_of_ble_eq_true rfl) (fun k9 => ?_)
    rw [ab_above, if_pos (show (rb_i (ga_n A) x && rb_i (ga_n A) y) = false by rw [h1]; rfl)]
    exact aw_out (fun _ h9 => nomatch h9) ⟨_, _, rfl, hR.app _, Or.inr ⟨0, 8, rfl, rfl, rfl⟩⟩
  · refine aw_cVv mm_ra_checkRole 1 6 _ 0 [_] _ (wc_ra_checkRoleT G κ μ o rest (by omega) hC.1 h1) dd_ra_above_2 cv_ra_60 my_ra_checkRole np_ra_checkRole rfl rfl rfl (by decide) rfl rfl (Nat.le_of_ble_eq_true rfl) (Nat.le_of_ble_eq_true rfl) ?_
    refine aw_aload_n dd_ra_above_5 rfl 0 rfl ?_
    refine aw_iload_n dd_ra_above_6 rfl 2 rfl ?_
    rcases bl_c (rb_i (ga_n A) y) with h2 | h2
    · refine aw_cVx mm_ra_checkRole 0 0 _ 0 [_] _ (wc_ra_checkRoleF G κ μ o rest (by omega) hC.1 h2) dd_ra_above_7 cv_ra_60 my_ra_checkRole np_ra_checkRole rfl rfl rfl (by decide) rfl rfl (Nat.le_of_ble_eq_true rfl) (Nat.le_of_ble_eq_true rfl) (fun k9 => ?_)
      rw [ab_above, if_pos (show (rb_i (ga_n A) x && rb_i (ga_n A) y) = false by rw [h1, h2]; rfl)]
      exact aw_out (fun _ h9 => nomatch h9) ⟨_, _, rfl, hR.app _, Or.inr ⟨0, 8, rfl, rfl, rfl⟩⟩
    · rw [ab_above, if_neg (show ¬ (rb_i (ga_n A) x && rb_i (ga_n A) y) = false by rw [h1, h2]; decide)]
      obtain ⟨a, ha, rfl⟩ := rb_n (by omega) h1
      obtain ⟨b, hb, rfl⟩ := rb_n (by omega) h2
      rw [iN_n (by omega), iN_n (by omega)]
      have p1 := pc_1 (bel := ga_b A) hb a
      have p2 := pc_1 (bel := ga_b A) ha b
      refine aw_cVv mm_ra_checkRole 1 6 _ 0 [_] _ (wc_ra_checkRoleT G κ μ o rest (by omega) hC.1 h2) dd_ra_above_7 cv_ra_60 my_ra_checkRole np_ra_checkRole rfl rfl rfl (by decide) rfl rfl (Nat.le_of_ble_eq_true rfl) (Nat.le_of_ble_eq_true rfl) ?_
      refine aw_iload_n dd_ra_above_10 rfl 1 rfl ?_
      refine aw_iload_n dd_ra_above_11 rfl 2 rfl ?_
      refine aw_icmp_eq (tgt := 27) dd_ra_above_12 (by decide) (fun h3 => ?_) (fun h3 => ?_)
      · rw [if_pos (show (decide (¬ nI a = nI b) && !(ga_b A b).testBit a) = false by simp [h3])]
        exact aw_throw 9 th_ra_68_70 dd_ra_above_27 dd_ra_above_30 dd_ra_above_31 dd_ra_above_33 dd_ra_above_36 (fun _ h9 => nomatch h9) (Nat.le_of_ble_eq_true rfl) (Nat.le_of_ble_eq_true rfl) (by decide) (by decide) ⟨_, _, rfl, hR.app _, Or.inr ⟨1, 9, rfl, rfl, rfl⟩⟩
      · have h3n : ¬ a = b := fun h9 => h3 (by rw [h9])
        refine aw_aload_n dd_ra_above_15 rfl 0 rfl ?_
        refine aw_getf _ 0 0 dd_ra_above_16 fl_ra_12 rfl rfl ?_
        refine aw_iload_n dd_ra_above_19 rfl 2 rfl ?_
        refine aw_iload_n dd_ra_above_20 rfl 1 rfl ?_
        refine aw_cVi mm_po_standsAbove 1 6 _ 1 [_, _] _ (wc_po_standsAbove G κ μ o rest hC (by omega) (by omega)) dd_ra_above_21 cv_ra_64 my_po_standsAbove np_po_standsAbove rfl rfl rfl (by decide) rfl rfl (Nat.le_of_ble_eq_true rfl) (Nat.le_of_ble_eq_true rfl) ?_
        refine aw_if_eq (tgt := 37) dd_ra_above_24 (by decide) (fun h4 => ?_) (fun h4 => ?_)
        · have h4 := zb_e0 h4
          have hnb : ¬ (pc_f (ga_b A) (1 <<< b) (ga_n A)).testBit a = true := fun h9 => by (rw [h9, show decide (¬ b = a) = true from decide_eq_true (fun h8 => h3n h8.symm)] at h4; cases h4)
          have h5 : (ga_b A b).testBit a = false := by
            cases h8 : (ga_b A b).testBit a with
            | false => rfl
            | true => exact absurd (p1.mpr (Or.inr h8)) hnb
          rw [if_neg (show ¬ (decide (¬ nI a = nI b) && !(ga_b A b).testBit a) = false by rw [h5, show decide (¬ nI a = nI b) = true from decide_eq_true h3]; decide)]
          refine aw_aload_n dd_ra_above_37 rfl 0 rfl ?_
          refine aw_getf _ 0 0 dd_ra_above_38 fl_ra_12 rfl rfl ?_
          refine aw_iload_n dd_ra_above_41 rfl 1 rfl ?_
          refine aw_iload_n dd_ra_above_42 rfl 2 rfl ?_
          refine aw_cVi mm_po_standsAbove 1 6 _ 1 [_, _] _ (wc_po_standsAbove G κ μ o rest hC (by omega) (by omega)) dd_ra_above_43 cv_ra_64 my_po_standsAbove np_po_standsAbove rfl rfl rfl (by decide) rfl rfl (Nat.le_of_ble_eq_true rfl) (Nat.le_of_ble_eq_true rfl) ?_
          refine aw_if_eq (tgt := 51) dd_ra_above_46 (by decide) (fun h6 => ?_) (fun h6 => ?_)
          · have h6 := zb_e0 h6
            have h7 : (ga_b A a).testBit b = false := by
              cases h8 : (ga_b A a).testBit b with
              | false => rfl
              | true => (rw [p2.mpr (Or.inr h8), show decide (¬ a = b) = true from decide_eq_true h3n] at h6; cases h6)
            rw [h7]
            refine aw_iconst (v := (nI 0)) dd_ra_above_51 (by decide) ?_
            refine aw_istore_n (lv' := [(3, _), (0, _), (1, _), (2, _)]) dd_ra_above_52 rfl (by decide) rfl ?_
            exact wl_ra_above G κ μ o rest hR ha hb hnb (ga_u A) 0 (Nat.zero_add _) rfl
          · have h6 := zb_n0 h6
            rw [Bool.and_eq_true] at h6
            have h7 : (ga_b A a).testBit b = true := (p2.mp h6.2).resolve_left h3n
            rw [pb_id (n := ga_n A) hW.2.2.2.2.1 h7, h7, if_neg (bt_ne ((pa_ki _ _).mpr fun v hv => hW.2.2.2.2.2.1 v hv))]
            refine aw_iconst (v := 0) dd_ra_above_49 (by decide) ?_
            exact aw_zret dd_ra_above_50 rfl (Or.inl rfl) ⟨_, _, rfl, hR, Or.inl ⟨rfl, rfl⟩⟩
        · have h4 := zb_n0 h4
          rw [Bool.and_eq_true] at h4
          have h5 : (ga_b A b).testBit a = true := (p1.mp h4.2).resolve_left (fun h9 => h3n h9.symm)
          rw [if_pos (show (decide (¬ nI a = nI b) && !(ga_b A b).testBit a) = false by rw [h5]; simp)]
          exact aw_throw 9 th_ra_68_70 dd_ra_above_27 dd_ra_above_30 dd_ra_above_31 dd_ra_above_33 dd_ra_above_36 (fun _ h9 => nomatch h9) (Nat.le_of_ble_eq_true rfl) (Nat.le_of_ble_eq_true rfl) (by decide) (by decide) ⟨_, _, rfl, hR.app _, Or.inr ⟨1, 9, rfl, rfl, rfl⟩⟩
