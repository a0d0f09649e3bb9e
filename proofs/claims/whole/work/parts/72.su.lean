/-! ===== the class: nearestGoal, stepsTo, stepCode, distance, plan ===== -/
theorem mv_d {A : aa_T} {m : Nat} (hn6 : ga_n A ≤ 6) (hn0 : 0 < ga_n A) : mv_c A m / 100 = m / 2 / ga_n A ∧ mv_c A m % 100 / 10 = m / 2 % ga_n A := by
  have h1 := Nat.mod_lt (m / 2) hn0
  have h2 := Nat.mod_lt m (show 0 < 2 by decide)
  unfold mv_c
  generalize m / 2 / ga_n A = v at *
  generalize m / 2 % ga_n A = r at *
  generalize m % 2 = k at *
  omega
theorem bk_p {A : aa_T} {s m t : Nat} (h12 : ga_u A * ga_n A ≤ 12) (hn6 : ga_n A ≤ 6) (hn0 : 0 < ga_n A) (hm : m < sc_M A) (h : sc_t A s m = some t) : t ^^^ 1 <<< (mv_c A m / 100 * ga_n A + mv_c A m % 100 / 10) = s ∧ mv_c A m / 100 * ga_n A + mv_c A m % 100 / 10 < 32 := by
  obtain ⟨e1, e2⟩ := mv_d (m := m) hn6 hn0
  obtain ⟨h1, h2⟩ := mv_v hn0 hm
  have h3 := vn_le h1 h12
  rw [e1, e2]
  refine ⟨?_, by omega⟩
  rw [(ps_x h).1, Nat.xor_assoc, Nat.xor_self, Nat.xor_zero]
theorem bf_z {st : Nat → Nat → Option Nat} {M N s0 k m i : Nat} {F : List bf_E} {x : bf_E} (hI : bf_I st M N s0 k m F) (hx : F[i]? = some x) : x.2.2.2 = 0 ↔ i = 0 := by
  constructor
  · intro h
    rcases Nat.eq_zero_or_pos i with e | e
    · exact e
    · obtain ⟨-, -, y, -, -, h5⟩ := hI.2.2.2.1 i x e hx
      omega
  · intro e
    subst e
    rw [hI.1] at hx
    cases hx
    rfl
theorem wl_se_stepsTo (G : ag_T) (κ : ck_T) (μ : cm_T) (o : Nat → Int64) (rest : List va_E) {A : aa_T} (hR : rk_R G κ rest A) (hW : wa_W A) (h12 : ga_u A * ga_n A ≤ 12) (hn0 : 0 < ga_n A) {i : Nat} {gx : bf_E} (hg : (sc_F A i)[i]? = some gx) (hf : bk_R A (sc_F A i) (κ.1 1) (κ.2.1 1) (κ.2.1 2)) {w1 : Int32} : ∀ (k r : Nat), r + k = gx.2.2.2 → ∀ x : bf_E, (sc_F A i)[bf_u (sc_F A i) i r]? = some x → aw_w G mm_se_stepsTo 2 44 0 0 4 [(3, .int (nI x.1)), (2, .int (nI r)), (0, .ref (G.1 + 6)), (1, .int w1)] [] (hp_f G κ μ o rest) (q_i (nI gx.2.2.2) (hp_f G κ μ o rest)) := by
  obtain ⟨hC, hGr, hU, hSL, hDL, hRu, hSs, hDD⟩ := id hR; have hn6 := hC.2.1; have hu5 := hU.2.1
  have hI := sc_I hW h12 hn0 i
  have hil : i < 4096 := Nat.lt_of_lt_of_le (List.getElem?_eq_some_iff.mp hg).1 (bf_len hI)
  have hD := dp_lt hI i gx hg
  intro k
  induction k with
  | zero =>
    intro r hr x hx
    have e : r = gx.2.2.2 := by omega
    subst e
    obtain ⟨x0, hx0, hd0, -⟩ := bf_d hI hg gx.2.2.2 (Nat.le_refl _)
    rw [hx] at hx0; cases hx0
    have hz := (bf_z hI hx).mp (by omega)
    have hfx := hf.2.1 _ x hx
    rw [if_pos hz] at hfx
    have hsx := hI.2.1 _ x hx
    refine aw_aload_n dd_se_stepsTo_4 rfl 2 rfl ?_
    refine aw_getf _ 2 2 dd_se_stepsTo_5 fl_se_19 rfl rfl ?_
    refine aw_iload_n dd_se_stepsTo_8 rfl 0 rfl ?_
    refine aw_iaN _ (x.1) dd_se_stepsTo_9 rfl (hsx) (by decide) ?_
    refine aw_top hfx.2.1 ?_
    refine aw_if_lt (tgt := 32) dd_se_stepsTo_10 (by decide) (fun _ => ?_) (fun h9 => absurd (by decide) h9)
    refine aw_iload_n dd_se_stepsTo_32 rfl 1 rfl ?_
    exact aw_iret dd_se_stepsTo_33 rfl ⟨rfl, rfl⟩
  | succ k ih =>
    intro r hr x hx
    obtain ⟨x0, y, hx0, hy, e1, e2, e3, e4, e5, e6, e7⟩ := bf_e hI hg (q := r) (by omega)
    rw [hx] at hx0; cases hx0
    have hnz : ¬ bf_u (sc_F A i) i r = 0 := by omega
    have hfx := hf.2.1 _ x hx
    rw [if_neg hnz] at hfx
    have hc := hfx.2.2 (by omega)
    have hsx := hI.2.1 _ x hx
    obtain ⟨p1, p2⟩ := bk_p h12 hn6 hn0 e3 e2
    refine aw_aload_n dd_se_stepsTo_4 rfl 2 rfl ?_
    refine aw_getf _ 2 2 dd_se_stepsTo_5 fl_se_19 rfl rfl ?_
    refine aw_iload_n dd_se_stepsTo_8 rfl 0 rfl ?_
    refine aw_iaN _ (x.1) dd_se_stepsTo_9 rfl (hsx) (by decide) ?_
    refine aw_top hfx.2.1 ?_
    refine aw_if_lt (tgt := 32) dd_se_stepsTo_10 (by decide) (fun h9 => absurd h9 (nI_pos (by omega))) (fun _ => ?_)
    refine aw_iload_n dd_se_stepsTo_13 rfl 1 rfl ?_
    refine aw_sipush (v := (nI 4096)) dd_se_stepsTo_14 (by decide) ?_
    refine aw_icmp_ge (tgt := 32) dd_se_stepsTo_17 (by decide) (fun h9 => absurd h9 (nI_ge (by omega) (by decide))) (fun _ => ?_)
    refine aw_aload_n dd_se_stepsTo_20 rfl 2 rfl ?_
    refine aw_iload_n dd_se_stepsTo_21 rfl 0 rfl ?_
    refine aw_cVi mm_se_stateBefore 0 0 _ 2 [_] _ (wc_se_stateBefore G κ μ o rest hC.1 hn6 hsx hc hfx.2.1 p2) dd_se_stepsTo_22 cv_se_45 my_se_stateBefore np_se_stateBefore rfl rfl rfl (by decide) rfl rfl (Nat.le_of_ble_eq_true rfl) (Nat.le_of_ble_eq_true rfl) ?_
    rw [p1]
    refine aw_istore_n (lv' := [(3, _), (2, _), (0, _), (1, _)]) dd_se_stepsTo_25 rfl (by decide) rfl ?_
    refine aw_iinc (v := nI (r + 1)) (lv' := [(2, _), (3, _), (0, _), (1, _)]) dd_se_stepsTo_26 1 rfl (nI_1 _) (by decide) rfl ?_
    refine aw_goto (tgt := 4) dd_se_stepsTo_29 (by decide) ?_
    exact aw_lv [1, 0, 2, 3] rfl (ih (r + 1) (by omega) y hy)
theorem wc_se_stepsTo (G : ag_T) (κ : ck_T) (μ : cm_T) (o : Nat → Int64) (rest : List va_E) {A : aa_T} (hR : rk_R G κ rest A) (hW : wa_W A) (h12 : ga_u A * ga_n A ≤ 12) (hn0 : 0 < ga_n A) {i : Nat} {gx : bf_E} (hg : (sc_F A i)[i]? = some gx) (hf : bk_R A (sc_F A i) (κ.1 1) (κ.2.1 1) (κ.2.1 2)) : aw_w G mm_se_stepsTo 2 44 0 0 0 (lv_args 0 [.ref (G.1 + 6), .int (nI gx.1)]) [] (hp_f G κ μ o rest) (q_i (nI gx.2.2.2) (hp_f G κ μ o rest)) := by
  refine aw_iconst (v := (nI 0)) dd_se_stepsTo_0 (by decide) ?_
  refine aw_istore_n (lv' := [(2, _), (0, _), (1, _)]) dd_se_stepsTo_1 rfl (by decide) rfl ?_
  refine aw_iload_n dd_se_stepsTo_2 rfl 2 rfl ?_
  refine aw_istore_n (lv' := [(3, _), (2, _), (0, _), (1, _)]) dd_se_stepsTo_3 rfl (by decide) rfl ?_
  exact wl_se_stepsTo G κ μ o rest hR hW h12 hn0 hg hf gx.2.2.2 0 (Nat.zero_add _) gx hg
theorem wl_se_stepCode (G : ag_T) (κ : ck_T) (μ : cm_T) (o : Nat → Int64) (rest : List va_E) {A : aa_T} (hR : rk_R G κ rest A) (hW : wa_W A) (h12 : ga_u A * ga_n A ≤ 12) (hn0 : 0 < ga_n A) {i : Nat} {gx : bf_E} (hg : (sc_F A i)[i]? = some gx) (hf : bk_R A (sc_F A i) (κ.1 1) (κ.2.1 1) (κ.2.1 2)) {K : Nat} (hK : K < gx.2.2.2) : ∀ (k r : Nat), r + k = gx.2.2.2 - 1 - K → ∀ x : bf_E, (sc_F A i)[bf_u (sc_F A i) i r]? = some x → aw_w G mm_se_stepCode 3 67 0 0 25 [(5, .int (nI (gx.2.2.2 - 1 - r))), (4, .int (nI x.1)), (3, .int (nI gx.2.2.2)), (0, .ref (G.1 + 6)), (1, .int (nI gx.1)), (2, .int (nI K))] [] (hp_f G κ μ o rest) (q_i (nI (sc_c A i K)) (hp_f G κ μ o rest)) := by
  obtain ⟨hC, hGr, hU, hSL, hDL, hRu, hSs, hDD⟩ := id hR; have hn6 := hC.2.1; have hu5 := hU.2.1
  have hI := sc_I hW h12 hn0 i
  have hil : i < 4096 := Nat.lt_of_lt_of_le (List.getElem?_eq_some_iff.mp hg).1 (bf_len hI)
  have hD := dp_lt hI i gx hg
  intro k
  induction k with
  | zero =>
    intro r hr x hx
    have e : r = gx.2.2.2 - 1 - K := by omega
    subst e
    obtain ⟨x0, y, hx0, hy, e1, e2, e3, e4, e5, e6, e7⟩ := bf_e hI hg (q := gx.2.2.2 - 1 - K) (by omega)
    rw [hx] at hx0; cases hx0
    have hnz : ¬ bf_u (sc_F A i) i (gx.2.2.2 - 1 - K) = 0 := by omega
    have hfx := hf.2.1 _ x hx
    rw [if_neg hnz] at hfx
    have hsx := hI.2.1 _ x hx
    have e9 : sc_c A i K = mv_c A x.2.2.1 := by unfold sc_c; rw [sc_df hg, hx]; rfl
    rw [e9]
    refine aw_iload dd_se_stepCode_25 0 rfl ?_
    refine aw_iload_n dd_se_stepCode_27 rfl 5 rfl ?_
    refine aw_icmp_le (tgt := 45) dd_se_stepCode_28 (by decide) (fun _ => ?_) (fun h9 => absurd (nI_le (by omega) (by omega)) h9)
    refine aw_aload_n dd_se_stepCode_45 rfl 3 rfl ?_
    refine aw_getf _ 2 2 dd_se_stepCode_46 fl_se_19 rfl rfl ?_
    refine aw_iload dd_se_stepCode_49 1 rfl ?_
    refine aw_iaN _ (x.1) dd_se_stepCode_51 rfl (hsx) (by decide) ?_
    refine aw_top hfx.2.1 ?_
    exact aw_iret dd_se_stepCode_52 rfl ⟨rfl, rfl⟩
  | succ k ih =>
    intro r hr x hx
    obtain ⟨x0, y, hx0, hy, e1, e2, e3, e4, e5, e6, e7⟩ := bf_e hI hg (q := r) (by omega)
    rw [hx] at hx0; cases hx0
    have hnz : ¬ bf_u (sc_F A i) i r = 0 := by omega
    have hfx := hf.2.1 _ x hx
    rw [if_neg hnz] at hfx
    have hc := hfx.2.2 (by omega)
    have hsx := hI.2.1 _ x hx
    obtain ⟨p1, p2⟩ := bk_p h12 hn6 hn0 e3 e2
    have ed : nI (gx.2.2.2 - 1 - r) + -1 = nI (gx.2.2.2 - 1 - (r + 1)) := by
      rw [show gx.2.2.2 - 1 - r = (gx.2.2.2 - 1 - (r + 1)) + 1 by omega]
      exact ci_d _
    refine aw_iload dd_se_stepCode_25 0 rfl ?_
    refine aw_iload_n dd_se_stepCode_27 rfl 5 rfl ?_
    refine aw_icmp_le (tgt := 45) dd_se_stepCode_28 (by decide) (fun h9 => absurd h9 (fun h9 => by (rw [nI_leI (by omega) (by omega)] at h9; omega))) (fun _ => ?_)
    refine aw_aload_n dd_se_stepCode_31 rfl 3 rfl ?_
    refine aw_iload dd_se_stepCode_32 1 rfl ?_
    refine aw_cVi mm_se_stateBefore 0 0 _ 2 [_] _ (wc_se_stateBefore G κ μ o rest hC.1 hn6 hsx hc hfx.2.1 p2) dd_se_stepCode_34 cv_se_45 my_se_stateBefore np_se_stateBefore rfl rfl rfl (by decide) rfl rfl (Nat.le_of_ble_eq_true rfl) (Nat.le_of_ble_eq_true rfl) ?_
    rw [p1]
    refine aw_istore (lv' := [(4, _), (5, _), (3, _), (0, _), (1, _), (2, _)]) dd_se_stepCode_37 (by decide) rfl ?_
    refine aw_iinc (v := nI (gx.2.2.2 - 1 - (r + 1))) (lv' := [(5, _), (4, _), (3, _), (0, _), (1, _), (2, _)]) dd_se_stepCode_39 1 rfl (ed) (by decide) rfl ?_
    refine aw_goto (tgt := 25) dd_se_stepCode_42 (by decide) ?_
    exact aw_lv [0, 1, 2, 3, 4, 5] rfl (ih (r + 1) (by omega) y hy)
theorem wc_se_stepCode (G : ag_T) (κ : ck_T) (μ : cm_T) (o : Nat → Int64) (rest : List va_E) {A : aa_T} (hR : rk_R G κ rest A) (hW : wa_W A) (h12 : ga_u A * ga_n A ≤ 12) (hn0 : 0 < ga_n A) {i : Nat} {gx : bf_E} (hg : (sc_F A i)[i]? = some gx) (hf : bk_R A (sc_F A i) (κ.1 1) (κ.2.1 1) (κ.2.1 2)) (z : Int32) : aw_w G mm_se_stepCode 3 67 0 0 0 (lv_args 0 [.ref (G.1 + 6), .int (nI gx.1), .int z]) [] (hp_f G κ μ o rest) (q_i (if z < 0 ∨ nI gx.2.2.2 ≤ z then -1 else nI (sc_c A i (iN z))) (hp_f G κ μ o rest)) := by
  obtain ⟨hC, hGr, hU, hSL, hDL, hRu, hSs, hDD⟩ := id hR; have hn6 := hC.2.1; have hu5 := hU.2.1
  have hI := sc_I hW h12 hn0 i
  have hil : i < 4096 := Nat.lt_of_lt_of_le (List.getElem?_eq_some_iff.mp hg).1 (bf_len hI)
  have hD := dp_lt hI i gx hg
  refine aw_aload_n dd_se_stepCode_0 rfl 0 rfl ?_
  refine aw_iload_n dd_se_stepCode_1 rfl 1 rfl ?_
  refine aw_cVi mm_se_stepsTo 0 0 _ 2 [_] _ (wc_se_stepsTo G κ μ o rest hR hW h12 hn0 hg hf) dd_se_stepCode_2 cv_se_49 my_se_stepsTo np_se_stepsTo rfl rfl rfl (by decide) rfl rfl (Nat.le_of_ble_eq_true rfl) (Nat.le_of_ble_eq_true rfl) ?_
  refine aw_istore_n (lv' := [(3, _), (0, _), (1, _), (2, _)]) dd_se_stepCode_5 rfl (by decide) rfl ?_
  refine aw_iload_n dd_se_stepCode_6 rfl 3 rfl ?_
  refine aw_if_lt (tgt := 15) dd_se_stepCode_7 (by decide) (fun h1 => ?_) (fun h1 => ?_)
  · rw [if_pos (Or.inl h1)]
    refine aw_iconst (v := (-1)) dd_se_stepCode_15 (by decide) ?_
    exact aw_iret dd_se_stepCode_16 rfl ⟨rfl, rfl⟩
  · refine aw_iload_n dd_se_stepCode_10 rfl 3 rfl ?_
    refine aw_iload_n dd_se_stepCode_11 rfl 0 rfl ?_
    refine aw_icmp_lt (tgt := 17) dd_se_stepCode_12 (by decide) (fun h2 => ?_) (fun h2 => ?_)
    · rw [if_neg (show ¬ (z < 0 ∨ nI gx.2.2.2 ≤ z) from fun h9 => h9.elim h1 (fun h9 => Int32.not_lt.mpr h9 h2))]
      obtain ⟨K, hK, rfl⟩ := nI_of h1
      rw [iN_n hK]
      rw [nI_ltI hK (by omega)] at h2
      refine aw_iload_n dd_se_stepCode_17 rfl 2 rfl ?_
      refine aw_istore (lv' := [(4, _), (3, _), (0, _), (1, _), (2, _)]) dd_se_stepCode_18 (by decide) rfl ?_
      refine aw_iload_n dd_se_stepCode_20 rfl 1 rfl ?_
      refine aw_iconst (v := (nI 1)) dd_se_stepCode_21 (by decide) ?_
      refine aw_isub dd_se_stepCode_22 ?_
      refine aw_top (nI_sub (by omega)) ?_
      refine aw_istore (lv' := [(5, _), (4, _), (3, _), (0, _), (1, _), (2, _)]) dd_se_stepCode_23 (by decide) rfl ?_
      exact wl_se_stepCode G κ μ o rest hR hW h12 hn0 hg hf h2 (gx.2.2.2 - 1 - K) 0 (Nat.zero_add _) gx hg
    · rw [if_pos (Or.inr (Int32.not_lt.mp h2))]
      refine aw_iconst (v := (-1)) dd_se_stepCode_15 (by decide) ?_
      exact aw_iret dd_se_stepCode_16 rfl ⟨rfl, rfl⟩
theorem wl_se_nearestGoal (G : ag_T) (κ : ck_T) (μ : cm_T) (o : Nat → Int64) (rest : List va_E) {A : aa_T} (hR : rk_R G κ rest A) (hW : wa_W A) (h12 : ga_u A * ga_n A ≤ 12) (hn0 : 0 < ga_n A) {v9 r9 : Nat} (hv : v9 < ga_u A) (hr9 : r9 < ga_n A) : ∀ (k r : Nat), r + k = 4097 → sc_f A v9 r9 4097 0 = sc_f A v9 r9 k r → r ≤ (sc_F A r).length → ∀ fc g f, bk_R A (sc_F A r) fc g f → aw_w G mm_se_nearestGoal 6 140 0 0 13 [(5, .int (nI r)), (0, .ref (G.1 + 6)), (1, .ref (G.1 + 9)), (2, .int (nI (ga_u A))), (3, .int (nI v9)), (4, .int (nI r9))] [] (hp_f G (ks_f κ fc (nI (ga_u A)) g f) μ o rest) (qe_i fun w h' => ∃ fc g f, h' = (hp_f G (ks_f κ fc (nI (ga_u A)) g f) μ o rest) ∧ (sc_f A v9 r9 4097 0 = none → w = -1) ∧ ∀ i, sc_f A v9 r9 4097 0 = some i → ∃ x : bf_E, (sc_F A i)[i]? = some x ∧ w = nI x.1 ∧ bk_R A (sc_F A i) fc g f) := by
  obtain ⟨hC, hGr, hU, hSL, hDL, hRu, hSs, hDD⟩ := id hR; have hn6 := hC.2.1; have hu5 := hU.2.1
  have hvn := vn_le hv h12
  intro k
  induction k with
  | zero =>
    intro r hr hsf hrl fc g f hf
    have h1 := bf_len (sc_I hW h12 hn0 r)
    omega
  | succ k ih =>
    intro r hr hsf hrl fc g f hf
    have hI := sc_I hW h12 hn0 r
    have hl := bf_len hI
    refine aw_iload dd_se_nearestGoal_13 0 rfl ?_
    refine aw_aload_n dd_se_nearestGoal_15 rfl 1 rfl ?_
    refine aw_getf _ 2 3 dd_se_nearestGoal_16 fl_se_30 rfl rfl ?_
    refine aw_top (y := nI (sc_F A r).length) hf.1 ?_
    refine aw_icmp_ge (tgt := 69) dd_se_nearestGoal_19 (by decide) (fun hc => ?_) (fun hc => ?_)
    · rw [nI_leI (by omega) (by omega)] at hc
      have hnone : sc_f A v9 r9 4097 0 = none := by
        rw [hsf]; unfold sc_f; rw [bf_f]
        have e9 : (sc_F A r)[r]? = none := List.getElem?_eq_none hc
        unfold sc_F at e9
        rw [e9]
      refine aw_iconst (v := (-1)) dd_se_nearestGoal_69 (by decide) ?_
      exact aw_iret dd_se_nearestGoal_70 rfl ⟨_, rfl, fc, g, f, rfl, fun _ => rfl, fun i hi => by (rw [hnone] at hi; cases hi)⟩
    · rw [nI_leI (by omega) (by omega)] at hc
      obtain ⟨x, hx⟩ := tk_g (ls := sc_F A r) (k := r) (by omega)
      have hsx := hI.2.1 r x hx
      have hstep : sc_f A v9 r9 (k + 1) r = if sc_g A v9 r9 x.1 = true then some r else sc_f A v9 r9 k (r + 1) := by
        unfold sc_f; rw [bf_f]
        have e9 := hx
        unfold sc_F at e9
        rw [e9]
      rw [hstep] at hsf
      refine aw_iload dd_se_nearestGoal_22 0 rfl ?_
      refine aw_sipush (v := (nI 4096)) dd_se_nearestGoal_24 (by decide) ?_
      refine aw_icmp_ge (tgt := 69) dd_se_nearestGoal_27 (by decide) (fun h9 => absurd h9 (nI_ge (by omega) (by decide))) (fun _ => ?_)
      refine aw_aload_n dd_se_nearestGoal_30 rfl 1 rfl ?_
      refine aw_getf _ 2 1 dd_se_nearestGoal_31 fl_se_15 rfl rfl ?_
      refine aw_iload dd_se_nearestGoal_34 0 rfl ?_
      refine aw_iaN _ (r) dd_se_nearestGoal_36 rfl (by omega) (by decide) ?_
      refine aw_top (y := nI x.1) (hf.2.1 r x hx).1 ?_
      refine aw_istore (lv' := [(6, _), (5, _), (0, _), (1, _), (2, _), (3, _), (4, _)]) dd_se_nearestGoal_37 (by decide) rfl ?_
      refine aw_aload_n dd_se_nearestGoal_39 rfl 2 rfl ?_
      refine aw_iload dd_se_nearestGoal_40 0 rfl ?_
      refine aw_iload_n dd_se_nearestGoal_42 rfl 5 rfl ?_
      refine aw_cVi mm_se_authorizedIn 0 0 _ 2 [_, _] _ (wc_se_authorizedIn G (ks_f κ fc (nI (ga_u A)) g f) μ o rest hC (by omega) (by omega)) dd_se_nearestGoal_43 cv_se_33 my_se_authorizedIn np_se_authorizedIn rfl rfl rfl (by decide) rfl rfl (Nat.le_of_ble_eq_true rfl) (Nat.le_of_ble_eq_true rfl) ?_
      refine aw_iload dd_se_nearestGoal_46 6 rfl ?_
      refine aw_cNi mm_ra_has 0 0 "RoleAnalyser" [_, _] _ (wc_ra_has G _ (by have := pc_64 hC.2.2.2 (pi_lt (ga_n A) x.1 v9 hn6) (ga_n A); omega) (by omega)) dd_se_nearestGoal_48 cs_se_37 my_ra_has np_ra_has rfl (by decide) rfl rfl (Nat.le_of_ble_eq_true rfl) (Nat.le_of_ble_eq_true rfl) ?_
      refine aw_if_eq (tgt := 57) dd_se_nearestGoal_51 (by decide) (fun hgl => ?_) (fun hgl => ?_)
      · have hgl := zb_e0 hgl
        rw [show sc_g A v9 r9 x.1 = false from hgl, if_neg Bool.false_ne_true] at hsf
        refine aw_aload_n dd_se_nearestGoal_57 rfl 2 rfl ?_
        refine aw_iload dd_se_nearestGoal_58 0 rfl ?_
        refine aw_cVf mm_se_takeSteps 0 0 _ 2 [_] _ (wc_se_takeSteps G κ μ o rest hR hW h12 hn0 hx hf) dd_se_nearestGoal_60 cv_se_41 my_se_takeSteps np_se_takeSteps rfl rfl rfl (by decide) rfl rfl (Nat.le_of_ble_eq_true rfl) (Nat.le_of_ble_eq_true rfl) (fun h9 hq => ?_)
        obtain ⟨fc1, g1, f1, rfl, hf1⟩ := hq
        refine aw_iinc (v := nI (r + 1)) (lv' := [(5, _), (6, _), (0, _), (1, _), (2, _), (3, _), (4, _)]) dd_se_nearestGoal_63 1 rfl (nI_1 _) (by decide) rfl ?_
        refine aw_goto (tgt := 13) dd_se_nearestGoal_66 (by decide) ?_
        exact aw_lv [0, 2, 3, 4, 5, 6] rfl (ih (r + 1) (by omega) hsf (List.getElem?_eq_some_iff.mp (sc_p hx)).1 fc1 g1 f1 hf1)
      · have hgl := zb_n0 hgl
        rw [show sc_g A v9 r9 x.1 = true from hgl, if_pos rfl] at hsf
        refine aw_iload dd_se_nearestGoal_54 0 rfl ?_
        exact aw_iret dd_se_nearestGoal_56 rfl ⟨_, rfl, fc, g, f, rfl, fun hi => by (rw [hsf] at hi; cases hi), fun i hi => by (rw [hsf] at hi; cases hi; exact ⟨x, hx, rfl, hf⟩)⟩
theorem wc_se_nearestGoal (G : ag_T) (κ : ck_T) (μ : cm_T) (o : Nat → Int64) (rest : List va_E) {A : aa_T} (hR : rk_R G κ rest A) (hW : wa_W A) (h12 : ga_u A * ga_n A ≤ 12) (hn0 : 0 < ga_n A) {v9 r9 : Nat} (hv : v9 < ga_u A) (hr9 : r9 < ga_n A) : aw_w G mm_se_nearestGoal 6 140 0 0 0 (lv_args 0 [.ref (G.1 + 6), .ref (G.1 + 9), .int (nI (ga_u A)), .int (nI v9), .int (nI r9)]) [] (hp_f G κ μ o rest) (qe_i fun w h' => ∃ fc g f, h' = (hp_f G (ks_f κ fc (nI (ga_u A)) g f) μ o rest) ∧ (sc_f A v9 r9 4097 0 = none → w = -1) ∧ ∀ i, sc_f A v9 r9 4097 0 = some i → ∃ x : bf_E, (sc_F A i)[i]? = some x ∧ w = nI x.1 ∧ bk_R A (sc_F A i) fc g f) := by
  obtain ⟨hC, hGr, hU, hSL, hDL, hRu, hSs, hDD⟩ := id hR; have hn6 := hC.2.1; have hu5 := hU.2.1
  rw [show hp_f G κ μ o rest = hp_f G (ks_f κ (κ.1 1) (κ.1 2) (κ.2.1 1) (κ.2.1 2)) μ o rest by rw [ks_0]]
  refine aw_aload_n dd_se_nearestGoal_0 rfl 0 rfl ?_
  refine aw_iload_n dd_se_nearestGoal_1 rfl 2 rfl ?_
  refine aw_putf _ 2 4 dd_se_nearestGoal_2 fl_se_22 nf_se_4 rfl (rfl) (rfl) (Nat.le_of_ble_eq_true rfl) ?_
  refine aw_h (hs_ks2 G _ _ _ _ _) ?_
  rw [ks_u]
  refine aw_aload_n dd_se_nearestGoal_5 rfl 0 rfl ?_
  refine aw_aload_n dd_se_nearestGoal_6 rfl 1 rfl ?_
  refine aw_cVf mm_se_begin 0 0 _ 2 [_] _ (wc_se_begin G κ μ o rest hR hW h12 hn0 _ _ _) dd_se_nearestGoal_7 cv_se_26 my_se_begin np_se_begin rfl rfl rfl (by decide) rfl rfl (Nat.le_of_ble_eq_true rfl) (Nat.le_of_ble_eq_true rfl) (fun h9 hq => ?_)
  obtain ⟨fc, g, f, rfl, hf⟩ := hq
  refine aw_iconst (v := (nI 0)) dd_se_nearestGoal_10 (by decide) ?_
  refine aw_istore (lv' := [(5, _), (0, _), (1, _), (2, _), (3, _), (4, _)]) dd_se_nearestGoal_11 (by decide) rfl ?_
  exact aw_lv [0, 1, 2, 3, 4, 5] rfl (wl_se_nearestGoal G κ μ o rest hR hW h12 hn0 hv hr9 4097 0 rfl rfl (Nat.zero_le _) fc g f hf)
theorem wc_ra_checkQuestionT (G : ag_T) (κ : ck_T) (μ : cm_T) (o : Nat → Int64) (rest : List va_E) {A : aa_T} (hR : rk_R G κ rest A) {x y : Int32} (h1 : rb_i (ga_u A) x = true) (h2 : rb_i (ga_n A) y = true) (h12 : ga_u A * ga_n A ≤ 12) : aw_w G mm_ra_checkQuestion 7 114 0 0 0 (lv_args 0 [.ref (G.1 + 0), .int x, .int y]) [] (hp_f G κ μ o rest) (q_v (hp_f G κ μ o rest)) := by
  obtain ⟨hC, hGr, hU, hSL, hDL, hRu, hSs, hDD⟩ := id hR; have hn6 := hC.2.1; have hu5 := hU.2.1
  have hm30 : ga_u A * ga_n A ≤ 5 * 6 := Nat.mul_le_mul hu5 hn6
  refine aw_aload_n dd_ra_checkQuestion_0 rfl 0 rfl ?_
  refine aw_iload_n dd_ra_checkQuestion_1 rfl 1 rfl ?_
  refine aw_cVv mm_ra_checkUser 0 0 _ 0 [_] _ (wc_ra_checkUserT G κ μ o rest (by omega) hU.1 h1) dd_ra_checkQuestion_2 cv_ra_143 my_ra_checkUser np_ra_checkUser rfl rfl rfl (by decide) rfl rfl (Nat.le_of_ble_eq_true rfl) (Nat.le_of_ble_eq_true rfl) ?_
  refine aw_aload_n dd_ra_checkQuestion_5 rfl 0 rfl ?_
  refine aw_iload_n dd_ra_checkQuestion_6 rfl 2 rfl ?_
  refine aw_cVv mm_ra_checkRole 0 0 _ 0 [_] _ (wc_ra_checkRoleT G κ μ o rest (by omega) hC.1 h2) dd_ra_checkQuestion_7 cv_ra_60 my_ra_checkRole np_ra_checkRole rfl rfl rfl (by decide) rfl rfl (Nat.le_of_ble_eq_true rfl) (Nat.le_of_ble_eq_true rfl) ?_
  refine aw_aload_n dd_ra_checkQuestion_10 rfl 0 rfl ?_
  refine aw_getf _ 0 6 dd_ra_checkQuestion_11 fl_ra_55 rfl rfl ?_
  refine aw_top (hU.1) ?_
  refine aw_aload_n dd_ra_checkQuestion_14 rfl 0 rfl ?_
  refine aw_getf _ 0 0 dd_ra_checkQuestion_15 fl_ra_12 rfl rfl ?_
  refine aw_getf _ 1 0 dd_ra_checkQuestion_18 fl_ra_44 rfl rfl ?_
  refine aw_top (hC.1) ?_
  refine aw_imul dd_ra_checkQuestion_21 ?_
  refine aw_top (nI_mul _ _) ?_
  refine aw_bipush (v := (nI 12)) dd_ra_checkQuestion_22 (by decide) ?_
  refine aw_icmp_le (tgt := 37) dd_ra_checkQuestion_24 (by decide) (fun _ => ?_) (fun h9 => absurd (nI_le h12 (by decide)) h9)
  exact aw_vret dd_ra_checkQuestion_37 rfl ⟨rfl, rfl⟩
theorem wc_ra_checkQuestionU (G : ag_T) (κ : ck_T) (μ : cm_T) (o : Nat → Int64) (rest : List va_E) {A : aa_T} (hR : rk_R G κ rest A) {x y : Int32} (h1 : rb_i (ga_u A) x = false) : aw_w G mm_ra_checkQuestion 7 114 1 6 0 (lv_args 0 [.ref (G.1 + 0), .int x, .int y]) [] (hp_f G κ μ o rest) (q_x 8 (hp_f G κ μ o (rest ++ [.inr (8, [])]))) := by
  obtain ⟨hC, hGr, hU, hSL, hDL, hRu, hSs, hDD⟩ := id hR; have hn6 := hC.2.1; have hu5 := hU.2.1
  refine aw_aload_n dd_ra_checkQuestion_0 rfl 0 rfl ?_
  refine aw_iload_n dd_ra_checkQuestion_1 rfl 1 rfl ?_
  refine aw_cVx mm_ra_checkUser 0 0 _ 0 [_] _ (wc_ra_checkUserF G κ μ o rest (by omega) hU.1 h1) dd_ra_checkQuestion_2 cv_ra_143 my_ra_checkUser np_ra_checkUser rfl rfl rfl (by decide) rfl rfl (Nat.le_of_ble_eq_true rfl) (Nat.le_of_ble_eq_true rfl) (fun k9 => ?_)
  exact aw_out (fun _ h9 => nomatch h9) ⟨rfl, rfl⟩
theorem wc_ra_checkQuestionR (G : ag_T) (κ : ck_T) (μ : cm_T) (o : Nat → Int64) (rest : List va_E) {A : aa_T} (hR : rk_R G κ rest A) {x y : Int32} (h1 : rb_i (ga_u A) x = true) (h2 : rb_i (ga_n A) y = false) : aw_w G mm_ra_checkQuestion 7 114 1 6 0 (lv_args 0 [.ref (G.1 + 0), .int x, .int y]) [] (hp_f G κ μ o rest) (q_x 8 (hp_f G κ μ o (rest ++ [.inr (8, [])]))) := by
  obtain ⟨hC, hGr, hU, hSL, hDL, hRu, hSs, hDD⟩ := id hR; have hn6 := hC.2.1; have hu5 := hU.2.1
  refine aw_aload_n dd_ra_checkQuestion_0 rfl 0 rfl ?_
  refine aw_iload_n dd_ra_checkQuestion_1 rfl 1 rfl ?_
  refine aw_cVv mm_ra_checkUser 1 6 _ 0 [_] _ (wc_ra_checkUserT G κ μ o rest (by omega) hU.1 h1) dd_ra_checkQuestion_2 cv_ra_143 my_ra_checkUser np_ra_checkUser rfl rfl rfl (by decide) rfl rfl (Nat.le_of_ble_eq_true rfl) (Nat.le_of_ble_eq_true rfl) ?_
  refine aw_aload_n dd_ra_checkQuestion_5 rfl 0 rfl ?_
  refine aw_iload_n dd_ra_checkQuestion_6 rfl 2 rfl ?_
  refine aw_cVx mm_ra_checkRole 0 0 _ 0 [_] _ (wc_ra_checkRoleF G κ μ o rest (by omega) hC.1 h2) dd_ra_checkQuestion_7 cv_ra_60 my_ra_checkRole np_ra_checkRole rfl rfl rfl (by decide) rfl rfl (Nat.le_of_ble_eq_true rfl) (Nat.le_of_ble_eq_true rfl) (fun k9 => ?_)
  exact aw_out (fun _ h9 => nomatch h9) ⟨rfl, rfl⟩
theorem wc_ra_checkQuestionP (G : ag_T) (κ : ck_T) (μ : cm_T) (o : Nat → Int64) (rest : List va_E) {A : aa_T} (hR : rk_R G κ rest A) {x y : Int32} (h1 : rb_i (ga_u A) x = true) (h2 : rb_i (ga_n A) y = true) (h12 : ¬ ga_u A * ga_n A ≤ 12) : aw_w G mm_ra_checkQuestion 7 114 1 6 0 (lv_args 0 [.ref (G.1 + 0), .int x, .int y]) [] (hp_f G κ μ o rest) (q_x 10 (hp_f G κ μ o (rest ++ [.inr (10, [])]))) := by
  obtain ⟨hC, hGr, hU, hSL, hDL, hRu, hSs, hDD⟩ := id hR; have hn6 := hC.2.1; have hu5 := hU.2.1
  have hm30 : ga_u A * ga_n A ≤ 5 * 6 := Nat.mul_le_mul hu5 hn6
  refine aw_aload_n dd_ra_checkQuestion_0 rfl 0 rfl ?_
  refine aw_iload_n dd_ra_checkQuestion_1 rfl 1 rfl ?_
  refine aw_cVv mm_ra_checkUser 1 6 _ 0 [_] _ (wc_ra_checkUserT G κ μ o rest (by omega) hU.1 h1) dd_ra_checkQuestion_2 cv_ra_143 my_ra_checkUser np_ra_checkUser rfl rfl rfl (by decide) rfl rfl (Nat.le_of_ble_eq_true rfl) (Nat.le_of_ble_eq_true rfl) ?_
  refine aw_aload_n dd_ra_checkQuestion_5 rfl 0 rfl ?_
  refine aw_iload_n dd_ra_checkQuestion_6 rfl 2 rfl ?_
  refine aw_cVv mm_ra_checkRole 1 6 _ 0 [_] _ (wc_ra_checkRoleT G κ μ o rest (by omega) hC.1 h2) dd_ra_checkQuestion_7 cv_ra_60 my_ra_checkRole np_ra_checkRole rfl rfl rfl (by decide) rfl rfl (Nat.le_of_ble_eq_true rfl) (Nat.le_of_ble_eq_true rfl) ?_
  refine aw_aload_n dd_ra_checkQuestion_10 rfl 0 rfl ?_
  refine aw_getf _ 0 6 dd_ra_checkQuestion_11 fl_ra_55 rfl rfl ?_
  refine aw_top (hU.1) ?_
  refine aw_aload_n dd_ra_checkQuestion_14 rfl 0 rfl ?_
  refine aw_getf _ 0 0 dd_ra_checkQuestion_15 fl_ra_12 rfl rfl ?_
  refine aw_getf _ 1 0 dd_ra_checkQuestion_18 fl_ra_44 rfl rfl ?_
  refine aw_top (hC.1) ?_
  refine aw_imul dd_ra_checkQuestion_21 ?_
  refine aw_top (nI_mul _ _) ?_
  refine aw_bipush (v := (nI 12)) dd_ra_checkQuestion_22 (by decide) ?_
  refine aw_icmp_le (tgt := 37) dd_ra_checkQuestion_24 (by decide) (fun h9 => absurd h9 (fun h9 => h12 ((nI_leI (by omega) (by decide)).mp h9))) (fun _ => ?_)
  exact aw_throw 10 th_ra_161_204 dd_ra_checkQuestion_27 dd_ra_checkQuestion_30 dd_ra_checkQuestion_31 dd_ra_checkQuestion_33 dd_ra_checkQuestion_36 (fun _ h9 => nomatch h9) (Nat.le_of_ble_eq_true rfl) (Nat.le_of_ble_eq_true rfl) (by decide) (by decide) ⟨rfl, rfl⟩
theorem wc_ra_distance (G : ag_T) (κ : ck_T) (μ : cm_T) (o : Nat → Int64) (rest : List va_E) {A : aa_T} (hR : rk_R G κ rest A) (hW : wa_W A) (x y : Int32) : aw_w G mm_ra_distance 8 166 1 6 0 (lv_args 0 [.ref (G.1 + 0), .int x, .int y]) [] (hp_f G κ μ o rest) (qc_R G μ o [8, 10] (ab_distance A x y)) := by
  obtain ⟨hC, hGr, hU, hSL, hDL, hRu, hSs, hDD⟩ := id hR; have hn6 := hC.2.1; have hu5 := hU.2.1
  refine aw_aload_n dd_ra_distance_0 rfl 0 rfl ?_
  refine aw_iload_n dd_ra_distance_1 rfl 1 rfl ?_
  refine aw_iload_n dd_ra_distance_2 rfl 2 rfl ?_
  rcases bl_c (rb_i (ga_u A) x) with h1 | h1
  · rw [ab_distance, if_pos (show (rb_i (ga_u A) x && rb_i (ga_n A) y) = false by rw [h1]; rfl)]
    refine aw_cVx mm_ra_checkQuestion 0 0 _ 0 [_, _] _ (wc_ra_checkQuestionU G κ μ o rest hR h1) dd_ra_distance_3 cv_ra_175 my_ra_checkQuestion np_ra_checkQuestion rfl rfl rfl (by decide) rfl rfl (Nat.le_of_ble_eq_true rfl) (Nat.le_of_ble_eq_true rfl) (fun k9 => ?_)
    exact aw_out (fun _ h9 => nomatch h9) ⟨_, _, rfl, hR.app _, Or.inr ⟨0, 8, rfl, rfl, rfl⟩⟩
  · rcases bl_c (rb_i (ga_n A) y) with h2 | h2
    · rw [ab_distance, if_pos (show (rb_i (ga_u A) x && rb_i (ga_n A) y) = false by rw [h1, h2]; rfl)]
      refine aw_cVx mm_ra_checkQuestion 0 0 _ 0 [_, _] _ (wc_ra_checkQuestionR G κ μ o rest hR h1 h2) dd_ra_distance_3 cv_ra_175 my_ra_checkQuestion np_ra_checkQuestion rfl rfl rfl (by decide) rfl rfl (Nat.le_of_ble_eq_true rfl) (Nat.le_of_ble_eq_true rfl) (fun k9 => ?_)
      exact aw_out (fun _ h9 => nomatch h9) ⟨_, _, rfl, hR.app _, Or.inr ⟨0, 8, rfl, rfl, rfl⟩⟩
    · rw [ab_distance, if_neg (show ¬ (rb_i (ga_u A) x && rb_i (ga_n A) y) = false by rw [h1, h2]; decide)]
      by_cases h12 : ga_u A * ga_n A ≤ 12
      · rw [if_neg (show ¬ decide (ga_u A * ga_n A ≤ 12) = false by rw [decide_eq_true h12]; decide)]
        obtain ⟨j, hj, rfl⟩ := rb_n (by omega) h1
        obtain ⟨k, hk, rfl⟩ := rb_n (by omega) h2
        rw [iN_n (by omega), iN_n (by omega)]
        refine aw_cVv mm_ra_checkQuestion 1 6 _ 0 [_, _] _ (wc_ra_checkQuestionT G κ μ o rest hR h1 h2 h12) dd_ra_distance_3 cv_ra_175 my_ra_checkQuestion np_ra_checkQuestion rfl rfl rfl (by decide) rfl rfl (Nat.le_of_ble_eq_true rfl) (Nat.le_of_ble_eq_true rfl) ?_
        refine aw_aload_n dd_ra_distance_6 rfl 0 rfl ?_
        refine aw_getf _ 0 1 dd_ra_distance_7 fl_ra_21 rfl rfl ?_
        refine aw_aload_n dd_ra_distance_10 rfl 0 rfl ?_
        refine aw_getf _ 0 2 dd_ra_distance_11 fl_ra_25 rfl rfl ?_
        refine aw_aload_n dd_ra_distance_14 rfl 0 rfl ?_
        refine aw_getf _ 0 6 dd_ra_distance_15 fl_ra_55 rfl rfl ?_
        refine aw_top (hU.1) ?_
        refine aw_iload_n dd_ra_distance_18 rfl 1 rfl ?_
        refine aw_iload_n dd_ra_distance_19 rfl 2 rfl ?_
        refine aw_cVe mm_se_nearestGoal 1 6 _ 2 [_, _, _, _] _ (wc_se_nearestGoal G κ μ o rest hR hW h12 (by omega) hj hk) dd_ra_distance_20 cv_ra_178 my_se_nearestGoal np_se_nearestGoal rfl rfl rfl (by decide) rfl rfl (Nat.le_of_ble_eq_true rfl) (Nat.le_of_ble_eq_true rfl) (fun w9 h9 hq => ?_)
        obtain ⟨fc, g, f, rfl, hnone, hsome⟩ := hq
        refine aw_istore_n (lv' := [(3, _), (0, _), (1, _), (2, _)]) dd_ra_distance_23 rfl (by decide) rfl ?_
        refine aw_iload_n dd_ra_distance_24 rfl 0 rfl ?_
        refine aw_iconst (v := (-1)) dd_ra_distance_25 (by decide) ?_
        refine aw_icmp_ne (tgt := 33) dd_ra_distance_26 (by decide) (fun h5 => ?_) (fun h5 => ?_)
        · obtain ⟨i, hi⟩ : ∃ i, sc_f A j k 4097 0 = some i := by
            cases hsf : sc_f A j k 4097 0 with
            | none => exact absurd (hnone hsf) h5
            | some i => exact ⟨i, rfl⟩
          obtain ⟨gx, hg, rfl, hf⟩ := hsome i hi
          rw [hi, ds_z, sc_df hg]
          refine aw_aload_n dd_ra_distance_33 rfl 1 rfl ?_
          refine aw_getf _ 0 1 dd_ra_distance_34 fl_ra_21 rfl rfl ?_
          refine aw_iload_n dd_ra_distance_37 rfl 0 rfl ?_
          refine aw_cVi mm_se_stepsTo 1 6 _ 2 [_] _ (wc_se_stepsTo G (ks_f κ fc (nI (ga_u A)) g f) μ o rest hR hW h12 (by omega) hg hf) dd_ra_distance_38 cv_ra_182 my_se_stepsTo np_se_stepsTo rfl rfl rfl (by decide) rfl rfl (Nat.le_of_ble_eq_true rfl) (Nat.le_of_ble_eq_true rfl) ?_
          exact aw_iret dd_ra_distance_41 rfl ⟨_, _, rfl, hR, Or.inl ⟨rfl, rfl⟩⟩
        · have hi : sc_f A j k 4097 0 = none := by
            cases hsf : sc_f A j k 4097 0 with
            | none => rfl
            | some i => (obtain ⟨gx, hg, e9, -⟩ := hsome i hsf; have hsx := (sc_I hW h12 (by omega) i).2.1 i gx hg; have h8 := nI_pos (n := gx.1) (by omega); rw [← e9, h5] at h8; exact absurd (by decide) h8)
          rw [hi]
          refine aw_iconst (v := (-1)) dd_ra_distance_29 (by decide) ?_
          refine aw_goto (tgt := 41) dd_ra_distance_30 (by decide) ?_
          exact aw_iret dd_ra_distance_41 rfl ⟨_, _, rfl, hR, Or.inl ⟨rfl, rfl⟩⟩
      · rw [if_pos (show decide (ga_u A * ga_n A ≤ 12) = false from decide_eq_false h12)]
        refine aw_cVx mm_ra_checkQuestion 0 0 _ 0 [_, _] _ (wc_ra_checkQuestionP G κ μ o rest hR h1 h2 h12) dd_ra_distance_3 cv_ra_175 my_ra_checkQuestion np_ra_checkQuestion rfl rfl rfl (by decide) rfl rfl (Nat.le_of_ble_eq_true rfl) (Nat.le_of_ble_eq_true rfl) (fun k9 => ?_)
        exact aw_out (fun _ h9 => nomatch h9) ⟨_, _, rfl, hR.app _, Or.inr ⟨1, 10, rfl, rfl, rfl⟩⟩
theorem wc_ra_plan (G : ag_T) (κ : ck_T) (μ : cm_T) (o : Nat → Int64) (rest : List va_E) {A : aa_T} (hR : rk_R G κ rest A) (hW : wa_W A) (x y z : Int32) : aw_w G mm_ra_plan 8 166 1 6 0 (lv_args 0 [.ref (G.1 + 0), .int x, .int y, .int z]) [] (hp_f G κ μ o rest) (qc_R G μ o [8, 10, 7] (ab_plan A x y z)) := by
  obtain ⟨hC, hGr, hU, hSL, hDL, hRu, hSs, hDD⟩ := id hR; have hn6 := hC.2.1; have hu5 := hU.2.1
  refine aw_aload_n dd_ra_plan_0 rfl 0 rfl ?_
  refine aw_iload_n dd_ra_plan_1 rfl 1 rfl ?_
  refine aw_iload_n dd_ra_plan_2 rfl 2 rfl ?_
  rcases bl_c (rb_i (ga_u A) x) with h1 | h1
  · rw [ab_plan, if_pos (show (rb_i (ga_u A) x && rb_i (ga_n A) y) = false by rw [h1]; rfl)]
    refine aw_cVx mm_ra_checkQuestion 0 0 _ 0 [_, _] _ (wc_ra_checkQuestionU G κ μ o rest hR h1) dd_ra_plan_3 cv_ra_175 my_ra_checkQuestion np_ra_checkQuestion rfl rfl rfl (by decide) rfl rfl (Nat.le_of_ble_eq_true rfl) (Nat.le_of_ble_eq_true rfl) (fun k9 => ?_)
    exact aw_out (fun _ h9 => nomatch h9) ⟨_, _, rfl, hR.app _, Or.inr ⟨0, 8, rfl, rfl, rfl⟩⟩
  · rcases bl_c (rb_i (ga_n A) y) with h2 | h2
    · rw [ab_plan, if_pos (show (rb_i (ga_u A) x && rb_i (ga_n A) y) = false by rw [h1, h2]; rfl)]
      refine aw_cVx mm_ra_checkQuestion 0 0 _ 0 [_, _] _ (wc_ra_checkQuestionR G κ μ o rest hR h1 h2) dd_ra_plan_3 cv_ra_175 my_ra_checkQuestion np_ra_checkQuestion rfl rfl rfl (by decide) rfl rfl (Nat.le_of_ble_eq_true rfl) (Nat.le_of_ble_eq_true rfl) (fun k9 => ?_)
      exact aw_out (fun _ h9 => nomatch h9) ⟨_, _, rfl, hR.app _, Or.inr ⟨0, 8, rfl, rfl, rfl⟩⟩
    · rw [ab_plan, if_neg (show ¬ (rb_i (ga_u A) x && rb_i (ga_n A) y) = false by rw [h1, h2]; decide)]
      by_cases h12 : ga_u A * ga_n A ≤ 12
      · rw [if_neg (show ¬ decide (ga_u A * ga_n A ≤ 12) = false by rw [decide_eq_true h12]; decide)]
        obtain ⟨j, hj, rfl⟩ := rb_n (by omega) h1
        obtain ⟨k, hk, rfl⟩ := rb_n (by omega) h2
        rw [iN_n (by omega), iN_n (by omega)]
        refine aw_cVv mm_ra_checkQuestion 1 6 _ 0 [_, _] _ (wc_ra_checkQuestionT G κ μ o rest hR h1 h2 h12) dd_ra_plan_3 cv_ra_175 my_ra_checkQuestion np_ra_checkQuestion rfl rfl rfl (by decide) rfl rfl (Nat.le_of_ble_eq_true rfl) (Nat.le_of_ble_eq_true rfl) ?_
        refine aw_aload_n dd_ra_plan_6 rfl 0 rfl ?_
        refine aw_getf _ 0 1 dd_ra_plan_7 fl_ra_21 rfl rfl ?_
        refine aw_aload_n dd_ra_plan_10 rfl 0 rfl ?_
        refine aw_getf _ 0 2 dd_ra_plan_11 fl_ra_25 rfl rfl ?_
        refine aw_aload_n dd_ra_plan_14 rfl 0 rfl ?_
        refine aw_getf _ 0 6 dd_ra_plan_15 fl_ra_55 rfl rfl ?_
        refine aw_top (hU.1) ?_
        refine aw_iload_n dd_ra_plan_18 rfl 1 rfl ?_
        refine aw_iload_n dd_ra_plan_19 rfl 2 rfl ?_
        refine aw_cVe mm_se_nearestGoal 1 6 _ 2 [_, _, _, _] _ (wc_se_nearestGoal G κ μ o rest hR hW h12 (by omega) hj hk) dd_ra_plan_20 cv_ra_178 my_se_nearestGoal np_se_nearestGoal rfl rfl rfl (by decide) rfl rfl (Nat.le_of_ble_eq_true rfl) (Nat.le_of_ble_eq_true rfl) (fun w9 h9 hq => ?_)
        obtain ⟨fc, g, f, rfl, hnone, hsome⟩ := hq
        refine aw_istore (lv' := [(4, _), (0, _), (1, _), (2, _), (3, _)]) dd_ra_plan_23 (by decide) rfl ?_
        refine aw_iload dd_ra_plan_25 0 rfl ?_
        refine aw_iconst (v := (-1)) dd_ra_plan_27 (by decide) ?_
        refine aw_icmp_ne (tgt := 41) dd_ra_plan_28 (by decide) (fun h5 => ?_) (fun h5 => ?_)
        · obtain ⟨i, hi⟩ : ∃ i, sc_f A j k 4097 0 = some i := by
            cases hsf : sc_f A j k 4097 0 with
            | none => exact absurd (hnone hsf) h5
            | some i => exact ⟨i, rfl⟩
          obtain ⟨gx, hg, rfl, hf⟩ := hsome i hi
          rw [hi, pl_z, sc_df hg]
          refine aw_aload_n dd_ra_plan_41 rfl 1 rfl ?_
          refine aw_getf _ 0 1 dd_ra_plan_42 fl_ra_21 rfl rfl ?_
          refine aw_iload dd_ra_plan_45 0 rfl ?_
          refine aw_iload_n dd_ra_plan_47 rfl 4 rfl ?_
          refine aw_cVi mm_se_stepCode 1 6 _ 2 [_, _] _ (wc_se_stepCode G (ks_f κ fc (nI (ga_u A)) g f) μ o rest hR hW h12 (by omega) hg hf z) dd_ra_plan_48 cv_ra_187 my_se_stepCode np_se_stepCode rfl rfl rfl (by decide) rfl rfl (Nat.le_of_ble_eq_true rfl) (Nat.le_of_ble_eq_true rfl) ?_
          exact aw_iret dd_ra_plan_51 rfl (by split <;> exact ⟨_, _, rfl, hR, Or.inl ⟨rfl, rfl⟩⟩)
        · have hi : sc_f A j k 4097 0 = none := by
            cases hsf : sc_f A j k 4097 0 with
            | none => rfl
            | some i => (obtain ⟨gx, hg, e9, -⟩ := hsome i hsf; have hsx := (sc_I hW h12 (by omega) i).2.1 i gx hg; have h8 := nI_pos (n := gx.1) (by omega); rw [← e9, h5] at h8; exact absurd (by decide) h8)
          rw [hi]
          exact aw_throw 7 th_ra_48_185 dd_ra_plan_31 dd_ra_plan_34 dd_ra_plan_35 dd_ra_plan_37 dd_ra_plan_40 (fun _ h9 => nomatch h9) (Nat.le_of_ble_eq_true rfl) (Nat.le_of_ble_eq_true rfl) (by decide) (by decide) ⟨_, _, rfl, hR.app _, Or.inr ⟨2, 7, rfl, rfl, rfl⟩⟩
      · rw [if_pos (show decide (ga_u A * ga_n A ≤ 12) = false from decide_eq_false h12)]
        refine aw_cVx mm_ra_checkQuestion 0 0 _ 0 [_, _] _ (wc_ra_checkQuestionP G κ μ o rest hR h1 h2 h12) dd_ra_plan_3 cv_ra_175 my_ra_checkQuestion np_ra_checkQuestion rfl rfl rfl (by decide) rfl rfl (Nat.le_of_ble_eq_true rfl) (Nat.le_of_ble_eq_true rfl) (fun k9 => ?_)
        exact aw_out (fun _ h9 => nomatch h9) ⟨_, _, rfl, hR.app _, Or.inr ⟨1, 10, rfl, rfl, rfl⟩⟩
