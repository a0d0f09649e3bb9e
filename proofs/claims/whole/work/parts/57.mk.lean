/-! ===== the reference: mark, plan ===== -/
def mk_I (A : aa_T) (v r : Nat) (F : List bf_E) (f : Nat → Int32) (D lo m : Nat) (L : Nat → Bool) : Prop :=
  (∀ s, s < 4096 → L s = true → ∃ e, e ≤ D ∧ f s = nI e ∧ bf_C (sc_t A) (sc_M A) (sc_g A v r) (D - e) s)
  ∧ (∀ (p : Nat) (y : bf_E), F[p]? = some y → y.2.2.2 = D → sc_g A v r y.1 = true → L y.1 = true)
  ∧ ∀ (p : Nat) (y : bf_E) (m' t j : Nat) (z : bf_E), (lo ≤ p ∨ (p + 1 = lo ∧ m' < m)) → F[p]? = some y → y.2.2.2 < D → m' < sc_M A → sc_t A y.1 m' = some t → F[j]? = some z → z.1 = t → p < j → z.2.2.2 = y.2.2.2 + 1 → L t = true → L y.1 = true
theorem mk_s {A : aa_T} {v r : Nat} {F : List bf_E} {q : Int32} {f g : Nat → Int32} {D kk m : Nat} {L : Nat → Bool} {x : bf_E} {b : Bool} (h : mk_I A v r F f D (kk + 1) m L) (hF : bs_R F q f g) (hD : D < 2 ^ 31) (h2 : ∀ (i j : Nat) (x y : bf_E), F[i]? = some x → F[j]? = some y → x.1 = y.1 → i = j) (hx : F[kk]? = some x) (hd : x.2.2.2 < D) (hm : m < sc_M A)
    (hb1 : b = true → ∃ t, sc_t A x.1 m = some t ∧ t < 4096 ∧ f t = nI (x.2.2.2 + 1) ∧ L t = true) (hb2 : ∀ t, sc_t A x.1 m = some t → f t = nI (x.2.2.2 + 1) → L t = true → b = true) : mk_I A v r F f D (kk + 1) (m + 1) (up_f L x.1 (L x.1 || b)) := by
  obtain ⟨i1, i2, i3⟩ := h
  have up : ∀ s, L s = true → up_f L x.1 (L x.1 || b) s = true := by
    intro s hs
    unfold up_f
    split
    · rename_i e; subst e; rw [hs]; rfl
    · exact hs
  have ne : ∀ s, ¬ s = x.1 → up_f L x.1 (L x.1 || b) s = L s := fun s hs => by unfold up_f; rw [if_neg hs]
  have eq : up_f L x.1 (L x.1 || b) x.1 = (L x.1 || b) := by unfold up_f; rw [if_pos rfl]
  refine ⟨fun s hs hL => ?_, fun p y hp hy hg => up _ (i2 p y hp hy hg), fun p y m' t j z hp hy hyd hm' ht hz hzt hpj hzd hL => ?_⟩
  · by_cases e : s = x.1
    · subst e
      rw [eq, Bool.or_eq_true] at hL
      rcases hL with hL | hL
      · exact i1 _ hs hL
      · obtain ⟨t, t1, t2, t3, t4⟩ := hb1 hL
        obtain ⟨e, e1, e2, e3⟩ := i1 t t2 t4
        rw [t3, nI_eq (by omega) (by omega)] at e2
        subst e2
        refine ⟨x.2.2.2, by omega, (hF.2.1 kk x hx).2.1, ?_⟩
        rw [show D - x.2.2.2 = (D - (x.2.2.2 + 1)) + 1 by omega]
        exact ⟨m, t, hm, t1, e3⟩
    · rw [ne s e] at hL
      exact i1 s hs hL
  · have htn : ¬ t = x.1 := by
      intro e
      have := h2 j kk z x hz hx (by rw [hzt, e])
      omega
    rw [ne t htn] at hL
    by_cases hpk : p = kk
    · subst hpk
      rw [hx] at hy; cases hy
      by_cases hmm : m' = m
      · subst hmm
        rw [eq, hb2 t ht (by rw [← hzt, (hF.2.1 j z hz).2.1, hzd]) hL, Bool.or_true]
      · exact up _ (i3 p x m' t j z (Or.inr ⟨rfl, by omega⟩) hx hyd hm' ht hz hzt hpj hzd hL)
    · exact up _ (i3 p y m' t j z (by omega) hy hyd hm' ht hz hzt hpj hzd hL)
theorem mk_r {A : aa_T} {v r : Nat} {F : List bf_E} {f : Nat → Int32} {D kk m : Nat} {L : Nat → Bool} {x : bf_E} (h : mk_I A v r F f D (kk + 1) m L) (hx : F[kk]? = some x) (hm : m = sc_M A ∨ D ≤ x.2.2.2) : mk_I A v r F f D kk 0 L := by
  obtain ⟨i1, i2, i3⟩ := h
  refine ⟨i1, i2, fun p y m' t j z hp hy hyd hm' ht hz hzt hpj hzd hL => ?_⟩
  by_cases hpk : p = kk
  · subst hpk
    rw [hx] at hy; cases hy
    exact i3 p x m' t j z (Or.inr ⟨rfl, by omega⟩) hx hyd hm' ht hz hzt hpj hzd hL
  · exact i3 p y m' t j z (Or.inl (by omega)) hy hyd hm' ht hz hzt hpj hzd hL
/-- the path is marked -/
theorem mk_p {A : aa_T} {v r i : Nat} {f : Nat → Int32} {L : Nat → Bool} {gx : bf_E} (hI : bf_I (sc_t A) (sc_M A) 4096 (sc_0 A) i 0 (sc_F A i)) (hg : (sc_F A i)[i]? = some gx) (hgl : sc_g A v r gx.1 = true) (h : mk_I A v r (sc_F A i) f gx.2.2.2 0 0 L) : ∀ q, q ≤ gx.2.2.2 → ∀ x : bf_E, (sc_F A i)[bf_u (sc_F A i) i q]? = some x → L x.1 = true
  | 0, _ => fun x hx => by
    have hx' : (sc_F A i)[i]? = some x := hx
    rw [hg] at hx'; cases hx'
    exact h.2.1 i _ hg rfl hgl
  | q + 1, hq => fun y hy => by
    obtain ⟨a, b, ha, hb, e1, e2, e3, e4, e5, e6, e7⟩ := bf_e hI hg (q := q) (by omega)
    rw [hy] at hb; cases hb
    exact h.2.2 _ y a.2.2.1 a.1 _ a (Or.inl (Nat.zero_le _)) hy (by omega) e3 e2 ha rfl e4 e6 (mk_p hI hg hgl h q (by omega) a ha)
def ci_f : Nat → Int32
  | 0 => -1
  | r + 1 => nI r
theorem ci_d (r : Nat) : nI r + -1 = ci_f r := by
  cases r with
  | zero => decide
  | succ r => exact (Int32.sub_eq_add_neg (nI (r + 1)) 1).symm.trans (nI_pred r)
theorem wl_mo_mark1 (G : ag_T) (κ : ck_T) (μ : cm_T) (o : Nat → Int64) (rest : List va_E) {A : aa_T} (hR : rm_R μ A) (hW : wa_W A) (h12 : ga_u A * ga_n A ≤ 12) {v9 r9 : Nat} (hv : v9 < ga_u A) (hr9 : r9 < ga_n A) {F : List bf_E} (hF : bs_R F (μ.1 4) (μ.2 15) (μ.2 17)) {D : Nat} (hD : D < 2 ^ 31) (hnr : μ.1 5 = nI D) {Q : aq_T} (hend : ∀ l : Nat → Int32, (∀ s, s < 4096 → l s = zb_i (decide (μ.2 15 s = nI D) && sc_g A v9 r9 s)) → aw_w G mm_mo_mark 3 74 0 0 49 [(3, .int (nI 4096)), (0, .ref (G.1 + 13)), (1, .int (nI v9)), (2, .int (nI r9))] [] (hp_f G κ (μ.1, va_up μ.2 16 l) o rest) Q) : ∀ (k r : Nat), r + k = 4096 → ∀ l : Nat → Int32, (∀ s, s < r → l s = zb_i (decide (μ.2 15 s = nI D) && sc_g A v9 r9 s)) → aw_w G mm_mo_mark 3 74 0 0 2 [(3, .int (nI r)), (0, .ref (G.1 + 13)), (1, .int (nI v9)), (2, .int (nI r9))] [] (hp_f G κ (μ.1, va_up μ.2 16 l) o rest) Q := by
  obtain ⟨hB, hGr, hU, hSL, hDL, hRs, hSs⟩ := id hR; have hn6 := hB.2.1; have hu5 := hU.2.1
  have hst := sc_s h12 (by omega : 0 < ga_n A)
  have hvn := vn_le hv h12
  intro k
  induction k with
  | zero =>
    intro r hr l hl
    have e : r = 4096 := by omega
    subst e
    refine aw_iload_n dd_mo_mark_2 rfl 0 rfl ?_
    refine aw_sipush (v := (nI 4096)) dd_mo_mark_3 (by decide) ?_
    refine aw_icmp_ge (tgt := 49) dd_mo_mark_6 (by decide) (fun _ => ?_) (fun h9 => absurd (nI_le (Nat.le_refl _) (by decide)) h9)
    exact hend l hl
  | succ k ih =>
    intro r hr l hl
    refine aw_iload_n dd_mo_mark_2 rfl 0 rfl ?_
    refine aw_sipush (v := (nI 4096)) dd_mo_mark_3 (by decide) ?_
    refine aw_icmp_ge (tgt := 49) dd_mo_mark_6 (by decide) (fun h9 => absurd h9 (nI_ge (by omega) (by decide))) (fun _ => ?_)
    refine aw_aload_n dd_mo_mark_9 rfl 1 rfl ?_
    refine aw_getf _ 5 20 dd_mo_mark_10 fl_mo_59 rfl rfl ?_
    refine aw_iload_n dd_mo_mark_13 rfl 0 rfl ?_
    refine aw_join (tgt := 42) (v := zb_i (decide (μ.2 15 r = nI D) && sc_g A v9 r9 r)) ?_ (fun kj14 => ?_)
    · refine aw_zsN _ (r) dd_mo_mark_42 rfl (by omega) (by decide) (zb_01 _) ?_
      refine aw_h (hs_ma16 G _ _ _ _ _ _) ?_
      rw [kv_a]
      refine aw_iinc (v := nI (r + 1)) (lv' := [(3, _), (0, _), (1, _), (2, _)]) dd_mo_mark_43 0 rfl (nI_1 _) (by decide) rfl ?_
      refine aw_goto (tgt := 2) dd_mo_mark_46 (by decide) ?_
      refine ih (r + 1) (by omega) _ (fun i hi => ?_)
      unfold upd
      split
      · rename_i e; rw [e]
      · exact hl i (by omega)
    · refine aw_aload_n dd_mo_mark_14 rfl 1 rfl ?_
      refine aw_getf _ 5 19 dd_mo_mark_15 fl_mo_56 rfl rfl ?_
      refine aw_iload_n dd_mo_mark_18 rfl 0 rfl ?_
      refine aw_iaN _ (r) dd_mo_mark_19 rfl (by omega) (by decide) ?_
      refine aw_top (y := μ.2 15 r) rfl ?_
      refine aw_aload_n dd_mo_mark_20 rfl 1 rfl ?_
      refine aw_getf _ 5 23 dd_mo_mark_21 fl_mo_138 rfl rfl ?_
      refine aw_top (hnr) ?_
      refine aw_icmp_ne (tgt := 41) dd_mo_mark_24 (by decide) (fun h1 => ?_) (fun h1 => ?_)
      · refine aw_iconst (v := 0) dd_mo_mark_41 (by decide) ?_
        exact aw_top (by first | (have h3 := zb_e0 h2; clear kj14 ih; simp [zb_i, sc_g, h3]; done) | (have h3 := zb_n0 h2; clear kj14 ih; simp [zb_i, sc_g, h3, h1]; done) | (clear kj14 ih; simp [zb_i, h1])) kj14
      · refine aw_aload_n dd_mo_mark_27 rfl 1 rfl ?_
        refine aw_iload_n dd_mo_mark_28 rfl 0 rfl ?_
        refine aw_iload_n dd_mo_mark_29 rfl 2 rfl ?_
        refine aw_iload_n dd_mo_mark_30 rfl 3 rfl ?_
        refine aw_cVi mm_mo_has 0 0 _ 5 [_, _, _] _ (wc_mo_has G κ (μ.1, va_up μ.2 16 l) o rest hB (by omega) (by omega) (by omega)) dd_mo_mark_31 cv_mo_141 my_mo_has np_mo_has rfl rfl rfl (by decide) rfl rfl (Nat.le_of_ble_eq_true rfl) (Nat.le_of_ble_eq_true rfl) ?_
        refine aw_if_eq (tgt := 41) dd_mo_mark_34 (by decide) (fun h2 => ?_) (fun h2 => ?_)
        · refine aw_iconst (v := 0) dd_mo_mark_41 (by decide) ?_
          exact aw_top (by first | (have h3 := zb_e0 h2; clear kj14 ih; simp [zb_i, sc_g, h3]; done) | (have h3 := zb_n0 h2; clear kj14 ih; simp [zb_i, sc_g, h3, h1]; done) | (clear kj14 ih; simp [zb_i, h1])) kj14
        · refine aw_iconst (v := 1) dd_mo_mark_37 (by decide) ?_
          refine aw_goto (tgt := 42) dd_mo_mark_38 (by decide) ?_
          exact aw_top (by first | (have h3 := zb_e0 h2; clear kj14 ih; simp [zb_i, sc_g, h3]; done) | (have h3 := zb_n0 h2; clear kj14 ih; simp [zb_i, sc_g, h3, h1]; done) | (clear kj14 ih; simp [zb_i, h1])) kj14
theorem wl_mo_mark2 (G : ag_T) (κ : ck_T) (μ : cm_T) (o : Nat → Int64) (rest : List va_E) {A : aa_T} (hR : rm_R μ A) (hW : wa_W A) (h12 : ga_u A * ga_n A ≤ 12) {v9 r9 : Nat} (hv : v9 < ga_u A) (hr9 : r9 < ga_n A) {F : List bf_E} (hF : bs_R F (μ.1 4) (μ.2 15) (μ.2 17)) {D : Nat} (hD : D < 2 ^ 31) (hnr : μ.1 5 = nI D) (hFA : ∀ (i : Nat) (x : bf_E), F[i]? = some x → x.1 < 4096) (hF2 : ∀ (i j : Nat) (x y : bf_E), F[i]? = some x → F[j]? = some y → x.1 = y.1 → i = j) {kk : Nat} {x : bf_E} (hx : F[kk]? = some x) {Q : aq_T} (hend : ∀ (m9 : Nat) (l : Nat → Int32) (L : Nat → Bool), (∀ s, s < 4096 → l s = zb_i (L s)) → mk_I A v9 r9 F (μ.2 15) D kk 0 L → aw_w G mm_mo_mark 3 74 0 0 201 [(5, .int (nI m9)), (4, .int (nI x.1)), (3, .int (nI kk)), (0, .ref (G.1 + 13)), (1, .int (nI v9)), (2, .int (nI r9))] [] (hp_f G κ (μ.1, va_up μ.2 16 l) o rest) Q) : ∀ (k r : Nat), r + k = 2 * ga_u A * ga_n A → ∀ (l : Nat → Int32) (L : Nat → Bool), (∀ s, s < 4096 → l s = zb_i (L s)) → mk_I A v9 r9 F (μ.2 15) D (kk + 1) r L → aw_w G mm_mo_mark 3 74 0 0 71 [(5, .int (nI r)), (4, .int (nI x.1)), (3, .int (nI kk)), (0, .ref (G.1 + 13)), (1, .int (nI v9)), (2, .int (nI r9))] [] (hp_f G κ (μ.1, va_up μ.2 16 l) o rest) Q := by
  obtain ⟨hB, hGr, hU, hSL, hDL, hRs, hSs⟩ := id hR; have hn6 := hB.2.1; have hu5 := hU.2.1
  have hst := sc_s h12 (by omega : 0 < ga_n A)
  have hM : 2 * ga_u A * ga_n A ≤ 24 := by rw [Nat.mul_assoc]; omega
  have hsx := hFA kk x hx
  have hxx := hF.2.1 kk x hx
  intro k
  induction k with
  | zero =>
    intro r hr l L hl hI
    have e : r = 2 * ga_u A * ga_n A := by omega
    refine aw_iload dd_mo_mark_71 0 rfl ?_
    refine aw_iconst (v := (nI 2)) dd_mo_mark_73 (by decide) ?_
    refine aw_aload_n dd_mo_mark_74 rfl 3 rfl ?_
    refine aw_getf _ 5 2 dd_mo_mark_75 fl_mo_72 rfl rfl ?_
    refine aw_top (hU.1) ?_
    refine aw_imul dd_mo_mark_78 ?_
    refine aw_top (nI_mul _ _) ?_
    refine aw_aload_n dd_mo_mark_79 rfl 3 rfl ?_
    refine aw_getf _ 5 1 dd_mo_mark_80 fl_mo_69 rfl rfl ?_
    refine aw_top (hB.1) ?_
    refine aw_imul dd_mo_mark_83 ?_
    refine aw_top (nI_mul _ _) ?_
    refine aw_icmp_ge (tgt := 201) dd_mo_mark_84 (by decide) (fun _ => ?_) (fun h9 => absurd (nI_le (by omega) (by omega)) h9)
    exact hend r l L hl (mk_r hI hx (Or.inl e))
  | succ k ih =>
    intro r hr l L hl hI
    have mv := mv_v (m := r) (u := ga_u A) (n := ga_n A) (by omega) (by omega)
    refine aw_iload dd_mo_mark_71 0 rfl ?_
    refine aw_iconst (v := (nI 2)) dd_mo_mark_73 (by decide) ?_
    refine aw_aload_n dd_mo_mark_74 rfl 3 rfl ?_
    refine aw_getf _ 5 2 dd_mo_mark_75 fl_mo_72 rfl rfl ?_
    refine aw_top (hU.1) ?_
    refine aw_imul dd_mo_mark_78 ?_
    refine aw_top (nI_mul _ _) ?_
    refine aw_aload_n dd_mo_mark_79 rfl 3 rfl ?_
    refine aw_getf _ 5 1 dd_mo_mark_80 fl_mo_69 rfl rfl ?_
    refine aw_top (hB.1) ?_
    refine aw_imul dd_mo_mark_83 ?_
    refine aw_top (nI_mul _ _) ?_
    refine aw_icmp_ge (tgt := 201) dd_mo_mark_84 (by decide) (fun h9 => absurd h9 (nI_ge (by omega) (by omega))) (fun _ => ?_)
    refine aw_aload_n dd_mo_mark_87 rfl 3 rfl ?_
    refine aw_getf _ 5 19 dd_mo_mark_88 fl_mo_56 rfl rfl ?_
    refine aw_iload dd_mo_mark_91 1 rfl ?_
    refine aw_iaN _ (x.1) dd_mo_mark_93 rfl (hsx) (by decide) ?_
    refine aw_top (y := nI x.2.2.2) hxx.2.1 ?_
    refine aw_aload_n dd_mo_mark_94 rfl 3 rfl ?_
    refine aw_getf _ 5 23 dd_mo_mark_95 fl_mo_138 rfl rfl ?_
    refine aw_top (hnr) ?_
    refine aw_icmp_ge (tgt := 201) dd_mo_mark_98 (by decide) (fun hdd => ?_) (fun hdd => ?_)
    · rw [nI_leI (by omega) (by omega)] at hdd
      exact hend r l L hl (mk_r hI hx (Or.inr hdd))
    · rw [nI_leI (by omega) (by omega)] at hdd
      refine aw_aload_n dd_mo_mark_101 rfl 3 rfl ?_
      refine aw_iload dd_mo_mark_102 1 rfl ?_
      refine aw_iload dd_mo_mark_104 0 rfl ?_
      refine aw_iconst (v := (nI 2)) dd_mo_mark_106 (by decide) ?_
      refine aw_idiv dd_mo_mark_107 (by decide) ?_
      refine aw_top (nI_div (by omega) (by decide)) ?_
      refine aw_aload_n dd_mo_mark_108 rfl 3 rfl ?_
      refine aw_getf _ 5 1 dd_mo_mark_109 fl_mo_69 rfl rfl ?_
      refine aw_top (hB.1) ?_
      refine aw_idiv dd_mo_mark_112 (nI_ne0 (by omega) (by omega)) ?_
      refine aw_top (nI_div (by omega) (by omega)) ?_
      refine aw_iload dd_mo_mark_113 0 rfl ?_
      refine aw_iconst (v := (nI 2)) dd_mo_mark_115 (by decide) ?_
      refine aw_idiv dd_mo_mark_116 (by decide) ?_
      refine aw_top (nI_div (by omega) (by decide)) ?_
      refine aw_aload_n dd_mo_mark_117 rfl 3 rfl ?_
      refine aw_getf _ 5 1 dd_mo_mark_118 fl_mo_69 rfl rfl ?_
      refine aw_top (hB.1) ?_
      refine aw_irem dd_mo_mark_121 (nI_ne0 (by omega) (by omega)) ?_
      refine aw_top (nI_rem (by omega) (by omega)) ?_
      refine aw_join (tgt := 134) (v := zb_i (decide (r % 2 = 0))) ?_ (fun kj122 => ?_)
      · refine aw_cVi mm_mo_stepTo 0 0 _ 5 [_, _, _, _] _ (wc_mo_stepTo G κ (μ.1, va_up μ.2 16 l) o rest hR hsx h12 mv.1 mv.2 (decide (r % 2 = 0))) dd_mo_mark_134 cv_mo_144 my_mo_stepTo np_mo_stepTo rfl rfl rfl (by decide) rfl rfl (Nat.le_of_ble_eq_true rfl) (Nat.le_of_ble_eq_true rfl) ?_
        refine aw_top (y := po_i (sc_t A x.1 r)) rfl ?_
        rcases hs9 : sc_t A x.1 r with _ | t
        · refine aw_top (y := -1) rfl ?_
          refine aw_istore (lv' := [(6, _), (5, _), (4, _), (3, _), (0, _), (1, _), (2, _)]) dd_mo_mark_137 (by decide) rfl ?_
          refine aw_aload_n dd_mo_mark_139 rfl 4 rfl ?_
          refine aw_getf _ 5 20 dd_mo_mark_140 fl_mo_59 rfl rfl ?_
          refine aw_iload dd_mo_mark_143 2 rfl ?_
          refine aw_join (tgt := 194) (v := zb_i (L x.1 || false)) ?_ (fun kj145 => ?_)
          · refine aw_zsN _ (x.1) dd_mo_mark_194 rfl (hsx) (by decide) (zb_01 _) ?_
            refine aw_h (hs_ma16 G _ _ _ _ _ _) ?_
            rw [kv_a]
            refine aw_iinc (v := nI (r + 1)) (lv' := [(5, _), (6, _), (4, _), (3, _), (0, _), (1, _), (2, _)]) dd_mo_mark_195 1 rfl (nI_1 _) (by decide) rfl ?_
            refine aw_goto (tgt := 71) dd_mo_mark_198 (by decide) ?_
            exact aw_lv [0, 2, 3, 4, 5, 6] rfl (ih (r + 1) (by omega) _ (up_f L x.1 (L x.1 || false)) (fun s hs => by unfold upd up_f; split <;> first | rfl | exact hl s hs) (mk_s hI hF hD hF2 hx (by omega) (by unfold sc_M; omega) (fun h9 => absurd h9 Bool.false_ne_true) (fun t h9 => by rw [hs9] at h9; cases h9)))
          · refine aw_aload_n dd_mo_mark_145 rfl 4 rfl ?_
            refine aw_getf _ 5 20 dd_mo_mark_146 fl_mo_59 rfl rfl ?_
            refine aw_iload dd_mo_mark_149 2 rfl ?_
            refine aw_zaN _ (x.1) dd_mo_mark_151 rfl (hsx) (by decide) ?_
            refine aw_top (hl x.1 hsx) ?_
            refine aw_if_ne (tgt := 189) dd_mo_mark_152 (by decide) (fun h1 => ?_) (fun h1 => ?_)
            · refine aw_iconst (v := 1) dd_mo_mark_189 (by decide) ?_
              refine aw_goto (tgt := 194) dd_mo_mark_190 (by decide) ?_
              exact aw_top (by clear kj145 ih; (try simp only [zb_q0, zb_q1, Bool.not_eq_false, Bool.not_eq_true] at h1); (try simp only [zb_q0, zb_q1, Bool.not_eq_false, Bool.not_eq_true] at h3); first | (simp [zb_i, h1, h2, h3]; done) | (simp [zb_i, h1, h2]; done) | (simp [zb_i, h1]; done)) kj145
            · refine aw_iload dd_mo_mark_155 0 rfl ?_
              refine aw_if_lt (tgt := 193) dd_mo_mark_157 (by decide) (fun _ => ?_) (fun h9 => absurd (by decide) h9)
              refine aw_iconst (v := 0) dd_mo_mark_193 (by decide) ?_
              exact aw_top (by clear kj145 ih; (try simp only [zb_q0, zb_q1, Bool.not_eq_false, Bool.not_eq_true] at h1); (try simp only [zb_q0, zb_q1, Bool.not_eq_false, Bool.not_eq_true] at h3); first | (simp [zb_i, h1, h2, h3]; done) | (simp [zb_i, h1, h2]; done) | (simp [zb_i, h1]; done)) kj145
        · refine aw_top (y := nI t) rfl ?_
          have ht9 : t < 4096 := hst _ _ _ hsx (by unfold sc_M; omega) hs9
          refine aw_istore (lv' := [(6, _), (5, _), (4, _), (3, _), (0, _), (1, _), (2, _)]) dd_mo_mark_137 (by decide) rfl ?_
          refine aw_aload_n dd_mo_mark_139 rfl 4 rfl ?_
          refine aw_getf _ 5 20 dd_mo_mark_140 fl_mo_59 rfl rfl ?_
          refine aw_iload dd_mo_mark_143 2 rfl ?_
          refine aw_join (tgt := 194) (v := zb_i (L x.1 || (decide (μ.2 15 t = nI (x.2.2.2 + 1)) && L t))) ?_ (fun kj145 => ?_)
          · refine aw_zsN _ (x.1) dd_mo_mark_194 rfl (hsx) (by decide) (zb_01 _) ?_
            refine aw_h (hs_ma16 G _ _ _ _ _ _) ?_
            rw [kv_a]
            refine aw_iinc (v := nI (r + 1)) (lv' := [(5, _), (6, _), (4, _), (3, _), (0, _), (1, _), (2, _)]) dd_mo_mark_195 1 rfl (nI_1 _) (by decide) rfl ?_
            refine aw_goto (tgt := 71) dd_mo_mark_198 (by decide) ?_
            exact aw_lv [0, 2, 3, 4, 5, 6] rfl (ih (r + 1) (by omega) _ (up_f L x.1 (L x.1 || (decide (μ.2 15 t = nI (x.2.2.2 + 1)) && L t))) (fun s hs => by unfold upd up_f; split <;> first | rfl | exact hl s hs) (mk_s hI hF hD hF2 hx (by omega) (by unfold sc_M; omega) (fun h9 => by rw [Bool.and_eq_true, decide_eq_true_iff] at h9; exact ⟨t, hs9, ht9, h9.1, h9.2⟩) (fun t9 h9 g1 g2 => by rw [hs9] at h9; cases h9; rw [g1, g2]; simp)))
          · refine aw_aload_n dd_mo_mark_145 rfl 4 rfl ?_
            refine aw_getf _ 5 20 dd_mo_mark_146 fl_mo_59 rfl rfl ?_
            refine aw_iload dd_mo_mark_149 2 rfl ?_
            refine aw_zaN _ (x.1) dd_mo_mark_151 rfl (hsx) (by decide) ?_
            refine aw_top (hl x.1 hsx) ?_
            refine aw_if_ne (tgt := 189) dd_mo_mark_152 (by decide) (fun h1 => ?_) (fun h1 => ?_)
            · refine aw_iconst (v := 1) dd_mo_mark_189 (by decide) ?_
              refine aw_goto (tgt := 194) dd_mo_mark_190 (by decide) ?_
              exact aw_top (by clear kj145 ih; (try simp only [zb_q0, zb_q1, Bool.not_eq_false, Bool.not_eq_true] at h1); (try simp only [zb_q0, zb_q1, Bool.not_eq_false, Bool.not_eq_true] at h3); first | (simp [zb_i, h1, h2, h3]; done) | (simp [zb_i, h1, h2]; done) | (simp [zb_i, h1]; done)) kj145
            · refine aw_iload dd_mo_mark_155 0 rfl ?_
              refine aw_if_lt (tgt := 193) dd_mo_mark_157 (by decide) (fun h9 => absurd h9 (nI_pos (by omega))) (fun _ => ?_)
              refine aw_aload_n dd_mo_mark_160 rfl 4 rfl ?_
              refine aw_getf _ 5 19 dd_mo_mark_161 fl_mo_56 rfl rfl ?_
              refine aw_iload dd_mo_mark_164 0 rfl ?_
              refine aw_iaN _ (t) dd_mo_mark_166 rfl (ht9) (by decide) ?_
              refine aw_top (y := μ.2 15 t) rfl ?_
              refine aw_aload_n dd_mo_mark_167 rfl 4 rfl ?_
              refine aw_getf _ 5 19 dd_mo_mark_168 fl_mo_56 rfl rfl ?_
              refine aw_iload dd_mo_mark_171 2 rfl ?_
              refine aw_iaN _ (x.1) dd_mo_mark_173 rfl (hsx) (by decide) ?_
              refine aw_top (y := nI x.2.2.2) hxx.2.1 ?_
              refine aw_iconst (v := 1) dd_mo_mark_174 (by decide) ?_
              refine aw_iadd dd_mo_mark_175 ?_
              refine aw_top (nI_1 _) ?_
              refine aw_icmp_ne (tgt := 193) dd_mo_mark_176 (by decide) (fun h2 => ?_) (fun h2 => ?_)
              · refine aw_iconst (v := 0) dd_mo_mark_193 (by decide) ?_
                exact aw_top (by clear kj145 ih; (try simp only [zb_q0, zb_q1, Bool.not_eq_false, Bool.not_eq_true] at h1); (try simp only [zb_q0, zb_q1, Bool.not_eq_false, Bool.not_eq_true] at h3); first | (simp [zb_i, h1, h2, h3]; done) | (simp [zb_i, h1, h2]; done) | (simp [zb_i, h1]; done)) kj145
              · refine aw_aload_n dd_mo_mark_179 rfl 4 rfl ?_
                refine aw_getf _ 5 20 dd_mo_mark_180 fl_mo_59 rfl rfl ?_
                refine aw_iload dd_mo_mark_183 0 rfl ?_
                refine aw_zaN _ (t) dd_mo_mark_185 rfl (ht9) (by decide) ?_
                refine aw_top (hl t ht9) ?_
                refine aw_if_eq (tgt := 193) dd_mo_mark_186 (by decide) (fun h3 => ?_) (fun h3 => ?_)
                · refine aw_iconst (v := 0) dd_mo_mark_193 (by decide) ?_
                  exact aw_top (by clear kj145 ih; (try simp only [zb_q0, zb_q1, Bool.not_eq_false, Bool.not_eq_true] at h1); (try simp only [zb_q0, zb_q1, Bool.not_eq_false, Bool.not_eq_true] at h3); first | (simp [zb_i, h1, h2, h3]; done) | (simp [zb_i, h1, h2]; done) | (simp [zb_i, h1]; done)) kj145
                · refine aw_iconst (v := 1) dd_mo_mark_189 (by decide) ?_
                  refine aw_goto (tgt := 194) dd_mo_mark_190 (by decide) ?_
                  exact aw_top (by clear kj145 ih; (try simp only [zb_q0, zb_q1, Bool.not_eq_false, Bool.not_eq_true] at h1); (try simp only [zb_q0, zb_q1, Bool.not_eq_false, Bool.not_eq_true] at h3); first | (simp [zb_i, h1, h2, h3]; done) | (simp [zb_i, h1, h2]; done) | (simp [zb_i, h1]; done)) kj145
      · refine aw_iload dd_mo_mark_122 0 rfl ?_
        refine aw_iconst (v := (nI 2)) dd_mo_mark_124 (by decide) ?_
        refine aw_irem dd_mo_mark_125 (by decide) ?_
        refine aw_top (nI_rem (by omega) (by decide)) ?_
        refine aw_if_ne (tgt := 133) dd_mo_mark_126 (by decide) (fun hz => ?_) (fun hz => ?_)
        · refine aw_iconst (v := 0) dd_mo_mark_133 (by decide) ?_
          exact aw_top (by first | (rw [← nI_0, nI_eq (by omega) (by decide)] at hz; simp [zb_i, hz]; done) | (rw [← nI_0, nI_eq (by omega) (by decide)] at hz; simp [zb_i]; omega)) kj122
        · refine aw_iconst (v := 1) dd_mo_mark_129 (by decide) ?_
          refine aw_goto (tgt := 134) dd_mo_mark_130 (by decide) ?_
          exact aw_top (by first | (rw [← nI_0, nI_eq (by omega) (by decide)] at hz; simp [zb_i, hz]; done) | (rw [← nI_0, nI_eq (by omega) (by decide)] at hz; simp [zb_i]; omega)) kj122
theorem wl_mo_mark3 (G : ag_T) (κ : ck_T) (μ : cm_T) (o : Nat → Int64) (rest : List va_E) {A : aa_T} (hR : rm_R μ A) (hW : wa_W A) (h12 : ga_u A * ga_n A ≤ 12) {v9 r9 : Nat} (hv : v9 < ga_u A) (hr9 : r9 < ga_n A) {F : List bf_E} (hF : bs_R F (μ.1 4) (μ.2 15) (μ.2 17)) {D : Nat} (hD : D < 2 ^ 31) (hnr : μ.1 5 = nI D) (hFA : ∀ (i : Nat) (x : bf_E), F[i]? = some x → x.1 < 4096) (hF2 : ∀ (i j : Nat) (x y : bf_E), F[i]? = some x → F[j]? = some y → x.1 = y.1 → i = j) (hFl : F.length ≤ 4096) : ∀ (r : Nat), r ≤ F.length → ∀ (l : Nat → Int32) (L : Nat → Bool), (∀ s, s < 4096 → l s = zb_i (L s)) → mk_I A v9 r9 F (μ.2 15) D r 0 L → aw_w G mm_mo_mark 3 74 0 0 56 [(3, .int (ci_f r)), (0, .ref (G.1 + 13)), (1, .int (nI v9)), (2, .int (nI r9))] [] (hp_f G κ (μ.1, va_up μ.2 16 l) o rest) (qe_v fun h' => ∃ l L, h' = (hp_f G κ (μ.1, va_up μ.2 16 l) o rest) ∧ (∀ s, s < 4096 → l s = zb_i (L s)) ∧ mk_I A v9 r9 F (μ.2 15) D 0 0 L) := by
  intro r
  induction r with
  | zero =>
    intro hr l L hl hI
    refine aw_iload_n dd_mo_mark_56 rfl 0 rfl ?_
    refine aw_if_lt (tgt := 207) dd_mo_mark_57 (by decide) (fun _ => ?_) (fun h9 => absurd (show (-1 : Int32) < 0 by decide) h9)
    exact aw_vret dd_mo_mark_207 rfl ⟨rfl, l, L, rfl, hl, hI⟩
  | succ r ih =>
    intro hr l L hl hI
    obtain ⟨x, hx⟩ := tk_g (ls := F) (k := r) (by omega)
    refine aw_lv [0, 1, 2, 3] (lv' := [(3, .int (nI r)), (0, _), (1, _), (2, _)]) rfl ?_
    refine aw_iload_n dd_mo_mark_56 rfl 0 rfl ?_
    refine aw_if_lt (tgt := 207) dd_mo_mark_57 (by decide) (fun h9 => absurd h9 (nI_pos (by omega))) (fun _ => ?_)
    refine aw_aload_n dd_mo_mark_60 rfl 1 rfl ?_
    refine aw_getf _ 5 21 dd_mo_mark_61 fl_mo_62 rfl rfl ?_
    refine aw_iload_n dd_mo_mark_64 rfl 0 rfl ?_
    refine aw_iaN _ (r) dd_mo_mark_65 rfl (by omega) (by decide) ?_
    refine aw_top (y := nI x.1) (hF.2.1 r x hx).1 ?_
    refine aw_istore (lv' := [(4, _), (3, _), (0, _), (1, _), (2, _)]) dd_mo_mark_66 (by decide) rfl ?_
    refine aw_iconst (v := (nI 0)) dd_mo_mark_68 (by decide) ?_
    refine aw_istore (lv' := [(5, _), (4, _), (3, _), (0, _), (1, _), (2, _)]) dd_mo_mark_69 (by decide) rfl ?_
    refine wl_mo_mark2 G κ μ o rest hR hW h12 hv hr9 hF hD hnr hFA hF2 hx (fun m9 l9 L9 hl9 hI9 => ?_) _ 0 (Nat.zero_add _) l L hl hI
    refine aw_iinc (v := ci_f r) (lv' := [(3, _), (5, _), (4, _), (0, _), (1, _), (2, _)]) dd_mo_mark_201 2 rfl (ci_d r) (by decide) rfl ?_
    refine aw_goto (tgt := 56) dd_mo_mark_204 (by decide) ?_
    exact aw_lv [0, 3, 4, 5] rfl (ih (by omega) l9 L9 hl9 hI9)
theorem wc_mo_mark (G : ag_T) (κ : ck_T) (μ : cm_T) (o : Nat → Int64) (rest : List va_E) {A : aa_T} (hR : rm_R μ A) (hW : wa_W A) (h12 : ga_u A * ga_n A ≤ 12) {v9 r9 : Nat} (hv : v9 < ga_u A) (hr9 : r9 < ga_n A) {F : List bf_E} (hF : bs_R F (μ.1 4) (μ.2 15) (μ.2 17)) {D : Nat} (hD : D < 2 ^ 31) (hnr : μ.1 5 = nI D) (hFA : ∀ (i : Nat) (x : bf_E), F[i]? = some x → x.1 < 4096) (hF2 : ∀ (i j : Nat) (x y : bf_E), F[i]? = some x → F[j]? = some y → x.1 = y.1 → i = j) (hFl : F.length ≤ 4096) (hF0 : 0 < F.length) : aw_w G mm_mo_mark 3 74 0 0 0 (lv_args 0 [.ref (G.1 + 13), .int (nI v9), .int (nI r9)]) [] (hp_f G κ μ o rest) (qe_v fun h' => ∃ l L, h' = (hp_f G κ (μ.1, va_up μ.2 16 l) o rest) ∧ (∀ s, s < 4096 → l s = zb_i (L s)) ∧ mk_I A v9 r9 F (μ.2 15) D 0 0 L) := by
  refine aw_iconst (v := (nI 0)) dd_mo_mark_0 (by decide) ?_
  refine aw_istore_n (lv' := [(3, _), (0, _), (1, _), (2, _)]) dd_mo_mark_1 rfl (by decide) rfl ?_
  rw [show hp_f G κ μ o rest = hp_f G κ (μ.1, va_up μ.2 16 (μ.2 16)) o rest by rw [kv_0]]
  refine wl_mo_mark1 G κ μ o rest hR hW h12 hv hr9 hF hD hnr (fun l hl => ?_) 4096 0 rfl _ (fun i hi => absurd hi (Nat.not_lt_zero i))
  refine aw_aload_n dd_mo_mark_49 rfl 1 rfl ?_
  refine aw_getf _ 5 22 dd_mo_mark_50 fl_mo_135 rfl rfl ?_
  refine aw_top (y := nI (F.length - 1 + 1)) (by rw [Nat.sub_add_cancel hF0]; exact hF.1) ?_
  refine aw_iconst (v := 1) dd_mo_mark_53 (by decide) ?_
  refine aw_isub dd_mo_mark_54 ?_
  refine aw_top (nI_pred _) ?_
  refine aw_istore_n (lv' := [(3, _), (0, _), (1, _), (2, _)]) dd_mo_mark_55 rfl (by decide) rfl ?_
  have w9 := wl_mo_mark3 G κ μ o rest hR hW h12 hv hr9 hF hD hnr hFA hF2 hFl (F.length - 1 + 1) (by omega) l _ hl ⟨fun s hs h9 => ?_, fun p y hp hy hg => ?_, fun p y m' t j z hp hy => ?_⟩
  · exact w9
  · rw [Bool.and_eq_true, decide_eq_true_iff] at h9
    exact ⟨D, Nat.le_refl _, h9.1, by rw [Nat.sub_self]; exact h9.2⟩
  · rw [Bool.and_eq_true, decide_eq_true_iff]
    exact ⟨by rw [(hF.2.1 p y hp).2.1, hy], hg⟩
  · have := (List.getElem?_eq_some_iff.mp hy).1
    omega
theorem mv_b {A : aa_T} {m : Nat} (hn : 0 < ga_n A) (h12 : ga_u A * ga_n A ≤ 12) (hn6 : ga_n A ≤ 6) (hu : ga_u A ≤ 5) (h : m < sc_M A) : mv_c A m < 1000 := by
  obtain ⟨h1, h2⟩ := mv_v hn h
  unfold mv_c
  have := Nat.mod_lt m (show 0 < 2 by decide)
  omega
theorem wl_mo_plan1 (G : ag_T) (κ : ck_T) (μ : cm_T) (o : Nat → Int64) (rest : List va_E) {A : aa_T} (hR : rm_R μ A) (hW : wa_W A) (h12 : ga_u A * ga_n A ≤ 12) {v9 r9 : Nat} (hv : v9 < ga_u A) (hr9 : r9 < ga_n A) {i : Nat} {gx : bf_E} (hg : (sc_F A i)[i]? = some gx) (hno : ∀ (j : Nat) (x : bf_E), j < i → (sc_F A i)[j]? = some x → sc_g A v9 r9 x.1 = false) (hgl : sc_g A v9 r9 gx.1 = true) (hF : bs_R (sc_F A i) (μ.1 4) (μ.2 15) (μ.2 17)) {L : Nat → Bool} (hl : ∀ s, s < 4096 → μ.2 16 s = zb_i (L s)) (hI9 : mk_I A v9 r9 (sc_F A i) (μ.2 15) gx.2.2.2 0 0 L) {K n9 q9 : Nat} (hK : K < 2 ^ 31) (hq : q9 < gx.2.2.2) (hn9 : n9 + (q9 + 1) = gx.2.2.2) {x y : bf_E} (hx : (sc_F A i)[bf_u (sc_F A i) i q9]? = some x) (hy : (sc_F A i)[bf_u (sc_F A i) i (q9 + 1)]? = some y) {cd : Int32} {Q : aq_T} (hend : ∀ m9 : Nat, aw_w G mm_mo_plan 4 101 0 0 262 [(8, .int (nI m9)), (7, .int (nI x.1)), (6, .int (nI n9)), (5, .int (nI (mv_c A x.2.2.1))), (4, .int (nI y.1)), (0, .ref (G.1 + 13)), (1, .int (nI v9)), (2, .int (nI r9)), (3, .int (nI K))] [] (hp_f G κ μ o rest) Q) : ∀ (k r : Nat), r + k = x.2.2.1 → aw_w G mm_mo_plan 4 101 0 0 132 [(8, .int (nI r)), (7, .int (-1)), (6, .int (nI n9)), (5, .int cd), (4, .int (nI y.1)), (0, .ref (G.1 + 13)), (1, .int (nI v9)), (2, .int (nI r9)), (3, .int (nI K))] [] (hp_f G κ μ o rest) Q := by
  obtain ⟨hB, hGr, hU, hSL, hDL, hRs, hSs⟩ := id hR; have hn6 := hB.2.1; have hu5 := hU.2.1
  have hst := sc_s h12 (by omega : 0 < ga_n A)
  have hM : 2 * ga_u A * ga_n A ≤ 24 := by rw [Nat.mul_assoc]; omega
  have hI := sc_I hW h12 (by omega : 0 < ga_n A) i
  obtain ⟨x0, y0, hx0, hy0, e1, e2, e3, e4, e5, e6, e7⟩ := bf_e hI hg hq
  rw [hx] at hx0; cases hx0
  rw [hy] at hy0; cases hy0
  have e3' : x.2.2.1 < 2 * ga_u A * ga_n A := e3
  have hsx := hI.2.1 _ x hx
  have hsy := hI.2.1 _ y hy
  have hDl : gx.2.2.2 < 2 ^ 31 := (hF.2.1 i gx hg).2.2
  have hxx := hF.2.1 _ x hx
  intro k
  induction k with
  | zero =>
    intro r hr
    have e : r = x.2.2.1 := by omega
    have mv := mv_v (m := r) (u := ga_u A) (n := ga_n A) (by omega) (by omega)
    refine aw_iload dd_mo_plan_132 0 rfl ?_
    refine aw_iconst (v := (nI 2)) dd_mo_plan_134 (by decide) ?_
    refine aw_aload_n dd_mo_plan_135 rfl 5 rfl ?_
    refine aw_getf _ 5 2 dd_mo_plan_136 fl_mo_72 rfl rfl ?_
    refine aw_top (hU.1) ?_
    refine aw_imul dd_mo_plan_139 ?_
    refine aw_top (nI_mul _ _) ?_
    refine aw_aload_n dd_mo_plan_140 rfl 5 rfl ?_
    refine aw_getf _ 5 1 dd_mo_plan_141 fl_mo_69 rfl rfl ?_
    refine aw_top (hB.1) ?_
    refine aw_imul dd_mo_plan_144 ?_
    refine aw_top (nI_mul _ _) ?_
    refine aw_icmp_ge (tgt := 262) dd_mo_plan_145 (by decide) (fun h9 => absurd h9 (nI_ge (by omega) (by omega))) (fun _ => ?_)
    refine aw_iload dd_mo_plan_148 1 rfl ?_
    refine aw_if_ge (tgt := 262) dd_mo_plan_150 (by decide) (fun h9 => absurd h9 (by decide)) (fun _ => ?_)
    refine aw_aload_n dd_mo_plan_153 rfl 5 rfl ?_
    refine aw_iload dd_mo_plan_154 4 rfl ?_
    refine aw_iload dd_mo_plan_156 0 rfl ?_
    refine aw_iconst (v := (nI 2)) dd_mo_plan_158 (by decide) ?_
    refine aw_idiv dd_mo_plan_159 (by decide) ?_
    refine aw_top (nI_div (by omega) (by decide)) ?_
    refine aw_aload_n dd_mo_plan_160 rfl 5 rfl ?_
    refine aw_getf _ 5 1 dd_mo_plan_161 fl_mo_69 rfl rfl ?_
    refine aw_top (hB.1) ?_
    refine aw_idiv dd_mo_plan_164 (nI_ne0 (by omega) (by omega)) ?_
    refine aw_top (nI_div (by omega) (by omega)) ?_
    refine aw_iload dd_mo_plan_165 0 rfl ?_
    refine aw_iconst (v := (nI 2)) dd_mo_plan_167 (by decide) ?_
    refine aw_idiv dd_mo_plan_168 (by decide) ?_
    refine aw_top (nI_div (by omega) (by decide)) ?_
    refine aw_aload_n dd_mo_plan_169 rfl 5 rfl ?_
    refine aw_getf _ 5 1 dd_mo_plan_170 fl_mo_69 rfl rfl ?_
    refine aw_top (hB.1) ?_
    refine aw_irem dd_mo_plan_173 (nI_ne0 (by omega) (by omega)) ?_
    refine aw_top (nI_rem (by omega) (by omega)) ?_
    refine aw_join (tgt := 186) (v := zb_i (decide (r % 2 = 0))) ?_ (fun kj174 => ?_)
    · refine aw_cVi mm_mo_stepTo 0 0 _ 5 [_, _, _, _] _ (wc_mo_stepTo G κ μ o rest hR hsy h12 mv.1 mv.2 (decide (r % 2 = 0))) dd_mo_plan_186 cv_mo_144 my_mo_stepTo np_mo_stepTo rfl rfl rfl (by decide) rfl rfl (Nat.le_of_ble_eq_true rfl) (Nat.le_of_ble_eq_true rfl) ?_
      refine aw_top (y := nI x.1) (by show po_i (sc_t A y.1 r) = _; rw [e, e2]; rfl) ?_
      refine aw_istore (lv' := [(9, _), (8, _), (7, _), (6, _), (5, _), (4, _), (0, _), (1, _), (2, _), (3, _)]) dd_mo_plan_189 (by decide) rfl ?_
      refine aw_iload dd_mo_plan_191 0 rfl ?_
      refine aw_if_lt (tgt := 256) dd_mo_plan_193 (by decide) (fun h9 => absurd h9 (nI_pos (by omega))) (fun _ => ?_)
      refine aw_aload_n dd_mo_plan_196 rfl 6 rfl ?_
      refine aw_getf _ 5 19 dd_mo_plan_197 fl_mo_56 rfl rfl ?_
      refine aw_iload dd_mo_plan_200 0 rfl ?_
      refine aw_iaN _ (x.1) dd_mo_plan_202 rfl (hsx) (by decide) ?_
      refine aw_top (y := nI (n9 + 1)) (by rw [show n9 + 1 = x.2.2.2 by omega]; exact hxx.2.1) ?_
      refine aw_iload dd_mo_plan_203 3 rfl ?_
      refine aw_iconst (v := 1) dd_mo_plan_205 (by decide) ?_
      refine aw_iadd dd_mo_plan_206 ?_
      refine aw_top (nI_1 _) ?_
      refine aw_icmp_ne (tgt := 256) dd_mo_plan_207 (by decide) (fun h9 => absurd (rfl) h9) (fun _ => ?_)
      refine aw_aload_n dd_mo_plan_210 rfl 6 rfl ?_
      refine aw_getf _ 5 20 dd_mo_plan_211 fl_mo_59 rfl rfl ?_
      refine aw_iload dd_mo_plan_214 0 rfl ?_
      refine aw_zaN _ (x.1) dd_mo_plan_216 rfl (hsx) (by decide) ?_
      refine aw_top (y := 1) (by rw [hl x.1 hsx, mk_p hI hg hgl hI9 q9 (by omega) x hx]; rfl) ?_
      refine aw_if_eq (tgt := 256) dd_mo_plan_217 (by decide) (fun h9 => absurd h9 (by decide)) (fun _ => ?_)
      refine aw_iload dd_mo_plan_220 0 rfl ?_
      refine aw_istore (lv' := [(7, _), (9, _), (8, _), (6, _), (5, _), (4, _), (0, _), (1, _), (2, _), (3, _)]) dd_mo_plan_222 (by decide) rfl ?_
      refine aw_bipush (v := (nI 100)) dd_mo_plan_224 (by decide) ?_
      refine aw_iload dd_mo_plan_226 2 rfl ?_
      refine aw_iconst (v := (nI 2)) dd_mo_plan_228 (by decide) ?_
      refine aw_idiv dd_mo_plan_229 (by decide) ?_
      refine aw_top (nI_div (by omega) (by decide)) ?_
      refine aw_aload_n dd_mo_plan_230 rfl 6 rfl ?_
      refine aw_getf _ 5 1 dd_mo_plan_231 fl_mo_69 rfl rfl ?_
      refine aw_top (hB.1) ?_
      refine aw_idiv dd_mo_plan_234 (nI_ne0 (by omega) (by omega)) ?_
      refine aw_top (nI_div (by omega) (by omega)) ?_
      refine aw_imul dd_mo_plan_235 ?_
      refine aw_top (nI_mul _ _) ?_
      refine aw_bipush (v := (nI 10)) dd_mo_plan_236 (by decide) ?_
      refine aw_iload dd_mo_plan_238 2 rfl ?_
      refine aw_iconst (v := (nI 2)) dd_mo_plan_240 (by decide) ?_
      refine aw_idiv dd_mo_plan_241 (by decide) ?_
      refine aw_top (nI_div (by omega) (by decide)) ?_
      refine aw_aload_n dd_mo_plan_242 rfl 6 rfl ?_
      refine aw_getf _ 5 1 dd_mo_plan_243 fl_mo_69 rfl rfl ?_
      refine aw_top (hB.1) ?_
      refine aw_irem dd_mo_plan_246 (nI_ne0 (by omega) (by omega)) ?_
      refine aw_top (nI_rem (by omega) (by omega)) ?_
      refine aw_imul dd_mo_plan_247 ?_
      refine aw_top (nI_mul _ _) ?_
      refine aw_iadd dd_mo_plan_248 ?_
      refine aw_top (nI_add _ _) ?_
      refine aw_iload dd_mo_plan_249 2 rfl ?_
      refine aw_iconst (v := (nI 2)) dd_mo_plan_251 (by decide) ?_
      refine aw_irem dd_mo_plan_252 (by decide) ?_
      refine aw_top (nI_rem (by omega) (by decide)) ?_
      refine aw_iadd dd_mo_plan_253 ?_
      refine aw_top (y := nI (mv_c A x.2.2.1)) (by rw [nI_add, ← e]; rfl) ?_
      refine aw_istore (lv' := [(5, _), (7, _), (9, _), (8, _), (6, _), (4, _), (0, _), (1, _), (2, _), (3, _)]) dd_mo_plan_254 (by decide) rfl ?_
      refine aw_iinc (v := nI (r + 1)) (lv' := [(8, _), (5, _), (7, _), (9, _), (6, _), (4, _), (0, _), (1, _), (2, _), (3, _)]) dd_mo_plan_256 3 rfl (nI_1 _) (by decide) rfl ?_
      refine aw_goto (tgt := 132) dd_mo_plan_259 (by decide) ?_
      refine aw_lv [0, 2, 4, 1, 5, 6, 7, 8, 9] (lv' := [(8, .int (nI (r + 1))), (7, .int (nI x.1)), (6, .int (nI n9)), (5, .int (nI (mv_c A x.2.2.1))), (4, .int (nI y.1)), (0, .ref (G.1 + 13)), (1, .int (nI v9)), (2, .int (nI r9)), (3, .int (nI K))]) rfl ?_
      refine aw_iload dd_mo_plan_132 0 rfl ?_
      refine aw_iconst (v := (nI 2)) dd_mo_plan_134 (by decide) ?_
      refine aw_aload_n dd_mo_plan_135 rfl 5 rfl ?_
      refine aw_getf _ 5 2 dd_mo_plan_136 fl_mo_72 rfl rfl ?_
      refine aw_top (hU.1) ?_
      refine aw_imul dd_mo_plan_139 ?_
      refine aw_top (nI_mul _ _) ?_
      refine aw_aload_n dd_mo_plan_140 rfl 5 rfl ?_
      refine aw_getf _ 5 1 dd_mo_plan_141 fl_mo_69 rfl rfl ?_
      refine aw_top (hB.1) ?_
      refine aw_imul dd_mo_plan_144 ?_
      refine aw_top (nI_mul _ _) ?_
      refine aw_icmp_ge (tgt := 262) dd_mo_plan_145 (by decide) (fun hm9 => ?_) (fun hm9 => ?_)
      · exact hend (r + 1)
      · refine aw_iload dd_mo_plan_148 1 rfl ?_
        refine aw_if_ge (tgt := 262) dd_mo_plan_150 (by decide) (fun _ => ?_) (fun h9 => absurd (nI_pos' (by omega)) h9)
        exact hend (r + 1)
    · refine aw_iload dd_mo_plan_174 0 rfl ?_
      refine aw_iconst (v := (nI 2)) dd_mo_plan_176 (by decide) ?_
      refine aw_irem dd_mo_plan_177 (by decide) ?_
      refine aw_top (nI_rem (by omega) (by decide)) ?_
      refine aw_if_ne (tgt := 185) dd_mo_plan_178 (by decide) (fun hz => ?_) (fun hz => ?_)
      · refine aw_iconst (v := 0) dd_mo_plan_185 (by decide) ?_
        exact aw_top (by first | (rw [← nI_0, nI_eq (by omega) (by decide)] at hz; simp [zb_i, hz]; done) | (rw [← nI_0, nI_eq (by omega) (by decide)] at hz; simp [zb_i]; omega)) kj174
      · refine aw_iconst (v := 1) dd_mo_plan_181 (by decide) ?_
        refine aw_goto (tgt := 186) dd_mo_plan_182 (by decide) ?_
        exact aw_top (by first | (rw [← nI_0, nI_eq (by omega) (by decide)] at hz; simp [zb_i, hz]; done) | (rw [← nI_0, nI_eq (by omega) (by decide)] at hz; simp [zb_i]; omega)) kj174
  | succ k ih =>
    intro r hr
    have mv := mv_v (m := r) (u := ga_u A) (n := ga_n A) (by omega) (by omega)
    refine aw_iload dd_mo_plan_132 0 rfl ?_
    refine aw_iconst (v := (nI 2)) dd_mo_plan_134 (by decide) ?_
    refine aw_aload_n dd_mo_plan_135 rfl 5 rfl ?_
    refine aw_getf _ 5 2 dd_mo_plan_136 fl_mo_72 rfl rfl ?_
    refine aw_top (hU.1) ?_
    refine aw_imul dd_mo_plan_139 ?_
    refine aw_top (nI_mul _ _) ?_
    refine aw_aload_n dd_mo_plan_140 rfl 5 rfl ?_
    refine aw_getf _ 5 1 dd_mo_plan_141 fl_mo_69 rfl rfl ?_
    refine aw_top (hB.1) ?_
    refine aw_imul dd_mo_plan_144 ?_
    refine aw_top (nI_mul _ _) ?_
    refine aw_icmp_ge (tgt := 262) dd_mo_plan_145 (by decide) (fun h9 => absurd h9 (nI_ge (by omega) (by omega))) (fun _ => ?_)
    refine aw_iload dd_mo_plan_148 1 rfl ?_
    refine aw_if_ge (tgt := 262) dd_mo_plan_150 (by decide) (fun h9 => absurd h9 (by decide)) (fun _ => ?_)
    refine aw_aload_n dd_mo_plan_153 rfl 5 rfl ?_
    refine aw_iload dd_mo_plan_154 4 rfl ?_
    refine aw_iload dd_mo_plan_156 0 rfl ?_
    refine aw_iconst (v := (nI 2)) dd_mo_plan_158 (by decide) ?_
    refine aw_idiv dd_mo_plan_159 (by decide) ?_
    refine aw_top (nI_div (by omega) (by decide)) ?_
    refine aw_aload_n dd_mo_plan_160 rfl 5 rfl ?_
    refine aw_getf _ 5 1 dd_mo_plan_161 fl_mo_69 rfl rfl ?_
    refine aw_top (hB.1) ?_
    refine aw_idiv dd_mo_plan_164 (nI_ne0 (by omega) (by omega)) ?_
    refine aw_top (nI_div (by omega) (by omega)) ?_
    refine aw_iload dd_mo_plan_165 0 rfl ?_
    refine aw_iconst (v := (nI 2)) dd_mo_plan_167 (by decide) ?_
    refine aw_idiv dd_mo_plan_168 (by decide) ?_
    refine aw_top (nI_div (by omega) (by decide)) ?_
    refine aw_aload_n dd_mo_plan_169 rfl 5 rfl ?_
    refine aw_getf _ 5 1 dd_mo_plan_170 fl_mo_69 rfl rfl ?_
    refine aw_top (hB.1) ?_
    refine aw_irem dd_mo_plan_173 (nI_ne0 (by omega) (by omega)) ?_
    refine aw_top (nI_rem (by omega) (by omega)) ?_
    refine aw_join (tgt := 186) (v := zb_i (decide (r % 2 = 0))) ?_ (fun kj174 => ?_)
    · refine aw_cVi mm_mo_stepTo 0 0 _ 5 [_, _, _, _] _ (wc_mo_stepTo G κ μ o rest hR hsy h12 mv.1 mv.2 (decide (r % 2 = 0))) dd_mo_plan_186 cv_mo_144 my_mo_stepTo np_mo_stepTo rfl rfl rfl (by decide) rfl rfl (Nat.le_of_ble_eq_true rfl) (Nat.le_of_ble_eq_true rfl) ?_
      refine aw_top (y := po_i (sc_t A y.1 r)) rfl ?_
      rcases hs9 : sc_t A y.1 r with _ | t
      · refine aw_top (y := -1) rfl ?_
        refine aw_istore (lv' := [(9, _), (8, _), (7, _), (6, _), (5, _), (4, _), (0, _), (1, _), (2, _), (3, _)]) dd_mo_plan_189 (by decide) rfl ?_
        refine aw_iload dd_mo_plan_191 0 rfl ?_
        refine aw_if_lt (tgt := 256) dd_mo_plan_193 (by decide) (fun _ => ?_) (fun h9 => absurd (by decide) h9)
        refine aw_iinc (v := nI (r + 1)) (lv' := [(8, _), (9, _), (7, _), (6, _), (5, _), (4, _), (0, _), (1, _), (2, _), (3, _)]) dd_mo_plan_256 1 rfl (nI_1 _) (by decide) rfl ?_
        refine aw_goto (tgt := 132) dd_mo_plan_259 (by decide) ?_
        exact aw_lv [0, 2, 3, 4, 5, 6, 7, 8, 9] rfl (ih (r + 1) (by omega))
      · refine aw_top (y := nI t) rfl ?_
        have ht9 : t < 4096 := hst _ _ _ hsy (by unfold sc_M; omega) hs9
        have nl : μ.2 15 t = nI (n9 + 1) → L t = false := by
          intro h2
          cases hL : L t with
          | false => rfl
          | true =>
            obtain ⟨e, g1, g2, g3⟩ := hI9.1 t ht9 hL
            rw [h2, nI_eq (by omega) (by omega)] at g2
            subst g2
            rw [show gx.2.2.2 - (n9 + 1) = q9 by omega] at g3
            exact absurd g3 (bf_x hI hg hno hq hx hy (by omega) hs9)
        refine aw_istore (lv' := [(9, _), (8, _), (7, _), (6, _), (5, _), (4, _), (0, _), (1, _), (2, _), (3, _)]) dd_mo_plan_189 (by decide) rfl ?_
        refine aw_iload dd_mo_plan_191 0 rfl ?_
        refine aw_if_lt (tgt := 256) dd_mo_plan_193 (by decide) (fun h9 => absurd h9 (nI_pos (by omega))) (fun _ => ?_)
        refine aw_aload_n dd_mo_plan_196 rfl 6 rfl ?_
        refine aw_getf _ 5 19 dd_mo_plan_197 fl_mo_56 rfl rfl ?_
        refine aw_iload dd_mo_plan_200 0 rfl ?_
        refine aw_iaN _ (t) dd_mo_plan_202 rfl (ht9) (by decide) ?_
        refine aw_top (y := μ.2 15 t) rfl ?_
        refine aw_iload dd_mo_plan_203 3 rfl ?_
        refine aw_iconst (v := 1) dd_mo_plan_205 (by decide) ?_
        refine aw_iadd dd_mo_plan_206 ?_
        refine aw_top (nI_1 _) ?_
        refine aw_icmp_ne (tgt := 256) dd_mo_plan_207 (by decide) (fun h2 => ?_) (fun h2 => ?_)
        · refine aw_iinc (v := nI (r + 1)) (lv' := [(8, _), (9, _), (7, _), (6, _), (5, _), (4, _), (0, _), (1, _), (2, _), (3, _)]) dd_mo_plan_256 1 rfl (nI_1 _) (by decide) rfl ?_
          refine aw_goto (tgt := 132) dd_mo_plan_259 (by decide) ?_
          exact aw_lv [0, 2, 3, 4, 5, 6, 7, 8, 9] rfl (ih (r + 1) (by omega))
        · refine aw_aload_n dd_mo_plan_210 rfl 6 rfl ?_
          refine aw_getf _ 5 20 dd_mo_plan_211 fl_mo_59 rfl rfl ?_
          refine aw_iload dd_mo_plan_214 0 rfl ?_
          refine aw_zaN _ (t) dd_mo_plan_216 rfl (ht9) (by decide) ?_
          refine aw_top (y := 0) (by rw [hl t ht9, nl h2]; rfl) ?_
          refine aw_if_eq (tgt := 256) dd_mo_plan_217 (by decide) (fun _ => ?_) (fun h9 => absurd (rfl) h9)
          refine aw_iinc (v := nI (r + 1)) (lv' := [(8, _), (9, _), (7, _), (6, _), (5, _), (4, _), (0, _), (1, _), (2, _), (3, _)]) dd_mo_plan_256 1 rfl (nI_1 _) (by decide) rfl ?_
          refine aw_goto (tgt := 132) dd_mo_plan_259 (by decide) ?_
          exact aw_lv [0, 2, 3, 4, 5, 6, 7, 8, 9] rfl (ih (r + 1) (by omega))
    · refine aw_iload dd_mo_plan_174 0 rfl ?_
      refine aw_iconst (v := (nI 2)) dd_mo_plan_176 (by decide) ?_
      refine aw_irem dd_mo_plan_177 (by decide) ?_
      refine aw_top (nI_rem (by omega) (by decide)) ?_
      refine aw_if_ne (tgt := 185) dd_mo_plan_178 (by decide) (fun hz => ?_) (fun hz => ?_)
      · refine aw_iconst (v := 0) dd_mo_plan_185 (by decide) ?_
        exact aw_top (by first | (rw [← nI_0, nI_eq (by omega) (by decide)] at hz; simp [zb_i, hz]; done) | (rw [← nI_0, nI_eq (by omega) (by decide)] at hz; simp [zb_i]; omega)) kj174
      · refine aw_iconst (v := 1) dd_mo_plan_181 (by decide) ?_
        refine aw_goto (tgt := 186) dd_mo_plan_182 (by decide) ?_
        exact aw_top (by first | (rw [← nI_0, nI_eq (by omega) (by decide)] at hz; simp [zb_i, hz]; done) | (rw [← nI_0, nI_eq (by omega) (by decide)] at hz; simp [zb_i]; omega)) kj174
theorem wl_mo_plan2 (G : ag_T) (κ : ck_T) (μ : cm_T) (o : Nat → Int64) (rest : List va_E) {A : aa_T} (hR : rm_R μ A) (hW : wa_W A) (h12 : ga_u A * ga_n A ≤ 12) {v9 r9 : Nat} (hv : v9 < ga_u A) (hr9 : r9 < ga_n A) {i : Nat} {gx : bf_E} (hg : (sc_F A i)[i]? = some gx) (hno : ∀ (j : Nat) (x : bf_E), j < i → (sc_F A i)[j]? = some x → sc_g A v9 r9 x.1 = false) (hgl : sc_g A v9 r9 gx.1 = true) (hF : bs_R (sc_F A i) (μ.1 4) (μ.2 15) (μ.2 17)) {L : Nat → Bool} (hl : ∀ s, s < 4096 → μ.2 16 s = zb_i (L s)) (hI9 : mk_I A v9 r9 (sc_F A i) (μ.2 15) gx.2.2.2 0 0 L) {K : Nat} (hK : K < gx.2.2.2) : ∀ (k r : Nat), r + k = K + 1 → ∀ (y : bf_E) (cd : Int32), (sc_F A i)[bf_u (sc_F A i) i (gx.2.2.2 - r)]? = some y → (0 < r → cd = nI (mv_c A y.2.2.1)) → aw_w G mm_mo_plan 4 101 0 0 120 [(6, .int (nI r)), (5, .int cd), (4, .int (nI y.1)), (0, .ref (G.1 + 13)), (1, .int (nI v9)), (2, .int (nI r9)), (3, .int (nI K))] [] (hp_f G κ μ o rest) (q_i (nI (sc_c A i K)) (hp_f G κ μ o rest)) := by
  have hDl : gx.2.2.2 < 2 ^ 31 := (hF.2.1 i gx hg).2.2
  have hI := sc_I hW h12 (by omega : 0 < ga_n A) i
  intro k
  induction k with
  | zero =>
    intro r hr y cd hy hcd
    have e : r = K + 1 := by omega
    have e9 : cd = nI (sc_c A i K) := by
      rw [hcd (by omega)]
      unfold sc_c
      rw [sc_df hg, show gx.2.2.2 - 1 - K = gx.2.2.2 - r by omega, hy]
      rfl
    subst e9
    refine aw_iload dd_mo_plan_120 0 rfl ?_
    refine aw_iload_n dd_mo_plan_122 rfl 6 rfl ?_
    refine aw_icmp_gt (tgt := 272) dd_mo_plan_123 (by decide) (fun _ => ?_) (fun h9 => absurd (nI_lt (by omega) (by omega)) h9)
    refine aw_iload dd_mo_plan_272 1 rfl ?_
    exact aw_iret dd_mo_plan_274 rfl ⟨rfl, rfl⟩
  | succ k ih =>
    intro r hr y cd hy hcd
    have hq : gx.2.2.2 - (r + 1) < gx.2.2.2 := by omega
    have eq : gx.2.2.2 - r = gx.2.2.2 - (r + 1) + 1 := by omega
    obtain ⟨x, y0, hx, hy0, -⟩ := bf_e hI hg hq
    rw [eq] at hy
    refine aw_iload dd_mo_plan_120 0 rfl ?_
    refine aw_iload_n dd_mo_plan_122 rfl 6 rfl ?_
    refine aw_icmp_gt (tgt := 272) dd_mo_plan_123 (by decide) (fun h9 => absurd h9 (nI_nlt (by omega) (by omega))) (fun _ => ?_)
    refine aw_iconst (v := (-1)) dd_mo_plan_126 (by decide) ?_
    refine aw_istore (lv' := [(7, _), (6, _), (5, _), (4, _), (0, _), (1, _), (2, _), (3, _)]) dd_mo_plan_127 (by decide) rfl ?_
    refine aw_iconst (v := (nI 0)) dd_mo_plan_129 (by decide) ?_
    refine aw_istore (lv' := [(8, _), (7, _), (6, _), (5, _), (4, _), (0, _), (1, _), (2, _), (3, _)]) dd_mo_plan_130 (by decide) rfl ?_
    refine wl_mo_plan1 G κ μ o rest hR hW h12 hv hr9 hg hno hgl hF hl hI9 (by omega) hq (by omega) hx hy (fun m9 => ?_) _ 0 (Nat.zero_add _)
    refine aw_iload dd_mo_plan_262 1 rfl ?_
    refine aw_istore (lv' := [(4, _), (8, _), (7, _), (6, _), (5, _), (0, _), (1, _), (2, _), (3, _)]) dd_mo_plan_264 (by decide) rfl ?_
    refine aw_iinc (v := nI (r + 1)) (lv' := [(6, _), (4, _), (8, _), (7, _), (5, _), (0, _), (1, _), (2, _), (3, _)]) dd_mo_plan_266 3 rfl (nI_1 _) (by decide) rfl ?_
    refine aw_goto (tgt := 120) dd_mo_plan_269 (by decide) ?_
    refine aw_lv [0, 4, 1, 5, 6, 7, 8] rfl (ih (r + 1) (by omega) x _ hx (fun _ => rfl))
theorem wc_mo_plan (G : ag_T) (κ : ck_T) (μ : cm_T) (o : Nat → Int64) (rest : List va_E) {A : aa_T} (hR : rm_R μ A) (hW : wa_W A) (x y z : Int32) : aw_w G mm_mo_plan 4 101 0 0 0 (lv_args 0 [.ref (G.1 + 13), .int x, .int y, .int z]) [] (hp_f G κ μ o rest) (qm_R G κ o rest (ab_plan A x y z)) := by
  obtain ⟨hB, hGr, hU, hSL, hDL, hRs, hSs⟩ := id hR; have hn6 := hB.2.1; have hu5 := hU.2.1
  have hm30 : ga_u A * ga_n A ≤ 5 * 6 := Nat.mul_le_mul hu5 hn6
  refine aw_aload_n dd_mo_plan_0 rfl 0 rfl ?_
  refine aw_join (tgt := 22) (v := zb_i (rb_i (ga_u A) x && rb_i (ga_n A) y)) ?_ (fun kj1 => ?_)
  · refine aw_iconst (v := 1) dd_mo_plan_22 (by decide) ?_
    refine aw_cVi mm_mo_when 0 0 _ 5 [_, _] _ (wc_mo_when G κ _ o rest _ _) dd_mo_plan_23 cv_mo_86 my_mo_when np_mo_when rfl rfl rfl (by decide) rfl rfl (Nat.le_of_ble_eq_true rfl) (Nat.le_of_ble_eq_true rfl) ?_
    refine aw_if_eq (tgt := 56) dd_mo_plan_26 (by decide) (fun hw => ?_) (fun hw => ?_)
    · replace hw := zb_e0 hw
      rw [ab_plan, if_pos hw]
      refine aw_iconst (v := 0) dd_mo_plan_56 (by decide) ?_
      exact aw_iret dd_mo_plan_57 rfl (by first | exact ⟨_, rfl, fun h0 => absurd (show (1 : Int32) = 0 from h0) (by decide), _, rfl, hR, wn_f hw⟩ | exact ⟨_, rfl, fun h0 => absurd (show (2 : Int32) = 0 from h0) (by decide), _, rfl, hR, wn_f hw⟩)
    · have hw1 := bt_ne (zb_n0 hw)
      clear hw
      obtain ⟨h8, h9⟩ := Bool.and_eq_true_iff.mp (Bool.not_eq_false _ ▸ hw1)
      obtain ⟨j, hj, rfl⟩ := rb_n (by omega) h8
      obtain ⟨k, hk, rfl⟩ := rb_n (by omega) h9
      rw [ab_plan, if_neg hw1, iN_n (by omega), iN_n (by omega)]
      refine aw_aload_n dd_mo_plan_29 rfl 0 rfl ?_
      refine aw_join (tgt := 49) (v := zb_i (decide (ga_u A * ga_n A ≤ 12))) ?_ (fun kj30 => ?_)
      · refine aw_iconst (v := 2) dd_mo_plan_49 (by decide) ?_
        refine aw_cVi mm_mo_when 0 0 _ 5 [_, _] _ (wc_mo_when G κ _ o rest _ _) dd_mo_plan_50 cv_mo_86 my_mo_when np_mo_when rfl rfl rfl (by decide) rfl rfl (Nat.le_of_ble_eq_true rfl) (Nat.le_of_ble_eq_true rfl) ?_
        refine aw_if_ne (tgt := 58) dd_mo_plan_53 (by decide) (fun hw => ?_) (fun hw => ?_)
        · have hw2 := bt_ne (zb_n0 hw)
          clear hw
          rw [if_neg hw2]
          have h12 : ga_u A * ga_n A ≤ 12 := by simpa using hw2
          refine aw_aload_n dd_mo_plan_58 rfl 0 rfl ?_
          refine aw_iload_n dd_mo_plan_59 rfl 1 rfl ?_
          refine aw_iload_n dd_mo_plan_60 rfl 2 rfl ?_
          refine aw_cVf mm_mo_search 0 0 _ 5 [_, _] _ (wc_mo_search G κ (km_s (km_s μ 0 (if (rb_i (ga_u A) (nI j) && rb_i (ga_n A) (nI k)) = true then 0 else 1)) 0 (if decide (ga_u A * ga_n A ≤ 12) = true then 0 else 2)) o rest hR hW h12 hj hk) dd_mo_plan_61 cv_mo_148 my_mo_search np_mo_search rfl rfl rfl (by decide) rfl rfl (Nat.le_of_ble_eq_true rfl) (Nat.le_of_ble_eq_true rfl) (fun h9 hq => ?_)
          obtain ⟨q, nr, f, g, F, rfl, hF, hsome, hnone⟩ := hq
          refine aw_aload_n dd_mo_plan_64 rfl 0 rfl ?_
          refine aw_join (tgt := 77) (v := zb_i (decide (¬ nr < 0))) ?_ (fun kj65 => ?_)
          · refine aw_iconst (v := 3) dd_mo_plan_77 (by decide) ?_
            refine aw_cVi mm_mo_when 0 0 _ 5 [_, _] _ (wc_mo_when G κ _ o rest _ _) dd_mo_plan_78 cv_mo_86 my_mo_when np_mo_when rfl rfl rfl (by decide) rfl rfl (Nat.le_of_ble_eq_true rfl) (Nat.le_of_ble_eq_true rfl) ?_
            refine aw_if_ne (tgt := 86) dd_mo_plan_81 (by decide) (fun hw => ?_) (fun hw => ?_)
            · have hw3 := bt_ne (zb_n0 hw)
              have h6 : ¬ nr < 0 := by simpa using hw3
              obtain ⟨i, hi⟩ : ∃ i, sc_f A j k 4097 0 = some i := by
                cases hsf : sc_f A j k 4097 0 with
                | none => exact absurd (by rw [hnone hsf]; decide) h6
                | some i => exact ⟨i, rfl⟩
              obtain ⟨rfl, gx, hg, rfl⟩ := hsome i hi
              obtain ⟨⟨gx9, hg9, hgl⟩, hno⟩ := sc_e 4097 0 i hi (fun j x hj => absurd hj (Nat.not_lt_zero j))
              rw [hg] at hg9; cases hg9
              have hI := sc_I hW h12 (by omega : 0 < ga_n A) i
              rw [hi]
              have hDl := (hF.2.1 i gx hg).2.2
              rw [pl_z, sc_df hg]
              refine aw_iload_n dd_mo_plan_86 rfl 3 rfl ?_
              refine aw_if_lt (tgt := 98) dd_mo_plan_87 (by decide) (fun h7 => ?_) (fun h7 => ?_)
              · rw [if_pos (Or.inl h7)]
                refine aw_iconst (v := (-1)) dd_mo_plan_98 (by decide) ?_
                exact aw_iret dd_mo_plan_99 rfl ⟨_, rfl, fun _ => rfl, _, rfl, hR, wn_t hw3⟩
              · refine aw_iload_n dd_mo_plan_90 rfl 3 rfl ?_
                refine aw_aload_n dd_mo_plan_91 rfl 0 rfl ?_
                refine aw_getf _ 5 23 dd_mo_plan_92 fl_mo_138 rfl rfl ?_
                refine aw_top (y := nI gx.2.2.2) rfl ?_
                refine aw_icmp_lt (tgt := 100) dd_mo_plan_95 (by decide) (fun h8 => ?_) (fun h8 => ?_)
                · rw [if_neg (show ¬ (z < 0 ∨ nI gx.2.2.2 ≤ z) from fun h9 => h9.elim h7 (fun h9 => Int32.not_lt.mpr h9 h8))]
                  obtain ⟨K, hK, rfl⟩ := nI_of h7
                  rw [iN_n hK]
                  rw [nI_ltI hK hDl] at h8
                  refine aw_aload_n dd_mo_plan_100 rfl 0 rfl ?_
                  refine aw_iload_n dd_mo_plan_101 rfl 1 rfl ?_
                  refine aw_iload_n dd_mo_plan_102 rfl 2 rfl ?_
                  refine aw_cVf mm_mo_mark 0 0 _ 5 [_, _] _ (wc_mo_mark G κ (km_s (ms_f (km_s (km_s μ 0 (if (rb_i (ga_u A) (nI j) && rb_i (ga_n A) (nI k)) = true then 0 else 1)) 0 (if decide (ga_u A * ga_n A ≤ 12) = true then 0 else 2)) q (nI gx.2.2.2) f g) 0 (if decide (¬ nI gx.2.2.2 < 0) = true then 0 else 3)) o rest hR hW h12 hj hk hF hDl rfl hI.2.1 hI.2.2.1 (bf_len hI) (List.getElem?_eq_some_iff.mp hI.1).1) dd_mo_plan_103 cv_mo_152 my_mo_mark np_mo_mark rfl rfl rfl (by decide) rfl rfl (Nat.le_of_ble_eq_true rfl) (Nat.le_of_ble_eq_true rfl) (fun h9 hq => ?_)
                  obtain ⟨l, L, rfl, hl, hI9⟩ := hq
                  refine aw_aload_n dd_mo_plan_106 rfl 0 rfl ?_
                  refine aw_getf _ 5 21 dd_mo_plan_107 fl_mo_62 rfl rfl ?_
                  refine aw_iconst (v := (nI 0)) dd_mo_plan_110 (by decide) ?_
                  refine aw_iaN _ (0) dd_mo_plan_111 rfl (by decide) (by decide) ?_
                  refine aw_top (y := nI (sc_0 A)) (hF.2.1 0 _ hI.1).1 ?_
                  refine aw_istore (lv' := [(4, _), (0, _), (1, _), (2, _), (3, _)]) dd_mo_plan_112 (by decide) rfl ?_
                  refine aw_iconst (v := (-1)) dd_mo_plan_114 (by decide) ?_
                  refine aw_istore (lv' := [(5, _), (4, _), (0, _), (1, _), (2, _), (3, _)]) dd_mo_plan_115 (by decide) rfl ?_
                  refine aw_iconst (v := (nI 0)) dd_mo_plan_117 (by decide) ?_
                  refine aw_istore (lv' := [(6, _), (5, _), (4, _), (0, _), (1, _), (2, _), (3, _)]) dd_mo_plan_118 (by decide) rfl ?_
                  obtain ⟨y0, hy0, hyd, -⟩ := bf_d hI hg gx.2.2.2 (Nat.le_refl _)
                  have hy1 : bf_u (sc_F A i) i gx.2.2.2 = 0 := by
                    rcases Nat.eq_zero_or_pos (bf_u (sc_F A i) i gx.2.2.2) with e | e
                    · exact e
                    · obtain ⟨-, -, w, -, -, hw9⟩ := hI.2.2.2.1 _ y0 e hy0
                      omega
                  have hy2 := hy0
                  rw [hy1, hI.1] at hy2
                  cases hy2
                  refine aw_mono ?_ (wl_mo_plan2 G κ ((km_s (ms_f (km_s (km_s μ 0 (if (rb_i (ga_u A) (nI j) && rb_i (ga_n A) (nI k)) = true then 0 else 1)) 0 (if decide (ga_u A * ga_n A ≤ 12) = true then 0 else 2)) q (nI gx.2.2.2) f g) 0 (if decide (¬ nI gx.2.2.2 < 0) = true then 0 else 3)).1, va_up (km_s (ms_f (km_s (km_s μ 0 (if (rb_i (ga_u A) (nI j) && rb_i (ga_n A) (nI k)) = true then 0 else 1)) 0 (if decide (ga_u A * ga_n A ≤ 12) = true then 0 else 2)) q (nI gx.2.2.2) f g) 0 (if decide (¬ nI gx.2.2.2 < 0) = true then 0 else 3)).2 16 l) o rest hR hW h12 hj hk hg hno hgl hF hl hI9 h8 _ 0 (Nat.zero_add _) _ _ hy0 (fun h9 => absurd h9 (Nat.lt_irrefl 0)))
                  rintro o9 h9 ⟨rfl, rfl⟩
                  exact ⟨_, rfl, fun _ => rfl, _, rfl, hR, wn_t hw3⟩
                · rw [if_pos (Or.inr (Int32.not_lt.mp h8))]
                  refine aw_iconst (v := (-1)) dd_mo_plan_98 (by decide) ?_
                  exact aw_iret dd_mo_plan_99 rfl ⟨_, rfl, fun _ => rfl, _, rfl, hR, wn_t hw3⟩
            · replace hw := zb_e0 hw
              have h6 : nr < 0 := by simpa using hw
              have hsf : sc_f A j k 4097 0 = none := by
                cases hsf : sc_f A j k 4097 0 with
                | none => rfl
                | some i => (obtain ⟨rfl, gx, hg, rfl⟩ := hsome i hsf; exact absurd h6 (nI_pos (hF.2.1 i gx hg).2.2))
              rw [hsf]
              refine aw_iconst (v := 0) dd_mo_plan_84 (by decide) ?_
              exact aw_iret dd_mo_plan_85 rfl ⟨_, rfl, fun h0 => absurd (show (3 : Int32) = 0 from h0) (by decide), _, rfl, hR, wn_f hw⟩
          · refine aw_aload_n dd_mo_plan_65 rfl 0 rfl ?_
            refine aw_getf _ 5 23 dd_mo_plan_66 fl_mo_138 rfl rfl ?_
            refine aw_top (y := nr) rfl ?_
            refine aw_if_lt (tgt := 76) dd_mo_plan_69 (by decide) (fun h6 => ?_) (fun h6 => ?_)
            · refine aw_iconst (v := 0) dd_mo_plan_76 (by decide) ?_
              exact aw_top (by simp [zb_i, h6]) kj65
            · refine aw_iconst (v := 1) dd_mo_plan_72 (by decide) ?_
              refine aw_goto (tgt := 77) dd_mo_plan_73 (by decide) ?_
              exact aw_top (by simp [zb_i, h6]) kj65
        · replace hw := zb_e0 hw
          rw [if_pos hw]
          refine aw_iconst (v := 0) dd_mo_plan_56 (by decide) ?_
          exact aw_iret dd_mo_plan_57 rfl (by first | exact ⟨_, rfl, fun h0 => absurd (show (1 : Int32) = 0 from h0) (by decide), _, rfl, hR, wn_f hw⟩ | exact ⟨_, rfl, fun h0 => absurd (show (2 : Int32) = 0 from h0) (by decide), _, rfl, hR, wn_f hw⟩)
      · refine aw_aload_n dd_mo_plan_30 rfl 0 rfl ?_
        refine aw_getf _ 5 2 dd_mo_plan_31 fl_mo_72 rfl rfl ?_
        refine aw_top (hU.1) ?_
        refine aw_aload_n dd_mo_plan_34 rfl 0 rfl ?_
        refine aw_getf _ 5 1 dd_mo_plan_35 fl_mo_69 rfl rfl ?_
        refine aw_top (hB.1) ?_
        refine aw_imul dd_mo_plan_38 ?_
        refine aw_top (nI_mul _ _) ?_
        refine aw_bipush (v := (nI 12)) dd_mo_plan_39 (by decide) ?_
        refine aw_icmp_gt (tgt := 48) dd_mo_plan_41 (by decide) (fun h5 => ?_) (fun h5 => ?_)
        · refine aw_iconst (v := 0) dd_mo_plan_48 (by decide) ?_
          exact aw_top (by rw [nI_ltI (by decide) (by omega)] at h5; simp [zb_i]; omega) kj30
        · refine aw_iconst (v := 1) dd_mo_plan_44 (by decide) ?_
          refine aw_goto (tgt := 49) dd_mo_plan_45 (by decide) ?_
          exact aw_top (by rw [nI_ltI (by decide) (by omega)] at h5; simp [zb_i]; omega) kj30
  · refine aw_aload_n dd_mo_plan_1 rfl 0 rfl ?_
    refine aw_iload_n dd_mo_plan_2 rfl 1 rfl ?_
    refine aw_cVi mm_mo_isUser 0 0 _ 5 [_] _ (wc_mo_isUser G κ _ o rest (n := ga_u A) hU.1 _) dd_mo_plan_3 cv_mo_113 my_mo_isUser np_mo_isUser rfl rfl rfl (by decide) rfl rfl (Nat.le_of_ble_eq_true rfl) (Nat.le_of_ble_eq_true rfl) ?_
    refine aw_if_eq (tgt := 21) dd_mo_plan_6 (by decide) (fun h1 => ?_) (fun h1 => ?_)
    · refine aw_iconst (v := 0) dd_mo_plan_21 (by decide) ?_
      exact aw_top (by simp_all [zb_q0, zb_q1, zb_i]) kj1
    · refine aw_aload_n dd_mo_plan_9 rfl 0 rfl ?_
      refine aw_iload_n dd_mo_plan_10 rfl 2 rfl ?_
      refine aw_cVi mm_mo_isRole 0 0 _ 5 [_] _ (wc_mo_isRole G κ _ o rest (n := ga_n A) hB.1 _) dd_mo_plan_11 cv_mo_90 my_mo_isRole np_mo_isRole rfl rfl rfl (by decide) rfl rfl (Nat.le_of_ble_eq_true rfl) (Nat.le_of_ble_eq_true rfl) ?_
      refine aw_if_eq (tgt := 21) dd_mo_plan_14 (by decide) (fun h2 => ?_) (fun h2 => ?_)
      · refine aw_iconst (v := 0) dd_mo_plan_21 (by decide) ?_
        exact aw_top (by simp_all [zb_q0, zb_q1, zb_i]) kj1
      · refine aw_iconst (v := 1) dd_mo_plan_17 (by decide) ?_
        refine aw_goto (tgt := 22) dd_mo_plan_18 (by decide) ?_
        exact aw_top (by simp_all [zb_q0, zb_q1, zb_i]) kj1
