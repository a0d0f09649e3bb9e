/-! ===== the class: the search, second half ===== -/
/-- the class's found states and last steps stand for what was found -/
def bk_R (A : aa_T) (F : List bf_E) (fc : Int32) (g f : Nat → Int32) : Prop := fc = nI F.length ∧ (∀ (i : Nat) (x : bf_E), F[i]? = some x → g i = nI x.1 ∧ f x.1 = (if i = 0 then -2 else nI (mv_c A x.2.2.1)) ∧ (0 < i → mv_c A x.2.2.1 < 1000)) ∧ ∀ s, s < 4096 → ¬ F.any (fun x => decide (x.1 = s)) = true → f s = -1
theorem bk_a {A : aa_T} {F : List bf_E} {fc : Int32} {g f : Nat → Int32} {t p m d : Nat} (h : bk_R A F fc g f) (h0 : 0 < F.length) (hm : mv_c A m < 1000) (hn : ¬ F.any (fun x => decide (x.1 = t)) = true) : bk_R A (F ++ [(t, p, m, d)]) (nI (F.length + 1)) (upd g F.length (nI t)) (upd f t (nI (mv_c A m))) := by
  obtain ⟨h1, h2, h3⟩ := h
  refine ⟨by rw [List.length_append]; rfl, fun i x hx => ?_, fun s hs ha => ?_⟩
  · rcases ga_c1 hx with ⟨hi, hx⟩ | ⟨rfl, rfl⟩
    · obtain ⟨g1, g2, g3⟩ := h2 i x hx
      unfold upd
      rw [if_neg (by omega), if_neg (bf_new hn hx)]
      exact ⟨g1, g2, g3⟩
    · unfold upd
      rw [if_pos rfl, if_pos rfl, if_neg (by omega)]
      exact ⟨rfl, rfl, fun _ => hm⟩
  · rw [List.any_append] at ha
    simp only [Bool.or_eq_true, not_or] at ha
    unfold upd
    have h4 : ¬ s = t := fun e => ha.2 (by simp [e])
    rw [if_neg h4]
    exact h3 s hs ha.1
theorem bk_in {A : aa_T} {F : List bf_E} {fc : Int32} {g f : Nat → Int32} {t : Nat} (h : bk_R A F fc g f) (ht : t < 4096) : (¬ f t = -1) ↔ F.any (fun x => decide (x.1 = t)) = true := by
  constructor
  · intro h1
    cases ha : F.any (fun x => decide (x.1 = t)) with
    | true => rfl
    | false => exact absurd (h.2.2 t ht (by rw [ha]; decide)) h1
  · intro ha h1
    obtain ⟨j, x, hj, rfl⟩ := bf_old ha
    obtain ⟨-, h2, h3⟩ := h.2.1 j x hj
    rw [h1] at h2
    split at h2
    · exact absurd h2 (by decide)
    · have h4 := h3 (by omega)
      have h5 := nI_pos (n := mv_c A x.2.2.1) (by omega)
      rw [← h2] at h5
      exact h5 (by decide)
theorem mv_2 {n v r : Nat} (hr : r < n) : (2 * (v * n + r)) / 2 / n = v ∧ (2 * (v * n + r)) / 2 % n = r ∧ (2 * (v * n + r)) % 2 = 0 ∧ (2 * (v * n + r) + 1) / 2 / n = v ∧ (2 * (v * n + r) + 1) / 2 % n = r ∧ (2 * (v * n + r) + 1) % 2 = 1 := by
  have h1 : (2 * (v * n + r)) / 2 = v * n + r := by omega
  have h2 : (2 * (v * n + r) + 1) / 2 = v * n + r := by omega
  have h3 : (v * n + r) / n = v := by
    rw [Nat.mul_comm, Nat.mul_add_div (by omega), Nat.div_eq_of_lt hr, Nat.add_zero]
  have h4 : (v * n + r) % n = r := by
    rw [Nat.mul_comm, Nat.mul_add_mod, Nat.mod_eq_of_lt hr]
  rw [h1, h2]
  exact ⟨h3, h4, by omega, h3, h4, by omega⟩
theorem sc_m0 {A : aa_T} {s v r : Nat} (hr : r < ga_n A) : sc_t A s (2 * (v * ga_n A + r)) = ps_s (ga_n A) (ga_u A) (fun t => pc_f (ga_b A) t (ga_n A)) (ga_s A) (ga_r A) s v r true := by
  obtain ⟨h1, h2, h3, -⟩ := mv_2 (v := v) hr
  unfold sc_t
  rw [h1, h2, h3]
  rfl
theorem sc_m1 {A : aa_T} {s v r : Nat} (hr : r < ga_n A) : sc_t A s (2 * (v * ga_n A + r) + 1) = ps_s (ga_n A) (ga_u A) (fun t => pc_f (ga_b A) t (ga_n A)) (ga_s A) (ga_r A) s v r false := by
  obtain ⟨-, -, -, h1, h2, h3⟩ := mv_2 (v := v) hr
  unfold sc_t
  rw [h1, h2, h3]
  rfl
def sc_i (A : aa_T) (s v r : Nat) : Bool := is_f (fun t => pc_f (ga_b A) t (ga_n A)) (ga_s A) (ga_r A) (pi_a (ga_n A) (fun t => pc_f (ga_b A) t (ga_n A)) s (ga_u A)) (pi_r (ga_n A) s v) r
theorem sc_iy {A : aa_T} {s v r : Nat} (hr : r < ga_n A) (h : sc_i A s v r = true) : ((pi_r (ga_n A) s v).testBit r = true → sc_t A s (2 * (v * ga_n A + r)) = none ∧ sc_t A s (2 * (v * ga_n A + r) + 1) = some (s ^^^ 1 <<< (v * ga_n A + r))) ∧ ((pi_r (ga_n A) s v).testBit r = false → sc_t A s (2 * (v * ga_n A + r)) = some (s ^^^ 1 <<< (v * ga_n A + r)) ∧ sc_t A s (2 * (v * ga_n A + r) + 1) = none) := by
  rw [sc_m0 hr, sc_m1 hr]
  unfold sc_i is_f at h
  refine ⟨fun hb => ?_, fun hb => ?_⟩
  · rw [if_pos hb] at h
    unfold ps_s
    rw [hb, h]
    simp
  · rw [if_neg (by rw [hb]; decide), Bool.and_eq_true] at h
    unfold ps_s
    rw [hb, h.1, h.2]
    simp
theorem sc_in {A : aa_T} {s v r : Nat} (hr : r < ga_n A) (h : sc_i A s v r = false) : sc_t A s (2 * (v * ga_n A + r)) = none ∧ sc_t A s (2 * (v * ga_n A + r) + 1) = none := by
  rw [sc_m0 hr, sc_m1 hr]
  unfold sc_i is_f at h
  cases hb : (pi_r (ga_n A) s v).testBit r with
  | true =>
    rw [if_pos hb] at h
    unfold ps_s
    rw [hb, h]
    simp
  | false =>
    rw [if_neg (by rw [hb]; decide)] at h
    unfold ps_s
    rw [hb]
    refine ⟨?_, by simp⟩
    rw [if_neg (by decide)]
    cases h1 : pr_l (ga_r A) true (pi_a (ga_n A) (fun t => pc_f (ga_b A) t (ga_n A)) s (ga_u A)) (pc_f (ga_b A) (pi_r (ga_n A) s v) (ga_n A)) r with
    | false => rw [if_pos rfl]
    | true =>
      rw [h1, Bool.true_and] at h
      rw [if_neg (by decide), if_pos ⟨rfl, h⟩]
theorem sc_x {A : aa_T} {s v r t : Nat} (hr : r < ga_n A) : (sc_t A s (2 * (v * ga_n A + r)) = some t → t = s ^^^ 1 <<< (v * ga_n A + r)) ∧ (sc_t A s (2 * (v * ga_n A + r) + 1) = some t → t = s ^^^ 1 <<< (v * ga_n A + r)) := by
  rw [sc_m0 hr, sc_m1 hr]
  exact ⟨fun h => (ps_x h).1, fun h => (ps_x h).1⟩
theorem b1_n {st : Nat → Nat → Option Nat} {p s d m : Nat} {F : List bf_E} (h : st s m = none) : bf_1 st p s d F m = F := by unfold bf_1; rw [h]
theorem b1_o {st : Nat → Nat → Option Nat} {p s d m t : Nat} {F : List bf_E} (h : ∀ t', st s m = some t' → t' = t) (ha : F.any (fun x => decide (x.1 = t)) = true) : bf_1 st p s d F m = F := by
  unfold bf_1
  split
  · rfl
  · rename_i t' e
    rw [h t' e, if_pos ha]
theorem b1_y {st : Nat → Nat → Option Nat} {p s d m t : Nat} {F : List bf_E} (h : st s m = some t) (ha : ¬ F.any (fun x => decide (x.1 = t)) = true) : bf_1 st p s d F m = F ++ [(t, p, m, d + 1)] := by
  unfold bf_1
  rw [h]
  exact if_neg ha
theorem wl_se_takeSteps1 (G : ag_T) (κ : ck_T) (μ : cm_T) (o : Nat → Int64) (rest : List va_E) {A : aa_T} (hR : rk_R G κ rest A) (hW : wa_W A) (h12 : ga_u A * ga_n A ≤ 12) (hn0 : 0 < ga_n A) {kk : Nat} {x : bf_E} (hx : (sc_F A kk)[kk]? = some x) {v : Nat} (hv : v < ga_u A) {Q : aq_T} (hend : ∀ fc g f, bk_R A (bf_m (sc_t A) kk x.1 x.2.2.2 (sc_F A kk) (2 * (v * ga_n A + ga_n A))) fc g f → aw_w G mm_se_takeSteps 5 113 0 0 117 [(5, .int (nI (ga_n A))), (4, .int (nI (pi_r (ga_n A) x.1 v))), (3, .int (nI v)), (2, .int (nI (pi_a (ga_n A) (fun t => pc_f (ga_b A) t (ga_n A)) x.1 (ga_u A)))), (0, .ref (G.1 + 6)), (1, .int (nI x.1))] [] (hp_f G (ks_f κ fc (nI (ga_u A)) g f) μ o rest) Q) : ∀ (k r : Nat), r + k = ga_n A → ∀ fc g f, bk_R A (bf_m (sc_t A) kk x.1 x.2.2.2 (sc_F A kk) (2 * (v * ga_n A + r))) fc g f → aw_w G mm_se_takeSteps 5 113 0 0 27 [(5, .int (nI r)), (4, .int (nI (pi_r (ga_n A) x.1 v))), (3, .int (nI v)), (2, .int (nI (pi_a (ga_n A) (fun t => pc_f (ga_b A) t (ga_n A)) x.1 (ga_u A)))), (0, .ref (G.1 + 6)), (1, .int (nI x.1))] [] (hp_f G (ks_f κ fc (nI (ga_u A)) g f) μ o rest) Q := by
  obtain ⟨hC, hGr, hU, hSL, hDL, hRu, hSs, hDD⟩ := id hR; have hn6 := hC.2.1; have hu5 := hU.2.1
  have hst := sc_s h12 hn0
  have hI0 := sc_I hW h12 hn0 kk
  have hsx : x.1 < 4096 := hI0.2.1 kk x hx
  have hvn := vn_le hv h12
  have hO := pi_lt (ga_n A) x.1 v hn6
  have hAd := pi_al (cl := fun t => pc_f (ga_b A) t (ga_n A)) (fun t ht => pc_64 hC.2.2.2 ht _) hn6 x.1 (ga_u A)
  have hun : v * ga_n A + ga_n A ≤ ga_u A * ga_n A := by
    have h1 : (v + 1) * ga_n A ≤ ga_u A * ga_n A := Nat.mul_le_mul_right _ hv
    rw [Nat.add_mul, Nat.one_mul] at h1
    exact h1
  have hMe : sc_M A = 2 * (ga_u A * ga_n A) := by unfold sc_M; rw [Nat.mul_assoc]
  intro k
  induction k with
  | zero =>
    intro r hr fc g f hf
    have e : r = ga_n A := by omega
    subst e
    refine aw_iload dd_se_takeSteps_27 0 rfl ?_
    refine aw_aload_n dd_se_takeSteps_29 rfl 4 rfl ?_
    refine aw_getf _ 2 0 dd_se_takeSteps_30 fl_se_9 rfl rfl ?_
    refine aw_getf _ 1 0 dd_se_takeSteps_33 fl_se_71 rfl rfl ?_
    refine aw_top (hC.1) ?_
    refine aw_icmp_ge (tgt := 117) dd_se_takeSteps_36 (by decide) (fun _ => ?_) (fun h9 => absurd (nI_le (Nat.le_refl _) (by omega)) h9)
    exact hend fc g f hf
  | succ k ih =>
    intro r hr fc g f hf
    have hrn : r < ga_n A := by omega
    have hI := bf_ms hI0 hx hst (2 * (v * ga_n A + r)) (by omega)
    have hnx : (x.1 ^^^ 1 <<< (v * ga_n A + r)) < 4096 := Nat.xor_lt_two_pow (n := 12) hsx (bt_1 (by omega))
    have e2 : (bf_m (sc_t A) kk x.1 x.2.2.2 (sc_F A kk) (2 * (v * ga_n A + (r + 1)))) = bf_1 (sc_t A) kk x.1 x.2.2.2 (bf_1 (sc_t A) kk x.1 x.2.2.2 (bf_m (sc_t A) kk x.1 x.2.2.2 (sc_F A kk) (2 * (v * ga_n A + r))) (2 * (v * ga_n A + r))) (2 * (v * ga_n A + r) + 1) := by
      rw [show 2 * (v * ga_n A + (r + 1)) = 2 * (v * ga_n A + r) + 1 + 1 by omega]
      rfl
    have hlen0 : 0 < (bf_m (sc_t A) kk x.1 x.2.2.2 (sc_F A kk) (2 * (v * ga_n A + r))).length := (List.getElem?_eq_some_iff.mp hI.1).1
    have sx := fun t => sc_x (A := A) (s := x.1) (v := v) (t := t) hrn
    refine aw_iload dd_se_takeSteps_27 0 rfl ?_
    refine aw_aload_n dd_se_takeSteps_29 rfl 4 rfl ?_
    refine aw_getf _ 2 0 dd_se_takeSteps_30 fl_se_9 rfl rfl ?_
    refine aw_getf _ 1 0 dd_se_takeSteps_33 fl_se_71 rfl rfl ?_
    refine aw_top (hC.1) ?_
    refine aw_icmp_ge (tgt := 117) dd_se_takeSteps_36 (by decide) (fun h9 => absurd h9 (nI_ge (by omega) (by omega))) (fun _ => ?_)
    refine aw_iload_n dd_se_takeSteps_39 rfl 5 rfl ?_
    refine aw_iconst (v := (nI 1)) dd_se_takeSteps_40 (by decide) ?_
    refine aw_aload_n dd_se_takeSteps_41 rfl 4 rfl ?_
    refine aw_iload_n dd_se_takeSteps_42 rfl 2 rfl ?_
    refine aw_iload dd_se_takeSteps_43 0 rfl ?_
    refine aw_cVi mm_se_pairBit 0 0 _ 2 [_, _] _ (wc_se_pairBit G (ks_f κ fc (nI (ga_u A)) g f) μ o rest hC.1 hn6 v r) dd_se_takeSteps_45 cv_se_52 my_se_pairBit np_se_pairBit rfl rfl rfl (by decide) rfl rfl (Nat.le_of_ble_eq_true rfl) (Nat.le_of_ble_eq_true rfl) ?_
    refine aw_ishl dd_se_takeSteps_48 ?_
    refine aw_top (nI_shl 1 (by omega)) ?_
    refine aw_ixor dd_se_takeSteps_49 ?_
    refine aw_top (nI_xor _ _) ?_
    refine aw_istore (lv' := [(6, _), (5, _), (4, _), (3, _), (2, _), (0, _), (1, _)]) dd_se_takeSteps_50 (by decide) rfl ?_
    refine aw_aload_n dd_se_takeSteps_52 rfl 5 rfl ?_
    refine aw_getf _ 2 2 dd_se_takeSteps_53 fl_se_19 rfl rfl ?_
    refine aw_iload dd_se_takeSteps_56 0 rfl ?_
    refine aw_iaN _ ((x.1 ^^^ 1 <<< (v * ga_n A + r))) dd_se_takeSteps_58 rfl (hnx) (by decide) ?_
    refine aw_top (y := f (x.1 ^^^ 1 <<< (v * ga_n A + r))) rfl ?_
    refine aw_iconst (v := (-1)) dd_se_takeSteps_59 (by decide) ?_
    refine aw_icmp_ne (tgt := 111) dd_se_takeSteps_60 (by decide) (fun h1 => ?_) (fun h1 => ?_)
    · have han := (bk_in hf hnx).mp h1
      have hf9 : bk_R A (bf_m (sc_t A) kk x.1 x.2.2.2 (sc_F A kk) (2 * (v * ga_n A + (r + 1)))) fc g f := by
        rw [e2, b1_o (fun t h => (sx t).1 h) han, b1_o (fun t h => (sx t).2 h) han]
        exact hf
      refine aw_iinc (v := nI (r + 1)) (lv' := [(5, _), (6, _), (4, _), (3, _), (2, _), (0, _), (1, _)]) dd_se_takeSteps_111 1 rfl (nI_1 _) (by decide) rfl ?_
      refine aw_goto (tgt := 27) dd_se_takeSteps_114 (by decide) ?_
      exact aw_lv [0, 2, 3, 4, 5, 6] rfl (ih (r + 1) (by omega) _ _ _ hf9)
    · have han : ¬ (bf_m (sc_t A) kk x.1 x.2.2.2 (sc_F A kk) (2 * (v * ga_n A + r))).any (fun y => decide (y.1 = (x.1 ^^^ 1 <<< (v * ga_n A + r)))) = true := fun h9 => (bk_in hf hnx).mpr h9 h1
      refine aw_aload_n dd_se_takeSteps_63 rfl 5 rfl ?_
      refine aw_iload_n dd_se_takeSteps_64 rfl 4 rfl ?_
      refine aw_iload dd_se_takeSteps_65 2 rfl ?_
      refine aw_iload dd_se_takeSteps_67 1 rfl ?_
      refine aw_cVi mm_se_isStep 0 0 _ 2 [_, _, _] _ (wc_se_isStep G (ks_f κ fc (nI (ga_u A)) g f) μ o rest hC hSL hRu hAd hO (by omega)) dd_se_takeSteps_69 cv_se_76 my_se_isStep np_se_isStep rfl rfl rfl (by decide) rfl rfl (Nat.le_of_ble_eq_true rfl) (Nat.le_of_ble_eq_true rfl) ?_
      refine aw_top (y := zb_i (sc_i A x.1 v r)) rfl ?_
      refine aw_if_eq (tgt := 111) dd_se_takeSteps_72 (by decide) (fun h2 => ?_) (fun h2 => ?_)
      · have h2 := sc_in hrn (zb_e0 h2)
        have hf9 : bk_R A (bf_m (sc_t A) kk x.1 x.2.2.2 (sc_F A kk) (2 * (v * ga_n A + (r + 1)))) fc g f := by
          rw [e2, b1_n h2.1, b1_n h2.2]
          exact hf
        refine aw_iinc (v := nI (r + 1)) (lv' := [(5, _), (6, _), (4, _), (3, _), (2, _), (0, _), (1, _)]) dd_se_takeSteps_111 1 rfl (nI_1 _) (by decide) rfl ?_
        refine aw_goto (tgt := 27) dd_se_takeSteps_114 (by decide) ?_
        exact aw_lv [0, 2, 3, 4, 5, 6] rfl (ih (r + 1) (by omega) _ _ _ hf9)
      · have h2 := sc_iy hrn (zb_n0 h2)
        refine aw_join (tgt := 90) (v := zb_i ((pi_r (ga_n A) x.1 v).testBit r)) ?_ (fun kj75 => ?_)
        · refine aw_istore (lv' := [(7, _), (6, _), (5, _), (4, _), (3, _), (2, _), (0, _), (1, _)]) dd_se_takeSteps_90 (by decide) rfl ?_
          refine aw_aload_n dd_se_takeSteps_92 rfl 6 rfl ?_
          refine aw_iload dd_se_takeSteps_93 1 rfl ?_
          refine aw_bipush (v := (nI 100)) dd_se_takeSteps_95 (by decide) ?_
          refine aw_iload_n dd_se_takeSteps_97 rfl 4 rfl ?_
          refine aw_imul dd_se_takeSteps_98 ?_
          refine aw_top (nI_mul _ _) ?_
          refine aw_bipush (v := (nI 10)) dd_se_takeSteps_99 (by decide) ?_
          refine aw_iload dd_se_takeSteps_101 2 rfl ?_
          refine aw_imul dd_se_takeSteps_103 ?_
          refine aw_top (nI_mul _ _) ?_
          refine aw_iadd dd_se_takeSteps_104 ?_
          refine aw_top (nI_add _ _) ?_
          refine aw_iload dd_se_takeSteps_105 0 rfl ?_
          refine aw_iadd dd_se_takeSteps_107 ?_
          refine aw_top (y := nI (100 * v + 10 * r + (if (pi_r (ga_n A) x.1 v).testBit r = true then 1 else 0))) (by cases (pi_r (ga_n A) x.1 v).testBit r <;> (show nI _ + nI _ = _; rw [nI_add]; rfl)) ?_
          have hall : ∃ mm, mm < sc_M A ∧ mv_c A mm = (100 * v + 10 * r + (if (pi_r (ga_n A) x.1 v).testBit r = true then 1 else 0)) ∧ (bf_m (sc_t A) kk x.1 x.2.2.2 (sc_F A kk) (2 * (v * ga_n A + (r + 1)))) = (bf_m (sc_t A) kk x.1 x.2.2.2 (sc_F A kk) (2 * (v * ga_n A + r))) ++ [((x.1 ^^^ 1 <<< (v * ga_n A + r)), kk, mm, x.2.2.2 + 1)] ∧ (bf_m (sc_t A) kk x.1 x.2.2.2 (sc_F A kk) (2 * (v * ga_n A + r))).length < 4096 := by
            obtain ⟨q1, q2, q3, q4, q5, q6⟩ := mv_2 (v := v) hrn
            cases hb : (pi_r (ga_n A) x.1 v).testBit r with
            | true =>
              have h4 := h2.1 hb
              have hI1 := bf_ms hI0 hx hst (2 * (v * ga_n A + r) + 1) (by omega)
              have e3 : (bf_m (sc_t A) kk x.1 x.2.2.2 (sc_F A kk) (2 * (v * ga_n A + r) + 1)) = (bf_m (sc_t A) kk x.1 x.2.2.2 (sc_F A kk) (2 * (v * ga_n A + r))) := b1_n h4.1
              rw [e3] at hI1
              refine ⟨2 * (v * ga_n A + r) + 1, by omega, by (unfold mv_c; rw [q4, q5, q6]; rfl), ?_, bf_lt hI1 (bf_mp hx _) (by omega) hst h4.2 han⟩
              rw [e2, b1_n h4.1, b1_y h4.2 han]
            | false =>
              have h4 := h2.2 hb
              refine ⟨2 * (v * ga_n A + r), by omega, by (unfold mv_c; rw [q1, q2, q3]; rfl), ?_, bf_lt hI (bf_mp hx _) (by omega) hst h4.1 han⟩
              rw [e2, b1_y h4.1 han, b1_n h4.2]
          obtain ⟨mm, hm1, hm2, hm3, hm4⟩ := hall
          have hfc := hf.1
          subst hfc
          refine aw_cVv mm_se_reach 0 0 _ 2 [_, _] _ (wc_se_reach G κ μ o rest hm4 hnx (nI (ga_u A)) (nI (100 * v + 10 * r + (if (pi_r (ga_n A) x.1 v).testBit r = true then 1 else 0))) g f) dd_se_takeSteps_108 cv_se_61 my_se_reach np_se_reach rfl rfl rfl (by decide) rfl rfl (Nat.le_of_ble_eq_true rfl) (Nat.le_of_ble_eq_true rfl) ?_
          have hf9 : bk_R A (bf_m (sc_t A) kk x.1 x.2.2.2 (sc_F A kk) (2 * (v * ga_n A + (r + 1)))) (nI ((bf_m (sc_t A) kk x.1 x.2.2.2 (sc_F A kk) (2 * (v * ga_n A + r))).length + 1)) (upd g (bf_m (sc_t A) kk x.1 x.2.2.2 (sc_F A kk) (2 * (v * ga_n A + r))).length (nI (x.1 ^^^ 1 <<< (v * ga_n A + r)))) (upd f (x.1 ^^^ 1 <<< (v * ga_n A + r)) (nI (100 * v + 10 * r + (if (pi_r (ga_n A) x.1 v).testBit r = true then 1 else 0)))) := by
            rw [hm3, ← hm2]
            exact bk_a hf hlen0 (mv_b hn0 h12 hn6 hu5 hm1) han
          refine aw_iinc (v := nI (r + 1)) (lv' := [(5, _), (7, _), (6, _), (4, _), (3, _), (2, _), (0, _), (1, _)]) dd_se_takeSteps_111 2 rfl (nI_1 _) (by decide) rfl ?_
          refine aw_goto (tgt := 27) dd_se_takeSteps_114 (by decide) ?_
          exact aw_lv [0, 3, 4, 5, 6, 7] rfl (ih (r + 1) (by omega) _ _ _ hf9)
        · refine aw_iload dd_se_takeSteps_75 2 rfl ?_
          refine aw_iload dd_se_takeSteps_77 1 rfl ?_
          refine aw_cNi mm_ra_has 0 0 "RoleAnalyser" [_, _] _ (wc_ra_has G _ (by omega) (by omega)) dd_se_takeSteps_79 cs_se_37 my_ra_has np_ra_has rfl (by decide) rfl rfl (Nat.le_of_ble_eq_true rfl) (Nat.le_of_ble_eq_true rfl) ?_
          refine aw_if_eq (tgt := 89) dd_se_takeSteps_82 (by decide) (fun h3 => ?_) (fun h3 => ?_)
          · refine aw_iconst (v := 0) dd_se_takeSteps_89 (by decide) ?_
            exact aw_top (by first | (have h9 := zb_e0 h3; simp [zb_i, h9]; done) | (have h9 := zb_n0 h3; simp [zb_i, h9])) kj75
          · refine aw_iconst (v := 1) dd_se_takeSteps_85 (by decide) ?_
            refine aw_goto (tgt := 90) dd_se_takeSteps_86 (by decide) ?_
            exact aw_top (by first | (have h9 := zb_e0 h3; simp [zb_i, h9]; done) | (have h9 := zb_n0 h3; simp [zb_i, h9])) kj75
theorem wl_se_takeSteps2 (G : ag_T) (κ : ck_T) (μ : cm_T) (o : Nat → Int64) (rest : List va_E) {A : aa_T} (hR : rk_R G κ rest A) (hW : wa_W A) (h12 : ga_u A * ga_n A ≤ 12) (hn0 : 0 < ga_n A) {kk : Nat} {x : bf_E} (hx : (sc_F A kk)[kk]? = some x) : ∀ (k r : Nat), r + k = ga_u A → ∀ fc g f, bk_R A (bf_m (sc_t A) kk x.1 x.2.2.2 (sc_F A kk) (2 * (r * ga_n A))) fc g f → aw_w G mm_se_takeSteps 5 113 0 0 8 [(3, .int (nI r)), (2, .int (nI (pi_a (ga_n A) (fun t => pc_f (ga_b A) t (ga_n A)) x.1 (ga_u A)))), (0, .ref (G.1 + 6)), (1, .int (nI x.1))] [] (hp_f G (ks_f κ fc (nI (ga_u A)) g f) μ o rest) (qe_v fun h' => ∃ fc g f, h' = (hp_f G (ks_f κ fc (nI (ga_u A)) g f) μ o rest) ∧ bk_R A (sc_F A (kk + 1)) fc g f) := by
  obtain ⟨hC, hGr, hU, hSL, hDL, hRu, hSs, hDD⟩ := id hR; have hn6 := hC.2.1; have hu5 := hU.2.1
  have hst := sc_s h12 hn0
  have hI0 := sc_I hW h12 hn0 kk
  have hsx : x.1 < 4096 := hI0.2.1 kk x hx
  intro k
  induction k with
  | zero =>
    intro r hr fc g f hf
    have e : r = ga_u A := by omega
    subst e
    rw [show 2 * (ga_u A * ga_n A) = sc_M A by unfold sc_M; rw [Nat.mul_assoc], ← sc_S hx] at hf
    refine aw_iload_n dd_se_takeSteps_8 rfl 0 rfl ?_
    refine aw_aload_n dd_se_takeSteps_9 rfl 2 rfl ?_
    refine aw_getf _ 2 4 dd_se_takeSteps_10 fl_se_22 rfl rfl ?_
    refine aw_top (y := nI (ga_u A)) rfl ?_
    refine aw_icmp_ge (tgt := 123) dd_se_takeSteps_13 (by decide) (fun _ => ?_) (fun h9 => absurd (nI_le (Nat.le_refl _) (by omega)) h9)
    exact aw_vret dd_se_takeSteps_123 rfl ⟨rfl, fc, g, f, rfl, hf⟩
  | succ k ih =>
    intro r hr fc g f hf
    have hvn := vn_le (v := r) (u := ga_u A) (n := ga_n A) (by omega) h12
    refine aw_iload_n dd_se_takeSteps_8 rfl 0 rfl ?_
    refine aw_aload_n dd_se_takeSteps_9 rfl 2 rfl ?_
    refine aw_getf _ 2 4 dd_se_takeSteps_10 fl_se_22 rfl rfl ?_
    refine aw_top (y := nI (ga_u A)) rfl ?_
    refine aw_icmp_ge (tgt := 123) dd_se_takeSteps_13 (by decide) (fun h9 => absurd h9 (nI_ge (by omega) (by omega))) (fun _ => ?_)
    refine aw_aload_n dd_se_takeSteps_16 rfl 2 rfl ?_
    refine aw_iload_n dd_se_takeSteps_17 rfl 3 rfl ?_
    refine aw_iload_n dd_se_takeSteps_18 rfl 0 rfl ?_
    refine aw_cVi mm_se_assignedIn 0 0 _ 2 [_, _] _ (wc_se_assignedIn G (ks_f κ fc (nI (ga_u A)) g f) μ o rest hC.1 hn6 (by omega) (by omega)) dd_se_takeSteps_19 cv_se_68 my_se_assignedIn np_se_assignedIn rfl rfl rfl (by decide) rfl rfl (Nat.le_of_ble_eq_true rfl) (Nat.le_of_ble_eq_true rfl) ?_
    refine aw_istore (lv' := [(4, _), (3, _), (2, _), (0, _), (1, _)]) dd_se_takeSteps_22 (by decide) rfl ?_
    refine aw_iconst (v := (nI 0)) dd_se_takeSteps_24 (by decide) ?_
    refine aw_istore (lv' := [(5, _), (4, _), (3, _), (2, _), (0, _), (1, _)]) dd_se_takeSteps_25 (by decide) rfl ?_
    refine wl_se_takeSteps1 G κ μ o rest hR hW h12 hn0 hx (v := r) (by omega) (fun fc1 g1 f1 hf1 => ?_) (ga_n A) 0 (Nat.zero_add _) fc g f hf
    refine aw_iinc (v := nI (r + 1)) (lv' := [(3, _), (5, _), (4, _), (2, _), (0, _), (1, _)]) dd_se_takeSteps_117 2 rfl (nI_1 _) (by decide) rfl ?_
    refine aw_goto (tgt := 8) dd_se_takeSteps_120 (by decide) ?_
    refine aw_lv [0, 3, 4, 5] rfl (ih (r + 1) (by omega) fc1 g1 f1 ?_)
    rw [Nat.add_mul, Nat.one_mul]
    exact hf1
theorem wc_se_takeSteps (G : ag_T) (κ : ck_T) (μ : cm_T) (o : Nat → Int64) (rest : List va_E) {A : aa_T} (hR : rk_R G κ rest A) (hW : wa_W A) (h12 : ga_u A * ga_n A ≤ 12) (hn0 : 0 < ga_n A) {kk : Nat} {x : bf_E} (hx : (sc_F A kk)[kk]? = some x) {fc : Int32} {g f : Nat → Int32} (hf : bk_R A (sc_F A kk) fc g f) : aw_w G mm_se_takeSteps 5 113 0 0 0 (lv_args 0 [.ref (G.1 + 6), .int (nI x.1)]) [] (hp_f G (ks_f κ fc (nI (ga_u A)) g f) μ o rest) (qe_v fun h' => ∃ fc g f, h' = (hp_f G (ks_f κ fc (nI (ga_u A)) g f) μ o rest) ∧ bk_R A (sc_F A (kk + 1)) fc g f) := by
  obtain ⟨hC, hGr, hU, hSL, hDL, hRu, hSs, hDD⟩ := id hR; have hn6 := hC.2.1; have hu5 := hU.2.1
  have hst := sc_s h12 hn0
  have hI0 := sc_I hW h12 hn0 kk
  have hsx : x.1 < 4096 := hI0.2.1 kk x hx
  refine aw_aload_n dd_se_takeSteps_0 rfl 0 rfl ?_
  refine aw_iload_n dd_se_takeSteps_1 rfl 1 rfl ?_
  refine aw_cVi mm_se_authorizedOfAll 0 0 _ 2 [_] _ (wc_se_authorizedOfAll G (ks_f κ fc (nI (ga_u A)) g f) μ o rest hC (u := ga_u A) rfl hu5 h12 (by omega)) dd_se_takeSteps_2 cv_se_65 my_se_authorizedOfAll np_se_authorizedOfAll rfl rfl rfl (by decide) rfl rfl (Nat.le_of_ble_eq_true rfl) (Nat.le_of_ble_eq_true rfl) ?_
  refine aw_istore_n (lv' := [(2, _), (0, _), (1, _)]) dd_se_takeSteps_5 rfl (by decide) rfl ?_
  refine aw_iconst (v := (nI 0)) dd_se_takeSteps_6 (by decide) ?_
  refine aw_istore_n (lv' := [(3, _), (2, _), (0, _), (1, _)]) dd_se_takeSteps_7 rfl (by decide) rfl ?_
  refine wl_se_takeSteps2 G κ μ o rest hR hW h12 hn0 hx (ga_u A) 0 (Nat.zero_add _) fc g f ?_
  rw [Nat.zero_mul]
  exact hf
theorem wl_se_begin (G : ag_T) (κ : ck_T) (μ : cm_T) (o : Nat → Int64) (rest : List va_E) {A : aa_T} (hR : rk_R G κ rest A) (h12 : ga_u A * ga_n A ≤ 12) (hus : κ.1 2 = nI (ga_u A)) {Q : aq_T} (hend : aw_w G mm_se_begin 1 23 0 0 31 [(3, .int (nI (ga_u A))), (2, .int (nI (sc_0 A))), (0, .ref (G.1 + 6)), (1, .ref (G.1 + 9))] [] (hp_f G κ μ o rest) Q) : ∀ (k r : Nat), r + k = ga_u A → aw_w G mm_se_begin 1 23 0 0 4 [(3, .int (nI r)), (2, .int (nI (p0_s (ga_n A) (ga_a A) r))), (0, .ref (G.1 + 6)), (1, .ref (G.1 + 9))] [] (hp_f G κ μ o rest) Q := by
  obtain ⟨hC, hGr, hU, hSL, hDL, hRu, hSs, hDD⟩ := id hR; have hn6 := hC.2.1; have hu5 := hU.2.1
  intro k
  induction k with
  | zero =>
    intro r hr
    have e : r = ga_u A := by omega
    subst e
    refine aw_iload_n dd_se_begin_4 rfl 0 rfl ?_
    refine aw_aload_n dd_se_begin_5 rfl 2 rfl ?_
    refine aw_getf _ 2 4 dd_se_begin_6 fl_se_22 rfl rfl ?_
    refine aw_top (hus) ?_
    refine aw_icmp_ge (tgt := 31) dd_se_begin_9 (by decide) (fun _ => ?_) (fun h9 => absurd (nI_le (Nat.le_refl _) (by omega)) h9)
    exact hend
  | succ k ih =>
    intro r hr
    have hvn := vn_le (v := r) (u := ga_u A) (n := ga_n A) (by omega) h12
    refine aw_iload_n dd_se_begin_4 rfl 0 rfl ?_
    refine aw_aload_n dd_se_begin_5 rfl 2 rfl ?_
    refine aw_getf _ 2 4 dd_se_begin_6 fl_se_22 rfl rfl ?_
    refine aw_top (hus) ?_
    refine aw_icmp_ge (tgt := 31) dd_se_begin_9 (by decide) (fun h9 => absurd h9 (nI_ge (by omega) (by omega))) (fun _ => ?_)
    refine aw_iload_n dd_se_begin_12 rfl 1 rfl ?_
    refine aw_aload_n dd_se_begin_13 rfl 3 rfl ?_
    refine aw_iload_n dd_se_begin_14 rfl 0 rfl ?_
    refine aw_iaN _ (r) dd_se_begin_15 rfl (by omega) (by decide) ?_
    refine aw_top (hU.2.2.1 r (by omega)) ?_
    refine aw_aload_n dd_se_begin_16 rfl 2 rfl ?_
    refine aw_iload_n dd_se_begin_17 rfl 0 rfl ?_
    refine aw_iconst (v := (nI 0)) dd_se_begin_18 (by decide) ?_
    refine aw_cVi mm_se_pairBit 0 0 _ 2 [_, _] _ (wc_se_pairBit G κ μ o rest hC.1 hn6 r 0) dd_se_begin_19 cv_se_52 my_se_pairBit np_se_pairBit rfl rfl rfl (by decide) rfl rfl (Nat.le_of_ble_eq_true rfl) (Nat.le_of_ble_eq_true rfl) ?_
    refine aw_ishl dd_se_begin_22 ?_
    refine aw_top (nI_shl _ (by omega)) ?_
    refine aw_ior dd_se_begin_23 ?_
    refine aw_top (nI_or _ _) ?_
    rw [Nat.add_zero]
    refine aw_istore_n (lv' := [(2, _), (3, _), (0, _), (1, _)]) dd_se_begin_24 rfl (by decide) rfl ?_
    refine aw_iinc (v := nI (r + 1)) (lv' := [(3, _), (2, _), (0, _), (1, _)]) dd_se_begin_25 1 rfl (nI_1 _) (by decide) rfl ?_
    refine aw_goto (tgt := 4) dd_se_begin_28 (by decide) ?_
    exact ih (r + 1) (by omega)
theorem wc_se_begin (G : ag_T) (κ : ck_T) (μ : cm_T) (o : Nat → Int64) (rest : List va_E) {A : aa_T} (hR : rk_R G κ rest A) (hW : wa_W A) (h12 : ga_u A * ga_n A ≤ 12) (hn0 : 0 < ga_n A) (fc : Int32) (g f : Nat → Int32) : aw_w G mm_se_begin 1 23 0 0 0 (lv_args 0 [.ref (G.1 + 6), .ref (G.1 + 9)]) [] (hp_f G (ks_f κ fc (nI (ga_u A)) g f) μ o rest) (qe_v fun h' => ∃ fc g f, h' = (hp_f G (ks_f κ fc (nI (ga_u A)) g f) μ o rest) ∧ bk_R A (sc_F A 0) fc g f) := by
  obtain ⟨hC, hGr, hU, hSL, hDL, hRu, hSs, hDD⟩ := id hR; have hn6 := hC.2.1; have hu5 := hU.2.1
  have h0l := sc_0l hW h12
  refine aw_iconst (v := (nI 0)) dd_se_begin_0 (by decide) ?_
  refine aw_istore_n (lv' := [(2, _), (0, _), (1, _)]) dd_se_begin_1 rfl (by decide) rfl ?_
  refine aw_iconst (v := (nI 0)) dd_se_begin_2 (by decide) ?_
  refine aw_istore_n (lv' := [(3, _), (2, _), (0, _), (1, _)]) dd_se_begin_3 rfl (by decide) rfl ?_
  refine wl_se_begin G (ks_f κ fc (nI (ga_u A)) g f) μ o rest hR h12 rfl ?_ (ga_u A) 0 (Nat.zero_add _)
  refine aw_aload_n dd_se_begin_31 rfl 2 rfl ?_
  refine aw_getf _ 2 2 dd_se_begin_32 fl_se_19 rfl rfl ?_
  refine aw_iconst (v := (-1)) dd_se_begin_35 (by decide) ?_
  refine aw_cSf mm_ar_fill 0 0 [_, _] _ (wc_ar_fill G (hp_f G (ks_f κ fc (nI (ga_u A)) g f) μ o rest) (i := 8) (n := 4096) (f0 := f) (by decide) rfl) dd_se_begin_36 cs_se_55 my_ar_fill np_ar_fill rfl (by decide) rfl rfl (Nat.le_of_ble_eq_true rfl) (Nat.le_of_ble_eq_true rfl) (fun h9 hq => ?_)
  obtain ⟨f', rfl, hf'⟩ := hq
  rw [ks_a]
  refine aw_aload_n dd_se_begin_39 rfl 2 rfl ?_
  refine aw_iconst (v := 0) dd_se_begin_40 (by decide) ?_
  refine aw_putf _ 2 3 dd_se_begin_41 fl_se_30 nf_se_3 rfl (rfl) (rfl) (Nat.le_of_ble_eq_true rfl) ?_
  refine aw_h (hs_ks1 G _ _ _ _ _) ?_
  rw [ks_c]
  refine aw_aload_n dd_se_begin_44 rfl 2 rfl ?_
  refine aw_iload_n dd_se_begin_45 rfl 1 rfl ?_
  refine aw_bipush (v := (-2)) dd_se_begin_46 (by decide) ?_
  refine aw_cVv mm_se_reach 0 0 _ 2 [_, _] _ (wc_se_reach G κ μ o rest (N := 0) (by decide) h0l (nI (ga_u A)) (-2) g f') dd_se_begin_48 cv_se_61 my_se_reach np_se_reach rfl rfl rfl (by decide) rfl rfl (Nat.le_of_ble_eq_true rfl) (Nat.le_of_ble_eq_true rfl) ?_
  refine aw_vret dd_se_begin_51 rfl ⟨rfl, _, _, _, rfl, rfl, fun i x hx => ?_, fun s hs ha => ?_⟩
  · have e9 := (sc_I hW h12 hn0 0).1
    have hi : i < 1 := (List.getElem?_eq_some_iff.mp hx).1
    have hi0 : i = 0 := by omega
    subst hi0
    rw [e9] at hx
    cases hx
    unfold upd
    rw [if_pos rfl, if_pos rfl, if_pos rfl]
    exact ⟨rfl, rfl, fun h9 => absurd h9 (Nat.lt_irrefl 0)⟩
  · have h9 : ¬ s = sc_0 A := fun e => ha (by unfold sc_F bf_k; simp [e])
    unfold upd
    rw [if_neg h9]
    exact hf' s hs
