/-! ===== the reference: helpers ===== -/
theorem wc_mo_thrown (G : ag_T) (κ : ck_T) (μ : cm_T) (o : Nat → Int64) (rest : List va_E) : aw_w G mm_mo_thrown 0 0 0 0 0 (lv_args 0 [.ref (G.1 + 13)]) [] (hp_f G κ μ o rest) (q_i (μ.1 0) (hp_f G κ μ o rest)) := by
  refine aw_aload_n dd_mo_thrown_0 rfl 0 rfl ?_
  refine aw_getf _ 5 0 dd_mo_thrown_1 fl_mo_65 rfl rfl ?_
  exact aw_iret dd_mo_thrown_4 rfl ⟨rfl, rfl⟩
theorem wc_mo_when (G : ag_T) (κ : ck_T) (μ : cm_T) (o : Nat → Int64) (rest : List va_E) (b : Bool) (n : Int32) : aw_w G mm_mo_when 0 0 0 0 0 (lv_args 0 [.ref (G.1 + 13), .int (zb_i b), .int n]) [] (hp_f G κ μ o rest) (q_i (zb_i b) (hp_f G κ (km_s μ 0 (if b then 0 else n)) o rest)) := by
  refine aw_aload_n dd_mo_when_0 rfl 0 rfl ?_
  refine aw_iload_n dd_mo_when_1 rfl 1 rfl ?_
  refine aw_if_eq (tgt := 9) dd_mo_when_2 (by decide) (fun hc => ?_) (fun hc => ?_)
  · have hb := zb_e0 hc
    subst hb
    refine aw_iload_n dd_mo_when_9 rfl 2 rfl ?_
    refine aw_putf _ 5 0 dd_mo_when_10 fl_mo_65 nf_mo_0 rfl (rfl) (rfl) (Nat.le_of_ble_eq_true rfl) ?_
    refine aw_h (hs_ms0 G _ _ _ _ _) ?_
    refine aw_iload_n dd_mo_when_13 rfl 1 rfl ?_
    exact aw_zret dd_mo_when_14 rfl (zb_01 _) ⟨rfl, rfl⟩
  · have hb := zb_n0 hc
    subst hb
    refine aw_iconst (v := 0) dd_mo_when_5 (by decide) ?_
    refine aw_goto (tgt := 10) dd_mo_when_6 (by decide) ?_
    refine aw_putf _ 5 0 dd_mo_when_10 fl_mo_65 nf_mo_0 rfl (rfl) (rfl) (Nat.le_of_ble_eq_true rfl) ?_
    refine aw_h (hs_ms0 G _ _ _ _ _) ?_
    refine aw_iload_n dd_mo_when_13 rfl 1 rfl ?_
    exact aw_zret dd_mo_when_14 rfl (zb_01 _) ⟨rfl, rfl⟩
theorem wc_mo_isRole (G : ag_T) (κ : ck_T) (μ : cm_T) (o : Nat → Int64) (rest : List va_E) {n : Nat} (hn : μ.1 1 = nI n) (r : Int32) : aw_w G mm_mo_isRole 0 0 0 0 0 (lv_args 0 [.ref (G.1 + 13), .int r]) [] (hp_f G κ μ o rest) (q_i (zb_i (rb_i n r)) (hp_f G κ μ o rest)) := by
  unfold rb_i
  rw [← hn]
  clear hn
  refine aw_iload_n dd_mo_isRole_0 rfl 1 rfl ?_
  refine aw_if_lt (tgt := 16) dd_mo_isRole_1 (by decide) (fun h1 => ?_) (fun h1 => ?_)
  · refine aw_iconst (v := 0) dd_mo_isRole_16 (by decide) ?_
    exact aw_zret dd_mo_isRole_17 rfl (by first | exact Or.inl rfl | exact Or.inr rfl) ⟨by simp [zb_i, *], rfl⟩
  · refine aw_iload_n dd_mo_isRole_4 rfl 1 rfl ?_
    refine aw_aload_n dd_mo_isRole_5 rfl 0 rfl ?_
    refine aw_getf _ 5 1 dd_mo_isRole_6 fl_mo_69 rfl rfl ?_
    refine aw_icmp_ge (tgt := 16) dd_mo_isRole_9 (by decide) (fun h2 => ?_) (fun h2 => ?_)
    · refine aw_iconst (v := 0) dd_mo_isRole_16 (by decide) ?_
      exact aw_zret dd_mo_isRole_17 rfl (by first | exact Or.inl rfl | exact Or.inr rfl) ⟨by simp [zb_i, *], rfl⟩
    · refine aw_iconst (v := 1) dd_mo_isRole_12 (by decide) ?_
      refine aw_goto (tgt := 17) dd_mo_isRole_13 (by decide) ?_
      exact aw_zret dd_mo_isRole_17 rfl (by first | exact Or.inl rfl | exact Or.inr rfl) ⟨by simp [zb_i, *], rfl⟩
theorem wc_mo_isUser (G : ag_T) (κ : ck_T) (μ : cm_T) (o : Nat → Int64) (rest : List va_E) {n : Nat} (hn : μ.1 2 = nI n) (r : Int32) : aw_w G mm_mo_isUser 0 0 0 0 0 (lv_args 0 [.ref (G.1 + 13), .int r]) [] (hp_f G κ μ o rest) (q_i (zb_i (rb_i n r)) (hp_f G κ μ o rest)) := by
  unfold rb_i
  rw [← hn]
  clear hn
  refine aw_iload_n dd_mo_isUser_0 rfl 1 rfl ?_
  refine aw_if_lt (tgt := 16) dd_mo_isUser_1 (by decide) (fun h1 => ?_) (fun h1 => ?_)
  · refine aw_iconst (v := 0) dd_mo_isUser_16 (by decide) ?_
    exact aw_zret dd_mo_isUser_17 rfl (by first | exact Or.inl rfl | exact Or.inr rfl) ⟨by simp [zb_i, *], rfl⟩
  · refine aw_iload_n dd_mo_isUser_4 rfl 1 rfl ?_
    refine aw_aload_n dd_mo_isUser_5 rfl 0 rfl ?_
    refine aw_getf _ 5 2 dd_mo_isUser_6 fl_mo_72 rfl rfl ?_
    refine aw_icmp_ge (tgt := 16) dd_mo_isUser_9 (by decide) (fun h2 => ?_) (fun h2 => ?_)
    · refine aw_iconst (v := 0) dd_mo_isUser_16 (by decide) ?_
      exact aw_zret dd_mo_isUser_17 rfl (by first | exact Or.inl rfl | exact Or.inr rfl) ⟨by simp [zb_i, *], rfl⟩
    · refine aw_iconst (v := 1) dd_mo_isUser_12 (by decide) ?_
      refine aw_goto (tgt := 17) dd_mo_isUser_13 (by decide) ?_
      exact aw_zret dd_mo_isUser_17 rfl (by first | exact Or.inl rfl | exact Or.inr rfl) ⟨by simp [zb_i, *], rfl⟩
theorem wc_mo_isSet (G : ag_T) (h : List va_E) (s : Int32) : aw_w G mm_mo_isSet 0 0 0 0 0 (lv_args 0 [.int s]) [] h (q_i (zb_i (st_i s)) h) := by
  unfold st_i
  refine aw_iload_n dd_mo_isSet_0 rfl 0 rfl ?_
  refine aw_if_lt (tgt := 14) dd_mo_isSet_1 (by decide) (fun h1 => ?_) (fun h1 => ?_)
  · refine aw_iconst (v := 0) dd_mo_isSet_14 (by decide) ?_
    exact aw_zret dd_mo_isSet_15 rfl (by first | exact Or.inl rfl | exact Or.inr rfl) ⟨by simp [zb_i, *], rfl⟩
  · refine aw_iload_n dd_mo_isSet_4 rfl 0 rfl ?_
    refine aw_bipush (v := 63) dd_mo_isSet_5 (by decide) ?_
    refine aw_icmp_gt (tgt := 14) dd_mo_isSet_7 (by decide) (fun h2 => ?_) (fun h2 => ?_)
    · refine aw_iconst (v := 0) dd_mo_isSet_14 (by decide) ?_
      exact aw_zret dd_mo_isSet_15 rfl (by first | exact Or.inl rfl | exact Or.inr rfl) ⟨by simp [zb_i, *], rfl⟩
    · refine aw_iconst (v := 1) dd_mo_isSet_10 (by decide) ?_
      refine aw_goto (tgt := 15) dd_mo_isSet_11 (by decide) ?_
      exact aw_zret dd_mo_isSet_15 rfl (by first | exact Or.inl rfl | exact Or.inr rfl) ⟨by simp [zb_i, *], rfl⟩
theorem se_n {s : Int32} (h1 : ¬ s < 0) (h2 : ¬ 4 ≤ s) : ∃ j, j < 4 ∧ s = nI j := by
  obtain ⟨j, h3, rfl⟩ := nI_of h1
  exact ⟨j, Nat.lt_of_not_le fun h9 => h2 (nI_le (a := 4) h9 h3), rfl⟩
theorem wc_mo_isSession (G : ag_T) (κ : ck_T) (μ : cm_T) (o : Nat → Int64) (rest : List va_E) {A : aa_T} (hS : rm_s μ (ga_o A) (ga_c A)) (s : Int32) : aw_w G mm_mo_isSession 0 0 0 0 0 (lv_args 0 [.ref (G.1 + 13), .int s]) [] (hp_f G κ μ o rest) (q_i (zb_i (se_i A s)) (hp_f G κ μ o rest)) := by
  unfold se_i
  refine aw_iload_n dd_mo_isSession_0 rfl 1 rfl ?_
  refine aw_if_lt (tgt := 22) dd_mo_isSession_1 (by decide) (fun h1 => ?_) (fun h1 => ?_)
  · refine aw_iconst (v := 0) dd_mo_isSession_22 (by decide) ?_
    exact aw_zret dd_mo_isSession_23 rfl (by first | exact Or.inl rfl | exact Or.inr rfl) ⟨by first | (have e1 := iN_n (j := j) (by omega); simp only [zb_q0] at h3; rw [e1]; simp_all [zb_i]; done) | simp [zb_i, *], rfl⟩
  · refine aw_iload_n dd_mo_isSession_4 rfl 1 rfl ?_
    refine aw_iconst (v := 4) dd_mo_isSession_5 (by decide) ?_
    refine aw_icmp_ge (tgt := 22) dd_mo_isSession_6 (by decide) (fun h2 => ?_) (fun h2 => ?_)
    · refine aw_iconst (v := 0) dd_mo_isSession_22 (by decide) ?_
      exact aw_zret dd_mo_isSession_23 rfl (by first | exact Or.inl rfl | exact Or.inr rfl) ⟨by first | (have e1 := iN_n (j := j) (by omega); simp only [zb_q0] at h3; rw [e1]; simp_all [zb_i]; done) | simp [zb_i, *], rfl⟩
    · obtain ⟨j, hj, rfl⟩ := se_n h1 h2
      refine aw_aload_n dd_mo_isSession_9 rfl 0 rfl ?_
      refine aw_getf _ 5 10 dd_mo_isSession_10 fl_mo_31 rfl rfl ?_
      refine aw_iload_n dd_mo_isSession_13 rfl 1 rfl ?_
      refine aw_zaN _ (j) dd_mo_isSession_14 rfl (hj) (by decide) ?_
      refine aw_top (hS.1 j hj).1 ?_
      refine aw_if_eq (tgt := 22) dd_mo_isSession_15 (by decide) (fun h3 => ?_) (fun h3 => ?_)
      · refine aw_iconst (v := 0) dd_mo_isSession_22 (by decide) ?_
        exact aw_zret dd_mo_isSession_23 rfl (by first | exact Or.inl rfl | exact Or.inr rfl) ⟨by first | (have e1 := iN_n (j := j) (by omega); simp only [zb_q0] at h3; rw [e1]; simp_all [zb_i]; done) | simp [zb_i, *], rfl⟩
      · refine aw_iconst (v := 1) dd_mo_isSession_18 (by decide) ?_
        refine aw_goto (tgt := 23) dd_mo_isSession_19 (by decide) ?_
        exact aw_zret dd_mo_isSession_23 rfl (by first | exact Or.inl rfl | exact Or.inr rfl) ⟨by first | (have e1 := iN_n (j := j) (by omega); simp only [zb_q0] at h3; rw [e1]; simp_all [zb_i]; done) | simp [zb_i, *], rfl⟩
theorem wl_mo_count (G : ag_T) (h : List va_E) {s : Nat} (hs : s < 2 ^ 31)  : ∀ (k r : Nat), r + k = 31 → aw_w G mm_mo_count 0 0 0 0 4 [(2, .int (nI r)), (1, .int (nI (pk_f s r))), (0, .int (nI s))] [] h (q_i (nI (pk_f s 31)) h) := by
  intro k
  induction k with
  | zero =>
    intro r hr
    have e : r = 31 := by omega
    subst e
    refine aw_iload_n dd_mo_count_4 rfl 0 rfl ?_
    refine aw_bipush (v := 31) dd_mo_count_5 (by decide) ?_
    refine aw_icmp_ge (tgt := 24) dd_mo_count_7 (by decide) (fun _ => ?_) (fun h9 => absurd (nI_le (a := 31) (b := 31) (by decide) (by decide)) h9)
    refine aw_iload_n dd_mo_count_24 rfl 1 rfl ?_
    exact aw_iret dd_mo_count_25 rfl ⟨rfl, rfl⟩
  | succ k ih =>
    intro r hr
    refine aw_iload_n dd_mo_count_4 rfl 0 rfl ?_
    refine aw_bipush (v := 31) dd_mo_count_5 (by decide) ?_
    refine aw_icmp_ge (tgt := 24) dd_mo_count_7 (by decide) (fun h9 => absurd h9 (nI_ge (a := r) (b := 31) (by omega) (by decide))) (fun _ => ?_)
    refine aw_iload_n dd_mo_count_10 rfl 1 rfl ?_
    refine aw_iload_n dd_mo_count_11 rfl 2 rfl ?_
    refine aw_iload_n dd_mo_count_12 rfl 0 rfl ?_
    refine aw_ishr dd_mo_count_13 ?_
    refine aw_iconst (v := 1) dd_mo_count_14 (by decide) ?_
    refine aw_iand dd_mo_count_15 ?_
    refine aw_top (nI_bit hs (by omega)) ?_
    refine aw_iadd dd_mo_count_16 ?_
    refine aw_top (y := nI (pk_f s (r + 1))) (by show _ = nI (_ + _); rw [← nI_add]; congr 1; cases s.testBit r <;> rfl) ?_
    refine aw_istore_n (lv' := [(1, _), (2, _), (0, _)]) dd_mo_count_17 rfl (by decide) rfl ?_
    refine aw_iinc (v := nI (r + 1)) (lv' := [(2, _), (1, _), (0, _)]) dd_mo_count_18 1 rfl (nI_1 _) (by decide) rfl ?_
    refine aw_goto (tgt := 4) dd_mo_count_21 (by decide) ?_
    exact ih (r + 1) (by omega)
theorem wc_mo_count (G : ag_T) (h : List va_E) {s : Nat} (hs : s < 2 ^ 31)  : aw_w G mm_mo_count 0 0 0 0 0 (lv_args 0 [.int (nI s)]) [] h (q_i (nI (pk_f s 31)) h) := by
  refine aw_iconst (v := 0) dd_mo_count_0 (by decide) ?_
  refine aw_istore_n (lv' := [(1, _), (0, _)]) dd_mo_count_1 rfl (by decide) rfl ?_
  refine aw_iconst (v := 0) dd_mo_count_2 (by decide) ?_
  refine aw_istore_n (lv' := [(2, _), (1, _), (0, _)]) dd_mo_count_3 rfl (by decide) rfl ?_
  exact wl_mo_count G h hs 31 0 rfl
theorem wl_mo_closed (G : ag_T) (κ : ck_T) (μ : cm_T) (o : Nat → Int64) (rest : List va_E) {n : Nat} {bel : Nat → Nat} (hB : rm_c μ n bel) {s : Nat} (hs : s < 64) : ∀ (k r : Nat), r + k = n → aw_w G mm_mo_closed 0 0 0 0 4 [(3, .int (nI r)), (2, .int (nI (pc_f bel s r))), (0, .ref (G.1 + 13)), (1, .int (nI s))] [] (hp_f G κ μ o rest) (q_i (nI (pc_f bel s n)) (hp_f G κ μ o rest)) := by
  obtain ⟨hB1, hB2, hB3, hB4⟩ := hB
  intro k
  induction k with
  | zero =>
    intro r hr
    have e : r = n := by omega
    subst e
    refine aw_iload_n dd_mo_closed_4 rfl 0 rfl ?_
    refine aw_aload_n dd_mo_closed_5 rfl 2 rfl ?_
    refine aw_getf _ 5 1 dd_mo_closed_6 fl_mo_69 rfl rfl ?_
    refine aw_icmp_ge (tgt := 40) dd_mo_closed_9 (by decide) (fun _ => ?_) (fun h9 => absurd (by rw [hB1]; exact nI_le (Nat.le_refl _) (by omega)) h9)
    refine aw_iload_n dd_mo_closed_40 rfl 1 rfl ?_
    exact aw_iret dd_mo_closed_41 rfl ⟨rfl, rfl⟩
  | succ k ih =>
    intro r hr
    refine aw_iload_n dd_mo_closed_4 rfl 0 rfl ?_
    refine aw_aload_n dd_mo_closed_5 rfl 2 rfl ?_
    refine aw_getf _ 5 1 dd_mo_closed_6 fl_mo_69 rfl rfl ?_
    refine aw_icmp_ge (tgt := 40) dd_mo_closed_9 (by decide) (fun h9 => absurd h9 (by rw [hB1]; exact nI_ge (by omega) (by omega))) (fun _ => ?_)
    refine aw_iload_n dd_mo_closed_12 rfl 3 rfl ?_
    refine aw_iload_n dd_mo_closed_13 rfl 0 rfl ?_
    refine aw_ishr dd_mo_closed_14 ?_
    refine aw_iconst (v := 1) dd_mo_closed_15 (by decide) ?_
    refine aw_iand dd_mo_closed_16 ?_
    refine aw_top (nI_bit (by omega) (by omega)) ?_
    refine aw_iconst (v := 1) dd_mo_closed_17 (by decide) ?_
    refine aw_icmp_ne (tgt := 32) dd_mo_closed_18 (by decide) (fun hb => ?_) (fun hb => ?_)
    · refine aw_iload_n dd_mo_closed_32 rfl 1 rfl ?_
      refine aw_istore_n (lv' := [(2, _), (3, _), (0, _), (1, _)]) dd_mo_closed_33 rfl (by decide) rfl ?_
      refine aw_iinc (v := nI (r + 1)) (lv' := [(3, _), (2, _), (0, _), (1, _)]) dd_mo_closed_34 1 rfl (nI_1 _) (by decide) rfl ?_
      refine aw_goto (tgt := 4) dd_mo_closed_37 (by decide) ?_
      have e9 := ih (r + 1) (by omega)
      simp only [zb_q1, Bool.not_eq_true] at hb
      simp only [pc_f, hb, if_true, if_false, Bool.false_eq_true] at e9
      exact e9
    · refine aw_iload_n dd_mo_closed_21 rfl 1 rfl ?_
      refine aw_aload_n dd_mo_closed_22 rfl 2 rfl ?_
      refine aw_getf _ 5 3 dd_mo_closed_23 fl_mo_7 rfl rfl ?_
      refine aw_iload_n dd_mo_closed_26 rfl 0 rfl ?_
      refine aw_iaN _ (r) dd_mo_closed_27 rfl (by omega) (by decide) ?_
      refine aw_top (hB3 r (by omega)) ?_
      refine aw_ior dd_mo_closed_28 ?_
      refine aw_top (nI_or _ _) ?_
      refine aw_goto (tgt := 33) dd_mo_closed_29 (by decide) ?_
      refine aw_istore_n (lv' := [(2, _), (3, _), (0, _), (1, _)]) dd_mo_closed_33 rfl (by decide) rfl ?_
      refine aw_iinc (v := nI (r + 1)) (lv' := [(3, _), (2, _), (0, _), (1, _)]) dd_mo_closed_34 1 rfl (nI_1 _) (by decide) rfl ?_
      refine aw_goto (tgt := 4) dd_mo_closed_37 (by decide) ?_
      have e9 := ih (r + 1) (by omega)
      simp only [zb_q1, Bool.not_eq_true] at hb
      simp only [pc_f, hb, if_true, if_false, Bool.false_eq_true] at e9
      exact e9
theorem wc_mo_closed (G : ag_T) (κ : ck_T) (μ : cm_T) (o : Nat → Int64) (rest : List va_E) {n : Nat} {bel : Nat → Nat} (hB : rm_c μ n bel) {s : Nat} (hs : s < 64) : aw_w G mm_mo_closed 0 0 0 0 0 (lv_args 0 [.ref (G.1 + 13), .int (nI s)]) [] (hp_f G κ μ o rest) (q_i (nI (pc_f bel s n)) (hp_f G κ μ o rest)) := by
  refine aw_iload_n dd_mo_closed_0 rfl 1 rfl ?_
  refine aw_istore_n (lv' := [(2, _), (0, _), (1, _)]) dd_mo_closed_1 rfl (by decide) rfl ?_
  refine aw_iconst (v := 0) dd_mo_closed_2 (by decide) ?_
  refine aw_istore_n (lv' := [(3, _), (2, _), (0, _), (1, _)]) dd_mo_closed_3 rfl (by decide) rfl ?_
  exact wl_mo_closed G κ μ o rest hB hs n 0 (Nat.zero_add n)
theorem wl_mo_staticKept (G : ag_T) (κ : ck_T) (μ : cm_T) (o : Nat → Int64) (rest : List va_E) {n : Nat} {bel : Nat → Nat} (hB : rm_c μ n bel) {s : Nat} (hs : s < 64) {sl : pl_T} (hL : rm_l μ 0 0 sl) : ∀ (k r : Nat), r + k = sl.length → aw_w G mm_mo_staticKept 1 23 0 0 11 [(4, .int (nI r)), (3, .int (zb_i (pk_l (sl.take r) (pc_f bel s n)))), (2, .int (nI (pc_f bel s n))), (0, .ref (G.1 + 13)), (1, .int (nI s))] [] (hp_f G κ μ o rest) (q_i (zb_i (pk_l sl (pc_f bel s n))) (hp_f G κ μ o rest)) := by
  obtain ⟨hL1, hL2, hL3⟩ := hL
  have hA := pc_64 hB.2.2.2 hs n
  intro k
  induction k with
  | zero =>
    intro r hr
    have e : r = sl.length := by omega
    subst e
    refine aw_iload dd_mo_staticKept_11 0 rfl ?_
    refine aw_aload_n dd_mo_staticKept_13 rfl 3 rfl ?_
    refine aw_getf _ 5 7 dd_mo_staticKept_14 fl_mo_22 rfl rfl ?_
    refine aw_iconst (v := 0) dd_mo_staticKept_17 (by decide) ?_
    refine aw_iaN _ (0) dd_mo_staticKept_18 rfl (by decide) (by decide) ?_
    refine aw_icmp_ge (tgt := 60) dd_mo_staticKept_19 (by decide) (fun _ => ?_) (fun h9 => absurd (by rw [hL1]; exact nI_le (Nat.le_refl _) (by omega)) h9)
    refine aw_iload_n dd_mo_staticKept_60 rfl 1 rfl ?_
    exact aw_zret dd_mo_staticKept_61 rfl (zb_01 _) ⟨by rw [List.take_length], rfl⟩
  | succ k ih =>
    intro r hr
    obtain ⟨l, hl⟩ := tk_g (ls := sl) (k := r) (by omega)
    obtain ⟨hl5, hl6, hl7⟩ := hL3 r l hl
    rw [Nat.zero_add] at hl5 hl6
    refine aw_iload dd_mo_staticKept_11 0 rfl ?_
    refine aw_aload_n dd_mo_staticKept_13 rfl 3 rfl ?_
    refine aw_getf _ 5 7 dd_mo_staticKept_14 fl_mo_22 rfl rfl ?_
    refine aw_iconst (v := 0) dd_mo_staticKept_17 (by decide) ?_
    refine aw_iaN _ (0) dd_mo_staticKept_18 rfl (by decide) (by decide) ?_
    refine aw_icmp_ge (tgt := 60) dd_mo_staticKept_19 (by decide) (fun h9 => absurd h9 (by rw [hL1]; exact nI_ge (by omega) (by omega))) (fun _ => ?_)
    refine aw_join (tgt := 53) (v := zb_i (pk_l (sl.take r) (pc_f bel s n) && pk_1 l (pc_f bel s n))) ?_ (fun kj22 => ?_)
    · refine aw_istore_n (lv' := [(3, _), (4, _), (2, _), (0, _), (1, _)]) dd_mo_staticKept_53 rfl (by decide) rfl ?_
      rw [← tk_k hl]
      refine aw_iinc (v := nI (r + 1)) (lv' := [(4, _), (3, _), (2, _), (0, _), (1, _)]) dd_mo_staticKept_54 1 rfl (nI_1 _) (by decide) rfl ?_
      refine aw_goto (tgt := 11) dd_mo_staticKept_57 (by decide) ?_
      exact ih (r + 1) (by omega)
    · refine aw_iload_n dd_mo_staticKept_22 rfl 1 rfl ?_
      refine aw_if_eq (tgt := 52) dd_mo_staticKept_23 (by decide) (fun h1 => ?_) (fun h1 => ?_)
      · refine aw_iconst (v := 0) dd_mo_staticKept_52 (by decide) ?_
        exact aw_top (by simp_all [zb_q0, zb_q1, zb_i, pk_1, Int32.not_le]) kj22
      · refine aw_iload_n dd_mo_staticKept_26 rfl 2 rfl ?_
        refine aw_aload_n dd_mo_staticKept_27 rfl 3 rfl ?_
        refine aw_getf _ 5 8 dd_mo_staticKept_28 fl_mo_25 rfl rfl ?_
        refine aw_iload dd_mo_staticKept_31 0 rfl ?_
        refine aw_iaN _ (r) dd_mo_staticKept_33 rfl (by omega) (by decide) ?_
        refine aw_top hl5 ?_
        refine aw_iand dd_mo_staticKept_34 ?_
        refine aw_top (nI_and _ _) ?_
        refine aw_cSi mm_mo_count 0 0 [_] _ (wc_mo_count G _ (Nat.lt_of_lt_of_le (bt_and (n := 6) hA) (by decide))) dd_mo_staticKept_35 cs_mo_79 my_mo_count np_mo_count rfl (by decide) rfl rfl (Nat.le_of_ble_eq_true rfl) (Nat.le_of_ble_eq_true rfl) ?_
        refine aw_aload_n dd_mo_staticKept_38 rfl 3 rfl ?_
        refine aw_getf _ 5 9 dd_mo_staticKept_39 fl_mo_28 rfl rfl ?_
        refine aw_iload dd_mo_staticKept_42 0 rfl ?_
        refine aw_iaN _ (r) dd_mo_staticKept_44 rfl (by omega) (by decide) ?_
        refine aw_top hl6 ?_
        refine aw_icmp_ge (tgt := 52) dd_mo_staticKept_45 (by decide) (fun h2 => ?_) (fun h2 => ?_)
        · refine aw_iconst (v := 0) dd_mo_staticKept_52 (by decide) ?_
          exact aw_top (by simp_all [zb_q0, zb_q1, zb_i, pk_1, Int32.not_le]) kj22
        · refine aw_iconst (v := 1) dd_mo_staticKept_48 (by decide) ?_
          refine aw_goto (tgt := 53) dd_mo_staticKept_49 (by decide) ?_
          exact aw_top (by simp_all [zb_q0, zb_q1, zb_i, pk_1, Int32.not_le]) kj22
theorem wc_mo_staticKept (G : ag_T) (κ : ck_T) (μ : cm_T) (o : Nat → Int64) (rest : List va_E) {n : Nat} {bel : Nat → Nat} (hB : rm_c μ n bel) {s : Nat} (hs : s < 64) {sl : pl_T} (hL : rm_l μ 0 0 sl) : aw_w G mm_mo_staticKept 1 23 0 0 0 (lv_args 0 [.ref (G.1 + 13), .int (nI s)]) [] (hp_f G κ μ o rest) (q_i (zb_i (pk_l sl (pc_f bel s n))) (hp_f G κ μ o rest)) := by
  refine aw_aload_n dd_mo_staticKept_0 rfl 0 rfl ?_
  refine aw_iload_n dd_mo_staticKept_1 rfl 1 rfl ?_
  refine aw_cVi mm_mo_closed 0 0 _ 5 [_] _ (wc_mo_closed G κ μ o rest hB hs) dd_mo_staticKept_2 cv_mo_75 my_mo_closed np_mo_closed rfl rfl rfl (by decide) rfl rfl (Nat.le_of_ble_eq_true rfl) (Nat.le_of_ble_eq_true rfl) ?_
  refine aw_istore_n (lv' := [(2, _), (0, _), (1, _)]) dd_mo_staticKept_5 rfl (by decide) rfl ?_
  refine aw_iconst (v := 1) dd_mo_staticKept_6 (by decide) ?_
  refine aw_istore_n (lv' := [(3, _), (2, _), (0, _), (1, _)]) dd_mo_staticKept_7 rfl (by decide) rfl ?_
  refine aw_iconst (v := 0) dd_mo_staticKept_8 (by decide) ?_
  refine aw_istore (lv' := [(4, _), (3, _), (2, _), (0, _), (1, _)]) dd_mo_staticKept_9 (by decide) rfl ?_
  exact wl_mo_staticKept G κ μ o rest hB hs hL sl.length 0 (Nat.zero_add _)
theorem wl_mo_allStaticKept (G : ag_T) (κ : ck_T) (μ : cm_T) (o : Nat → Int64) (rest : List va_E) {n : Nat} {bel : Nat → Nat} (hB : rm_c μ n bel) {sl : pl_T} (hL : rm_l μ 0 0 sl) {u : Nat} {asg : Nat → Nat} (hU : rm_u μ u asg) : ∀ (k r : Nat), r + k = u → aw_w G mm_mo_allStaticKept 2 47 0 0 4 [(2, .int (nI r)), (1, .int (zb_i (pa_k (fun v => pk_l sl (pc_f bel (asg v) n)) r))), (0, .ref (G.1 + 13))] [] (hp_f G κ μ o rest) (q_i (zb_i (pa_k (fun v => pk_l sl (pc_f bel (asg v) n)) u)) (hp_f G κ μ o rest)) := by
  obtain ⟨hU1, hU2, hU3, hU4⟩ := hU
  intro k
  induction k with
  | zero =>
    intro r hr
    have e : r = u := by omega
    subst e
    refine aw_iload_n dd_mo_allStaticKept_4 rfl 0 rfl ?_
    refine aw_aload_n dd_mo_allStaticKept_5 rfl 2 rfl ?_
    refine aw_getf _ 5 2 dd_mo_allStaticKept_6 fl_mo_72 rfl rfl ?_
    refine aw_icmp_ge (tgt := 41) dd_mo_allStaticKept_9 (by decide) (fun _ => ?_) (fun h9 => absurd (by rw [hU1]; exact nI_le (Nat.le_refl _) (by omega)) h9)
    refine aw_iload_n dd_mo_allStaticKept_41 rfl 1 rfl ?_
    exact aw_zret dd_mo_allStaticKept_42 rfl (zb_01 _) ⟨rfl, rfl⟩
  | succ k ih =>
    intro r hr
    refine aw_iload_n dd_mo_allStaticKept_4 rfl 0 rfl ?_
    refine aw_aload_n dd_mo_allStaticKept_5 rfl 2 rfl ?_
    refine aw_getf _ 5 2 dd_mo_allStaticKept_6 fl_mo_72 rfl rfl ?_
    refine aw_icmp_ge (tgt := 41) dd_mo_allStaticKept_9 (by decide) (fun h9 => absurd h9 (by rw [hU1]; exact nI_ge (by omega) (by omega))) (fun _ => ?_)
    refine aw_join (tgt := 34) (v := zb_i (pa_k (fun v => pk_l sl (pc_f bel (asg v) n)) (r + 1))) ?_ (fun kj12 => ?_)
    · refine aw_istore_n (lv' := [(1, _), (2, _), (0, _)]) dd_mo_allStaticKept_34 rfl (by decide) rfl ?_
      refine aw_iinc (v := nI (r + 1)) (lv' := [(2, _), (1, _), (0, _)]) dd_mo_allStaticKept_35 1 rfl (nI_1 _) (by decide) rfl ?_
      refine aw_goto (tgt := 4) dd_mo_allStaticKept_38 (by decide) ?_
      exact ih (r + 1) (by omega)
    · refine aw_iload_n dd_mo_allStaticKept_12 rfl 1 rfl ?_
      refine aw_if_eq (tgt := 33) dd_mo_allStaticKept_13 (by decide) (fun h1 => ?_) (fun h1 => ?_)
      · refine aw_iconst (v := 0) dd_mo_allStaticKept_33 (by decide) ?_
        exact aw_top (by simp_all [zb_q0, zb_q1, zb_i, pa_k]) kj12
      · refine aw_aload_n dd_mo_allStaticKept_16 rfl 2 rfl ?_
        refine aw_aload_n dd_mo_allStaticKept_17 rfl 2 rfl ?_
        refine aw_getf _ 5 6 dd_mo_allStaticKept_18 fl_mo_19 rfl rfl ?_
        refine aw_iload_n dd_mo_allStaticKept_21 rfl 0 rfl ?_
        refine aw_iaN _ (r) dd_mo_allStaticKept_22 rfl (by omega) (by decide) ?_
        refine aw_top (hU3 r (by omega)) ?_
        refine aw_cVi mm_mo_staticKept 0 0 _ 5 [_] _ (wc_mo_staticKept G κ μ o rest hB (hU4 r) hL) dd_mo_allStaticKept_23 cv_mo_82 my_mo_staticKept np_mo_staticKept rfl rfl rfl (by decide) rfl rfl (Nat.le_of_ble_eq_true rfl) (Nat.le_of_ble_eq_true rfl) ?_
        refine aw_if_eq (tgt := 33) dd_mo_allStaticKept_26 (by decide) (fun h2 => ?_) (fun h2 => ?_)
        · refine aw_iconst (v := 0) dd_mo_allStaticKept_33 (by decide) ?_
          exact aw_top (by simp_all [zb_q0, zb_q1, zb_i, pa_k]) kj12
        · refine aw_iconst (v := 1) dd_mo_allStaticKept_29 (by decide) ?_
          refine aw_goto (tgt := 34) dd_mo_allStaticKept_30 (by decide) ?_
          exact aw_top (by simp_all [zb_q0, zb_q1, zb_i, pa_k]) kj12
theorem wc_mo_allStaticKept (G : ag_T) (κ : ck_T) (μ : cm_T) (o : Nat → Int64) (rest : List va_E) {n : Nat} {bel : Nat → Nat} (hB : rm_c μ n bel) {sl : pl_T} (hL : rm_l μ 0 0 sl) {u : Nat} {asg : Nat → Nat} (hU : rm_u μ u asg) : aw_w G mm_mo_allStaticKept 2 47 0 0 0 (lv_args 0 [.ref (G.1 + 13)]) [] (hp_f G κ μ o rest) (q_i (zb_i (pa_k (fun v => pk_l sl (pc_f bel (asg v) n)) u)) (hp_f G κ μ o rest)) := by
  refine aw_iconst (v := 1) dd_mo_allStaticKept_0 (by decide) ?_
  refine aw_istore_n (lv' := [(1, _), (0, _)]) dd_mo_allStaticKept_1 rfl (by decide) rfl ?_
  refine aw_iconst (v := 0) dd_mo_allStaticKept_2 (by decide) ?_
  refine aw_istore_n (lv' := [(2, _), (1, _), (0, _)]) dd_mo_allStaticKept_3 rfl (by decide) rfl ?_
  exact wl_mo_allStaticKept G κ μ o rest hB hL hU u 0 (Nat.zero_add _)
theorem wl_mo_dynamicKept (G : ag_T) (κ : ck_T) (μ : cm_T) (o : Nat → Int64) (rest : List va_E) {dl : pl_T} (hL : rm_l μ 1 4 dl) {s : Nat} (hs : s < 64) : ∀ (k r : Nat), r + k = dl.length → aw_w G mm_mo_dynamicKept 1 22 0 0 4 [(3, .int (nI (4 + r))), (2, .int (zb_i (pk_l (dl.take r) s))), (0, .ref (G.1 + 13)), (1, .int (nI s))] [] (hp_f G κ μ o rest) (q_i (zb_i (pk_l dl s)) (hp_f G κ μ o rest)) := by
  obtain ⟨hL1, hL2, hL3⟩ := hL
  intro k
  induction k with
  | zero =>
    intro r hr
    have e : r = dl.length := by omega
    subst e
    refine aw_iload_n dd_mo_dynamicKept_4 rfl 0 rfl ?_
    refine aw_iconst (v := (nI 4)) dd_mo_dynamicKept_5 (by decide) ?_
    refine aw_aload_n dd_mo_dynamicKept_6 rfl 2 rfl ?_
    refine aw_getf _ 5 7 dd_mo_dynamicKept_7 fl_mo_22 rfl rfl ?_
    refine aw_iconst (v := (nI 1)) dd_mo_dynamicKept_10 (by decide) ?_
    refine aw_iaN _ (1) dd_mo_dynamicKept_11 rfl (by decide) (by decide) ?_
    refine aw_top hL1 ?_
    refine aw_iadd dd_mo_dynamicKept_12 ?_
    refine aw_top (nI_add _ _) ?_
    refine aw_icmp_ge (tgt := 52) dd_mo_dynamicKept_13 (by decide) (fun _ => ?_) (fun h9 => absurd (nI_le (Nat.le_refl _) (by omega)) h9)
    refine aw_iload_n dd_mo_dynamicKept_52 rfl 1 rfl ?_
    exact aw_zret dd_mo_dynamicKept_53 rfl (zb_01 _) ⟨by rw [List.take_length], rfl⟩
  | succ k ih =>
    intro r hr
    obtain ⟨l, hl⟩ := tk_g (ls := dl) (k := r) (by omega)
    obtain ⟨hl5, hl6, hl7⟩ := hL3 r l hl
    refine aw_iload_n dd_mo_dynamicKept_4 rfl 0 rfl ?_
    refine aw_iconst (v := (nI 4)) dd_mo_dynamicKept_5 (by decide) ?_
    refine aw_aload_n dd_mo_dynamicKept_6 rfl 2 rfl ?_
    refine aw_getf _ 5 7 dd_mo_dynamicKept_7 fl_mo_22 rfl rfl ?_
    refine aw_iconst (v := (nI 1)) dd_mo_dynamicKept_10 (by decide) ?_
    refine aw_iaN _ (1) dd_mo_dynamicKept_11 rfl (by decide) (by decide) ?_
    refine aw_top hL1 ?_
    refine aw_iadd dd_mo_dynamicKept_12 ?_
    refine aw_top (nI_add _ _) ?_
    refine aw_icmp_ge (tgt := 52) dd_mo_dynamicKept_13 (by decide) (fun h9 => absurd h9 (nI_ge (by omega) (by omega))) (fun _ => ?_)
    refine aw_join (tgt := 45) (v := zb_i (pk_l (dl.take r) s && pk_1 l s)) ?_ (fun kj16 => ?_)
    · refine aw_istore_n (lv' := [(2, _), (3, _), (0, _), (1, _)]) dd_mo_dynamicKept_45 rfl (by decide) rfl ?_
      rw [← tk_k hl]
      refine aw_iinc (v := nI (4 + (r + 1))) (lv' := [(3, _), (2, _), (0, _), (1, _)]) dd_mo_dynamicKept_46 1 rfl (nI_1 _) (by decide) rfl ?_
      refine aw_goto (tgt := 4) dd_mo_dynamicKept_49 (by decide) ?_
      exact ih (r + 1) (by omega)
    · refine aw_iload_n dd_mo_dynamicKept_16 rfl 1 rfl ?_
      refine aw_if_eq (tgt := 44) dd_mo_dynamicKept_17 (by decide) (fun h1 => ?_) (fun h1 => ?_)
      · refine aw_iconst (v := 0) dd_mo_dynamicKept_44 (by decide) ?_
        exact aw_top (by simp_all [zb_q0, zb_q1, zb_i, pk_1, Int32.not_le]) kj16
      · refine aw_iload_n dd_mo_dynamicKept_20 rfl 3 rfl ?_
        refine aw_aload_n dd_mo_dynamicKept_21 rfl 2 rfl ?_
        refine aw_getf _ 5 8 dd_mo_dynamicKept_22 fl_mo_25 rfl rfl ?_
        refine aw_iload_n dd_mo_dynamicKept_25 rfl 0 rfl ?_
        refine aw_iaN _ (4 + r) dd_mo_dynamicKept_26 rfl (by omega) (by decide) ?_
        refine aw_top hl5 ?_
        refine aw_iand dd_mo_dynamicKept_27 ?_
        refine aw_top (nI_and _ _) ?_
        refine aw_cSi mm_mo_count 0 0 [_] _ (wc_mo_count G _ (Nat.lt_of_lt_of_le (bt_and (n := 6) hs) (by decide))) dd_mo_dynamicKept_28 cs_mo_79 my_mo_count np_mo_count rfl (by decide) rfl rfl (Nat.le_of_ble_eq_true rfl) (Nat.le_of_ble_eq_true rfl) ?_
        refine aw_aload_n dd_mo_dynamicKept_31 rfl 2 rfl ?_
        refine aw_getf _ 5 9 dd_mo_dynamicKept_32 fl_mo_28 rfl rfl ?_
        refine aw_iload_n dd_mo_dynamicKept_35 rfl 0 rfl ?_
        refine aw_iaN _ (4 + r) dd_mo_dynamicKept_36 rfl (by omega) (by decide) ?_
        refine aw_top hl6 ?_
        refine aw_icmp_ge (tgt := 44) dd_mo_dynamicKept_37 (by decide) (fun h2 => ?_) (fun h2 => ?_)
        · refine aw_iconst (v := 0) dd_mo_dynamicKept_44 (by decide) ?_
          exact aw_top (by simp_all [zb_q0, zb_q1, zb_i, pk_1, Int32.not_le]) kj16
        · refine aw_iconst (v := 1) dd_mo_dynamicKept_40 (by decide) ?_
          refine aw_goto (tgt := 45) dd_mo_dynamicKept_41 (by decide) ?_
          exact aw_top (by simp_all [zb_q0, zb_q1, zb_i, pk_1, Int32.not_le]) kj16
theorem wc_mo_dynamicKept (G : ag_T) (κ : ck_T) (μ : cm_T) (o : Nat → Int64) (rest : List va_E) {dl : pl_T} (hL : rm_l μ 1 4 dl) {s : Nat} (hs : s < 64) : aw_w G mm_mo_dynamicKept 1 22 0 0 0 (lv_args 0 [.ref (G.1 + 13), .int (nI s)]) [] (hp_f G κ μ o rest) (q_i (zb_i (pk_l dl s)) (hp_f G κ μ o rest)) := by
  refine aw_iconst (v := 1) dd_mo_dynamicKept_0 (by decide) ?_
  refine aw_istore_n (lv' := [(2, _), (0, _), (1, _)]) dd_mo_dynamicKept_1 rfl (by decide) rfl ?_
  refine aw_iconst (v := 4) dd_mo_dynamicKept_2 (by decide) ?_
  refine aw_istore_n (lv' := [(3, _), (2, _), (0, _), (1, _)]) dd_mo_dynamicKept_3 rfl (by decide) rfl ?_
  exact wl_mo_dynamicKept G κ μ o rest hL hs dl.length 0 (Nat.zero_add _)
theorem wl_mo_lets (G : ag_T) (κ : ck_T) (μ : cm_T) (o : Nat → Int64) (rest : List va_E) {rs : pr_T} (hR : rm_r μ rs) (g : Bool) {a b c : Nat} (ha : a < 64) (hb : b < 64) (hc : c < 6) : ∀ (k r : Nat), r + k = rs.length → aw_w G mm_mo_lets 0 0 0 0 6 [(6, .int (nI r)), (5, .int (zb_i (pr_l (rs.take r) g a b c))), (0, .ref (G.1 + 13)), (1, .int (zb_i g)), (2, .int (nI a)), (3, .int (nI b)), (4, .int (nI c))] [] (hp_f G κ μ o rest) (q_i (zb_i (pr_l rs g a b c)) (hp_f G κ μ o rest)) := by
  obtain ⟨hR1, hR2, hR3⟩ := hR
  intro k
  induction k with
  | zero =>
    intro r hr
    have e : r = rs.length := by omega
    subst e
    refine aw_iload dd_mo_lets_6 0 rfl ?_
    refine aw_aload_n dd_mo_lets_8 rfl 2 rfl ?_
    refine aw_getf _ 5 13 dd_mo_lets_9 fl_mo_100 rfl rfl ?_
    refine aw_icmp_ge (tgt := 114) dd_mo_lets_12 (by decide) (fun _ => ?_) (fun h9 => absurd (by rw [hR1]; exact nI_le (Nat.le_refl _) (by omega)) h9)
    refine aw_iload dd_mo_lets_114 1 rfl ?_
    exact aw_zret dd_mo_lets_116 rfl (zb_01 _) ⟨by rw [List.take_length], rfl⟩
  | succ k ih =>
    intro r hr
    obtain ⟨x, hl⟩ := tk_g (ls := rs) (k := r) (by omega)
    obtain ⟨l1, l2, l3, l4, l5, l6, l7, l8, l9⟩ := hR3 r x hl
    refine aw_iload dd_mo_lets_6 0 rfl ?_
    refine aw_aload_n dd_mo_lets_8 rfl 2 rfl ?_
    refine aw_getf _ 5 13 dd_mo_lets_9 fl_mo_100 rfl rfl ?_
    refine aw_icmp_ge (tgt := 114) dd_mo_lets_12 (by decide) (fun h9 => absurd h9 (by rw [hR1]; exact nI_ge (by omega) (by omega))) (fun _ => ?_)
    refine aw_join (tgt := 58) (v := zb_i (decide (x.1 = g) && (decide (x.2.2.2.2 = c) && a.testBit x.2.1))) ?_ (fun kj15 => ?_)
    · refine aw_istore (lv' := [(7, _), (6, _), (5, _), (0, _), (1, _), (2, _), (3, _), (4, _)]) dd_mo_lets_58 (by decide) rfl ?_
      refine aw_join (tgt := 106) (v := zb_i (pr_l (rs.take r) g a b c || pr_1 x g a b c)) ?_ (fun kj60 => ?_)
      · refine aw_istore (lv' := [(5, _), (7, _), (6, _), (0, _), (1, _), (2, _), (3, _), (4, _)]) dd_mo_lets_106 (by decide) rfl ?_
        rw [← tk_r hl]
        refine aw_iinc (v := nI (r + 1)) (lv' := [(6, _), (5, _), (7, _), (0, _), (1, _), (2, _), (3, _), (4, _)]) dd_mo_lets_108 2 rfl (nI_1 _) (by decide) rfl ?_
        refine aw_goto (tgt := 6) dd_mo_lets_111 (by decide) ?_
        exact aw_lv [0, 1, 3, 4, 5, 6, 7] rfl (ih (r + 1) (by omega))
      · refine aw_iload dd_mo_lets_60 2 rfl ?_
        refine aw_if_ne (tgt := 101) dd_mo_lets_62 (by decide) (fun h4 => ?_) (fun h4 => ?_)
        · refine aw_iconst (v := 1) dd_mo_lets_101 (by decide) ?_
          refine aw_goto (tgt := 106) dd_mo_lets_102 (by decide) ?_
          exact aw_top (by have e1 := nI_eq (a := b &&& x.2.2.1) (b := x.2.2.1) (Nat.lt_of_lt_of_le (bt_and (n := 6) hb) (by decide)) (by omega); have e2 := nI_eq (a := b &&& x.2.2.2.1) (b := 0) (Nat.lt_of_lt_of_le (bt_and (n := 6) hb) (by decide)) (by omega); rw [nI_0] at e2; simp only [zb_q0, zb_q1, e1, e2, Bool.not_eq_false, Bool.not_eq_true] at *; simp_all [pr_1, zb_i]) kj60
        · refine aw_iload dd_mo_lets_65 0 rfl ?_
          refine aw_if_eq (tgt := 105) dd_mo_lets_67 (by decide) (fun h5 => ?_) (fun h5 => ?_)
          · refine aw_iconst (v := 0) dd_mo_lets_105 (by decide) ?_
            exact aw_top (by have e1 := nI_eq (a := b &&& x.2.2.1) (b := x.2.2.1) (Nat.lt_of_lt_of_le (bt_and (n := 6) hb) (by decide)) (by omega); have e2 := nI_eq (a := b &&& x.2.2.2.1) (b := 0) (Nat.lt_of_lt_of_le (bt_and (n := 6) hb) (by decide)) (by omega); rw [nI_0] at e2; simp only [zb_q0, zb_q1, e1, e2, Bool.not_eq_false, Bool.not_eq_true] at *; simp_all [pr_1, zb_i]) kj60
          · refine aw_iload_n dd_mo_lets_70 rfl 6 rfl ?_
            refine aw_aload_n dd_mo_lets_71 rfl 3 rfl ?_
            refine aw_getf _ 5 16 dd_mo_lets_72 fl_mo_47 rfl rfl ?_
            refine aw_iload dd_mo_lets_75 1 rfl ?_
            refine aw_iaN _ (r) dd_mo_lets_77 rfl (by omega) (by decide) ?_
            refine aw_top l3 ?_
            refine aw_iand dd_mo_lets_78 ?_
            refine aw_top (nI_and _ _) ?_
            refine aw_aload_n dd_mo_lets_79 rfl 3 rfl ?_
            refine aw_getf _ 5 16 dd_mo_lets_80 fl_mo_47 rfl rfl ?_
            refine aw_iload dd_mo_lets_83 1 rfl ?_
            refine aw_iaN _ (r) dd_mo_lets_85 rfl (by omega) (by decide) ?_
            refine aw_top l3 ?_
            refine aw_icmp_ne (tgt := 105) dd_mo_lets_86 (by decide) (fun h6 => ?_) (fun h6 => ?_)
            · refine aw_iconst (v := 0) dd_mo_lets_105 (by decide) ?_
              exact aw_top (by have e1 := nI_eq (a := b &&& x.2.2.1) (b := x.2.2.1) (Nat.lt_of_lt_of_le (bt_and (n := 6) hb) (by decide)) (by omega); have e2 := nI_eq (a := b &&& x.2.2.2.1) (b := 0) (Nat.lt_of_lt_of_le (bt_and (n := 6) hb) (by decide)) (by omega); rw [nI_0] at e2; simp only [zb_q0, zb_q1, e1, e2, Bool.not_eq_false, Bool.not_eq_true] at *; simp_all [pr_1, zb_i]) kj60
            · refine aw_iload_n dd_mo_lets_89 rfl 6 rfl ?_
              refine aw_aload_n dd_mo_lets_90 rfl 3 rfl ?_
              refine aw_getf _ 5 17 dd_mo_lets_91 fl_mo_50 rfl rfl ?_
              refine aw_iload dd_mo_lets_94 1 rfl ?_
              refine aw_iaN _ (r) dd_mo_lets_96 rfl (by omega) (by decide) ?_
              refine aw_top l4 ?_
              refine aw_iand dd_mo_lets_97 ?_
              refine aw_top (nI_and _ _) ?_
              refine aw_if_ne (tgt := 105) dd_mo_lets_98 (by decide) (fun h7 => ?_) (fun h7 => ?_)
              · refine aw_iconst (v := 0) dd_mo_lets_105 (by decide) ?_
                exact aw_top (by have e1 := nI_eq (a := b &&& x.2.2.1) (b := x.2.2.1) (Nat.lt_of_lt_of_le (bt_and (n := 6) hb) (by decide)) (by omega); have e2 := nI_eq (a := b &&& x.2.2.2.1) (b := 0) (Nat.lt_of_lt_of_le (bt_and (n := 6) hb) (by decide)) (by omega); rw [nI_0] at e2; simp only [zb_q0, zb_q1, e1, e2, Bool.not_eq_false, Bool.not_eq_true] at *; simp_all [pr_1, zb_i]) kj60
              · refine aw_iconst (v := 1) dd_mo_lets_101 (by decide) ?_
                refine aw_goto (tgt := 106) dd_mo_lets_102 (by decide) ?_
                exact aw_top (by have e1 := nI_eq (a := b &&& x.2.2.1) (b := x.2.2.1) (Nat.lt_of_lt_of_le (bt_and (n := 6) hb) (by decide)) (by omega); have e2 := nI_eq (a := b &&& x.2.2.2.1) (b := 0) (Nat.lt_of_lt_of_le (bt_and (n := 6) hb) (by decide)) (by omega); rw [nI_0] at e2; simp only [zb_q0, zb_q1, e1, e2, Bool.not_eq_false, Bool.not_eq_true] at *; simp_all [pr_1, zb_i]) kj60
    · refine aw_aload_n dd_mo_lets_15 rfl 2 rfl ?_
      refine aw_getf _ 5 14 dd_mo_lets_16 fl_mo_41 rfl rfl ?_
      refine aw_iload dd_mo_lets_19 0 rfl ?_
      refine aw_zaN _ (r) dd_mo_lets_21 rfl (by omega) (by decide) ?_
      refine aw_top l1 ?_
      refine aw_iload_n dd_mo_lets_22 rfl 3 rfl ?_
      refine aw_icmp_ne (tgt := 57) dd_mo_lets_23 (by decide) (fun h1 => ?_) (fun h1 => ?_)
      · refine aw_iconst (v := 0) dd_mo_lets_57 (by decide) ?_
        exact aw_top (by have e1 := nI_eq (a := x.2.2.2.2) (b := c) (by omega) (by omega); simp only [zb_inj, zb_q1, e1] at *; simp_all [zb_i]) kj15
      · refine aw_aload_n dd_mo_lets_26 rfl 2 rfl ?_
        refine aw_getf _ 5 18 dd_mo_lets_27 fl_mo_53 rfl rfl ?_
        refine aw_iload dd_mo_lets_30 0 rfl ?_
        refine aw_iaN _ (r) dd_mo_lets_32 rfl (by omega) (by decide) ?_
        refine aw_top l5 ?_
        refine aw_iload dd_mo_lets_33 6 rfl ?_
        refine aw_icmp_ne (tgt := 57) dd_mo_lets_35 (by decide) (fun h2 => ?_) (fun h2 => ?_)
        · refine aw_iconst (v := 0) dd_mo_lets_57 (by decide) ?_
          exact aw_top (by have e1 := nI_eq (a := x.2.2.2.2) (b := c) (by omega) (by omega); simp only [zb_inj, zb_q1, e1] at *; simp_all [zb_i]) kj15
        · refine aw_iload_n dd_mo_lets_38 rfl 4 rfl ?_
          refine aw_aload_n dd_mo_lets_39 rfl 2 rfl ?_
          refine aw_getf _ 5 15 dd_mo_lets_40 fl_mo_44 rfl rfl ?_
          refine aw_iload dd_mo_lets_43 0 rfl ?_
          refine aw_iaN _ (r) dd_mo_lets_45 rfl (by omega) (by decide) ?_
          refine aw_top l2 ?_
          refine aw_ishr dd_mo_lets_46 ?_
          refine aw_iconst (v := 1) dd_mo_lets_47 (by decide) ?_
          refine aw_iand dd_mo_lets_48 ?_
          refine aw_top (nI_bit (by omega) (by omega)) ?_
          refine aw_iconst (v := 1) dd_mo_lets_49 (by decide) ?_
          refine aw_icmp_ne (tgt := 57) dd_mo_lets_50 (by decide) (fun h3 => ?_) (fun h3 => ?_)
          · refine aw_iconst (v := 0) dd_mo_lets_57 (by decide) ?_
            exact aw_top (by have e1 := nI_eq (a := x.2.2.2.2) (b := c) (by omega) (by omega); simp only [zb_inj, zb_q1, e1] at *; simp_all [zb_i]) kj15
          · refine aw_iconst (v := 1) dd_mo_lets_53 (by decide) ?_
            refine aw_goto (tgt := 58) dd_mo_lets_54 (by decide) ?_
            exact aw_top (by have e1 := nI_eq (a := x.2.2.2.2) (b := c) (by omega) (by omega); simp only [zb_inj, zb_q1, e1] at *; simp_all [zb_i]) kj15
theorem wc_mo_lets (G : ag_T) (κ : ck_T) (μ : cm_T) (o : Nat → Int64) (rest : List va_E) {rs : pr_T} (hR : rm_r μ rs) (g : Bool) {a b c : Nat} (ha : a < 64) (hb : b < 64) (hc : c < 6) : aw_w G mm_mo_lets 0 0 0 0 0 (lv_args 0 [.ref (G.1 + 13), .int (zb_i g), .int (nI a), .int (nI b), .int (nI c)]) [] (hp_f G κ μ o rest) (q_i (zb_i (pr_l rs g a b c)) (hp_f G κ μ o rest)) := by
  refine aw_iconst (v := 0) dd_mo_lets_0 (by decide) ?_
  refine aw_istore (lv' := [(5, _), (0, _), (1, _), (2, _), (3, _), (4, _)]) dd_mo_lets_1 (by decide) rfl ?_
  refine aw_iconst (v := 0) dd_mo_lets_3 (by decide) ?_
  refine aw_istore (lv' := [(6, _), (5, _), (0, _), (1, _), (2, _), (3, _), (4, _)]) dd_mo_lets_4 (by decide) rfl ?_
  exact wl_mo_lets G κ μ o rest hR g ha hb hc rs.length 0 (Nat.zero_add _)
theorem wc_mo_rolesIn (G : ag_T) (κ : ck_T) (μ : cm_T) (o : Nat → Int64) (rest : List va_E) {n : Nat} (hn : μ.1 1 = nI n) (hn6 : n ≤ 6) {s v : Nat} (hs : s < 2 ^ 31) (hv : v * n < 32) : aw_w G mm_mo_rolesIn 0 0 0 0 0 (lv_args 0 [.ref (G.1 + 13), .int (nI s), .int (nI v)]) [] (hp_f G κ μ o rest) (q_i (nI (pi_r n s v)) (hp_f G κ μ o rest)) := by
  refine aw_iload_n dd_mo_rolesIn_0 rfl 1 rfl ?_
  refine aw_iload_n dd_mo_rolesIn_1 rfl 2 rfl ?_
  refine aw_aload_n dd_mo_rolesIn_2 rfl 0 rfl ?_
  refine aw_getf _ 5 1 dd_mo_rolesIn_3 fl_mo_69 rfl rfl ?_
  refine aw_top hn ?_
  refine aw_imul dd_mo_rolesIn_6 ?_
  refine aw_top (nI_mul _ _) ?_
  refine aw_ishr dd_mo_rolesIn_7 ?_
  refine aw_top (nI_shr hs hv) ?_
  refine aw_iconst (v := (nI 1)) dd_mo_rolesIn_8 (by decide) ?_
  refine aw_aload_n dd_mo_rolesIn_9 rfl 0 rfl ?_
  refine aw_getf _ 5 1 dd_mo_rolesIn_10 fl_mo_69 rfl rfl ?_
  refine aw_top hn ?_
  refine aw_ishl dd_mo_rolesIn_13 ?_
  refine aw_top (nI_shl _ (by omega)) ?_
  refine aw_iconst (v := (nI 1)) dd_mo_rolesIn_14 (by decide) ?_
  refine aw_isub dd_mo_rolesIn_15 ?_
  refine aw_top (nI_sub (by rw [Nat.one_shiftLeft]; exact Nat.two_pow_pos n)) ?_
  refine aw_iand dd_mo_rolesIn_16 ?_
  refine aw_top (nI_and _ _) ?_
  rw [Nat.one_shiftLeft]
  exact aw_iret dd_mo_rolesIn_17 rfl ⟨rfl, rfl⟩
theorem wc_mo_has (G : ag_T) (κ : ck_T) (μ : cm_T) (o : Nat → Int64) (rest : List va_E) {n : Nat} {bel : Nat → Nat} (hB : rm_c μ n bel) {s v r : Nat} (hs : s < 2 ^ 31) (hv : v * n < 32) (hr : r < 32) : aw_w G mm_mo_has 1 23 0 0 0 (lv_args 0 [.ref (G.1 + 13), .int (nI s), .int (nI v), .int (nI r)]) [] (hp_f G κ μ o rest) (q_i (zb_i ((pc_f bel (pi_r n s v) n).testBit r)) (hp_f G κ μ o rest)) := by
  refine aw_aload_n dd_mo_has_0 rfl 0 rfl ?_
  refine aw_aload_n dd_mo_has_1 rfl 0 rfl ?_
  refine aw_iload_n dd_mo_has_2 rfl 1 rfl ?_
  refine aw_iload_n dd_mo_has_3 rfl 2 rfl ?_
  refine aw_cVi mm_mo_rolesIn 0 0 _ 5 [_, _] _ (wc_mo_rolesIn G κ μ o rest hB.1 hB.2.1 hs hv) dd_mo_has_4 cv_mo_131 my_mo_rolesIn np_mo_rolesIn rfl rfl rfl (by decide) rfl rfl (Nat.le_of_ble_eq_true rfl) (Nat.le_of_ble_eq_true rfl) ?_
  refine aw_cVi mm_mo_closed 0 0 _ 5 [_] _ (wc_mo_closed G κ μ o rest hB (pi_lt n s v hB.2.1)) dd_mo_has_7 cv_mo_75 my_mo_closed np_mo_closed rfl rfl rfl (by decide) rfl rfl (Nat.le_of_ble_eq_true rfl) (Nat.le_of_ble_eq_true rfl) ?_
  refine aw_iload_n dd_mo_has_10 rfl 3 rfl ?_
  refine aw_ishr dd_mo_has_11 ?_
  refine aw_iconst (v := 1) dd_mo_has_12 (by decide) ?_
  refine aw_iand dd_mo_has_13 ?_
  refine aw_top (nI_bit (by have := pc_64 hB.2.2.2 (pi_lt n s v hB.2.1) n; omega) hr) ?_
  refine aw_iconst (v := 1) dd_mo_has_14 (by decide) ?_
  refine aw_icmp_ne (tgt := 22) dd_mo_has_15 (by decide) (fun h1 => ?_) (fun h1 => ?_)
  · refine aw_iconst (v := 0) dd_mo_has_22 (by decide) ?_
    exact aw_zret dd_mo_has_23 rfl (by first | exact Or.inl rfl | exact Or.inr rfl) ⟨by simp_all [zb_q1, zb_i], rfl⟩
  · refine aw_iconst (v := 1) dd_mo_has_18 (by decide) ?_
    refine aw_goto (tgt := 23) dd_mo_has_19 (by decide) ?_
    exact aw_zret dd_mo_has_23 rfl (by first | exact Or.inl rfl | exact Or.inr rfl) ⟨by simp_all [zb_q1, zb_i], rfl⟩
