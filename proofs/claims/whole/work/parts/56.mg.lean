/-! ===== the reference: the search ===== -/
def ms_f (μ : cm_T) (q nr : Int32) (f g : Nat → Int32) : cm_T := (va_up (va_up μ.1 4 q) 5 nr, va_up (va_up μ.2 15 f) 17 g)
theorem ms_15 (μ : cm_T) (q nr : Int32) (f g : Nat → Int32) (t : Nat) (v : Int32) : km_a (ms_f μ q nr f g) 15 t v = ms_f μ q nr (upd f t v) g := by
  unfold km_a ms_f
  congr 1
  funext i
  unfold va_up
  by_cases h : i = 15
  · subst h; simp
  · simp [h]
theorem ms_17 (μ : cm_T) (q nr : Int32) (f g : Nat → Int32) (t : Nat) (v : Int32) : km_a (ms_f μ q nr f g) 17 t v = ms_f μ q nr f (upd g t v) := by
  unfold km_a ms_f
  congr 1
  funext i
  unfold va_up
  by_cases h : i = 17
  · subst h; simp
  · simp [h]
theorem ms_4 (μ : cm_T) (q nr : Int32) (f g : Nat → Int32) (v : Int32) : km_s (ms_f μ q nr f g) 4 v = ms_f μ v nr f g := by
  unfold km_s ms_f
  congr 1
  funext i
  unfold va_up
  by_cases h : i = 4
  · subst h; simp
  · simp [h]
theorem ms_5 (μ : cm_T) (q nr : Int32) (f g : Nat → Int32) (v : Int32) : km_s (ms_f μ q nr f g) 5 v = ms_f μ q v f g := by
  unfold km_s ms_f
  congr 1
  funext i
  unfold va_up
  by_cases h : i = 5
  · subst h; simp
  · simp [h]
theorem ms_0 (μ : cm_T) : ms_f μ (μ.1 4) (μ.1 5) (μ.2 15) (μ.2 17) = μ := by
  unfold ms_f
  refine Prod.ext (funext fun i => ?_) (funext fun i => ?_)
  · unfold va_up
    by_cases h : i = 5
    · subst h; simp
    · by_cases h2 : i = 4
      · subst h2; simp
      · simp [h, h2]
  · unfold va_up
    by_cases h : i = 17
    · subst h; simp
    · by_cases h2 : i = 15
      · subst h2; simp
      · simp [h, h2]
/-- the reference's queue and distances stand for what was found -/
def bs_R (F : List bf_E) (q : Int32) (f g : Nat → Int32) : Prop := q = nI F.length ∧ (∀ (i : Nat) (x : bf_E), F[i]? = some x → g i = nI x.1 ∧ f x.1 = nI x.2.2.2 ∧ x.2.2.2 < 2 ^ 31) ∧ ∀ s, s < 4096 → ¬ F.any (fun x => decide (x.1 = s)) = true → f s = -1
theorem bs_a {F : List bf_E} {q : Int32} {f g : Nat → Int32} {t p m d : Nat} (h : bs_R F q f g) (hn : ¬ F.any (fun x => decide (x.1 = t)) = true) (hd : d + 1 < 2 ^ 31) : bs_R (F ++ [(t, p, m, d + 1)]) (nI (F.length + 1)) (upd f t (nI (d + 1))) (upd g F.length (nI t)) := by
  obtain ⟨h1, h2, h3⟩ := h
  refine ⟨by rw [List.length_append]; rfl, fun i x hx => ?_, fun s hs ha => ?_⟩
  · rcases ga_c1 hx with ⟨hi, hx⟩ | ⟨rfl, rfl⟩
    · obtain ⟨g1, g2, g3⟩ := h2 i x hx
      unfold upd
      rw [if_neg (by omega), if_neg (bf_new hn hx)]
      exact ⟨g1, g2, g3⟩
    · unfold upd
      rw [if_pos rfl, if_pos rfl]
      exact ⟨rfl, rfl, hd⟩
  · rw [List.any_append] at ha
    simp only [Bool.or_eq_true, not_or] at ha
    unfold upd
    have h4 : ¬ s = t := fun e => ha.2 (by simp [e])
    rw [if_neg h4]
    exact h3 s hs ha.1
theorem dp_lt {st : Nat → Nat → Option Nat} {M N s0 k m : Nat} {F : List bf_E} (hI : bf_I st M N s0 k m F) : ∀ (i : Nat) (x : bf_E), F[i]? = some x → x.2.2.2 ≤ i := by
  intro i
  induction i using Nat.strongRecOn with
  | ind i ih =>
    intro x hx
    by_cases h : i = 0
    · subst h
      rw [hI.1] at hx
      cases hx
      exact Nat.le_refl _
    · obtain ⟨h1, h2, y, h3, h4, h5⟩ := hI.2.2.2.1 i x (by omega) hx
      have := ih x.2.1 h1 y h3
      omega
theorem wl_mo_search1 (G : ag_T) (κ : ck_T) (μ : cm_T) (o : Nat → Int64) (rest : List va_E) {A : aa_T} (hR : rm_R μ A) (hW : wa_W A) (h12 : ga_u A * ga_n A ≤ 12) {v9 r9 : Nat} (hv : v9 < ga_u A) (hr9 : r9 < ga_n A) {w3 : Int32} {kk : Nat} {x : bf_E} (hx : (sc_F A kk)[kk]? = some x) {Q : aq_T} (hend : ∀ q f g, bs_R (bf_m (sc_t A) kk x.1 x.2.2.2 (sc_F A kk) (sc_M A)) q f g → aw_w G mm_mo_search 3 74 0 0 256 [(6, .int (nI (sc_M A))), (5, .int (nI x.1)), (4, .int (nI kk)), (3, .int w3), (0, .ref (G.1 + 13)), (1, .int (nI v9)), (2, .int (nI r9))] [] (hp_f G κ (ms_f μ q (-1) f g) o rest) Q) : ∀ (k r : Nat), r + k = 2 * ga_u A * ga_n A → ∀ q f g, bs_R (bf_m (sc_t A) kk x.1 x.2.2.2 (sc_F A kk) r) q f g → aw_w G mm_mo_search 3 74 0 0 137 [(6, .int (nI r)), (5, .int (nI x.1)), (4, .int (nI kk)), (3, .int w3), (0, .ref (G.1 + 13)), (1, .int (nI v9)), (2, .int (nI r9))] [] (hp_f G κ (ms_f μ q (-1) f g) o rest) Q := by
  obtain ⟨hB, hGr, hU, hSL, hDL, hRs, hSs⟩ := id hR; have hn6 := hB.2.1; have hu5 := hU.2.1
  have hst := sc_s h12 (by omega : 0 < ga_n A)
  have hM : 2 * ga_u A * ga_n A ≤ 24 := by rw [Nat.mul_assoc]; omega
  have hsx : x.1 < 4096 := (sc_I hW h12 (by omega) kk).2.1 kk x hx
  intro k
  induction k with
  | zero =>
    intro r hr q f g hf
    have e : r = sc_M A := by unfold sc_M; omega
    subst e
    refine aw_iload dd_mo_search_137 0 rfl ?_
    refine aw_iconst (v := (nI 2)) dd_mo_search_139 (by decide) ?_
    refine aw_aload_n dd_mo_search_140 rfl 4 rfl ?_
    refine aw_getf _ 5 2 dd_mo_search_141 fl_mo_72 rfl rfl ?_
    refine aw_top (hU.1) ?_
    refine aw_imul dd_mo_search_144 ?_
    refine aw_top (nI_mul _ _) ?_
    refine aw_aload_n dd_mo_search_145 rfl 4 rfl ?_
    refine aw_getf _ 5 1 dd_mo_search_146 fl_mo_69 rfl rfl ?_
    refine aw_top (hB.1) ?_
    refine aw_imul dd_mo_search_149 ?_
    refine aw_top (nI_mul _ _) ?_
    refine aw_icmp_ge (tgt := 256) dd_mo_search_150 (by decide) (fun _ => ?_) (fun h9 => absurd (nI_le (Nat.le_refl _) (by omega)) h9)
    exact hend q f g hf
  | succ k ih =>
    intro r hr q f g hf
    have mv := mv_v (m := r) (u := ga_u A) (n := ga_n A) (by omega) (by omega)
    refine aw_iload dd_mo_search_137 0 rfl ?_
    refine aw_iconst (v := (nI 2)) dd_mo_search_139 (by decide) ?_
    refine aw_aload_n dd_mo_search_140 rfl 4 rfl ?_
    refine aw_getf _ 5 2 dd_mo_search_141 fl_mo_72 rfl rfl ?_
    refine aw_top (hU.1) ?_
    refine aw_imul dd_mo_search_144 ?_
    refine aw_top (nI_mul _ _) ?_
    refine aw_aload_n dd_mo_search_145 rfl 4 rfl ?_
    refine aw_getf _ 5 1 dd_mo_search_146 fl_mo_69 rfl rfl ?_
    refine aw_top (hB.1) ?_
    refine aw_imul dd_mo_search_149 ?_
    refine aw_top (nI_mul _ _) ?_
    refine aw_icmp_ge (tgt := 256) dd_mo_search_150 (by decide) (fun h9 => absurd h9 (nI_ge (by omega) (by omega))) (fun _ => ?_)
    refine aw_aload_n dd_mo_search_153 rfl 4 rfl ?_
    refine aw_getf _ 5 23 dd_mo_search_154 fl_mo_138 rfl rfl ?_
    refine aw_top (y := -1) rfl ?_
    refine aw_if_ge (tgt := 256) dd_mo_search_157 (by decide) (fun h9 => absurd h9 (by decide)) (fun _ => ?_)
    refine aw_aload_n dd_mo_search_160 rfl 4 rfl ?_
    refine aw_iload dd_mo_search_161 1 rfl ?_
    refine aw_iload dd_mo_search_163 0 rfl ?_
    refine aw_iconst (v := (nI 2)) dd_mo_search_165 (by decide) ?_
    refine aw_idiv dd_mo_search_166 (by decide) ?_
    refine aw_top (nI_div (by omega) (by decide)) ?_
    refine aw_aload_n dd_mo_search_167 rfl 4 rfl ?_
    refine aw_getf _ 5 1 dd_mo_search_168 fl_mo_69 rfl rfl ?_
    refine aw_top (hB.1) ?_
    refine aw_idiv dd_mo_search_171 (nI_ne0 (by omega) (by omega)) ?_
    refine aw_top (nI_div (by omega) (by omega)) ?_
    refine aw_iload dd_mo_search_172 0 rfl ?_
    refine aw_iconst (v := (nI 2)) dd_mo_search_174 (by decide) ?_
    refine aw_idiv dd_mo_search_175 (by decide) ?_
    refine aw_top (nI_div (by omega) (by decide)) ?_
    refine aw_aload_n dd_mo_search_176 rfl 4 rfl ?_
    refine aw_getf _ 5 1 dd_mo_search_177 fl_mo_69 rfl rfl ?_
    refine aw_top (hB.1) ?_
    refine aw_irem dd_mo_search_180 (nI_ne0 (by omega) (by omega)) ?_
    refine aw_top (nI_rem (by omega) (by omega)) ?_
    refine aw_join (tgt := 193) (v := zb_i (decide (r % 2 = 0))) ?_ (fun kj181 => ?_)
    · refine aw_cVi mm_mo_stepTo 0 0 _ 5 [_, _, _, _] _ (wc_mo_stepTo G κ (ms_f μ q (-1) f g) o rest hR hsx h12 mv.1 mv.2 (decide (r % 2 = 0))) dd_mo_search_193 cv_mo_144 my_mo_stepTo np_mo_stepTo rfl rfl rfl (by decide) rfl rfl (Nat.le_of_ble_eq_true rfl) (Nat.le_of_ble_eq_true rfl) ?_
      refine aw_top (y := po_i (sc_t A x.1 r)) rfl ?_
      rcases hs9 : sc_t A x.1 r with _ | t
      · have e9 : (bf_m (sc_t A) kk x.1 x.2.2.2 (sc_F A kk) (r + 1)) = (bf_m (sc_t A) kk x.1 x.2.2.2 (sc_F A kk) r) := by show bf_1 _ _ _ _ _ _ = _; unfold bf_1; rw [hs9]
        rw [← e9] at hf
        refine aw_top (y := -1) rfl ?_
        refine aw_istore (lv' := [(7, _), (6, _), (5, _), (4, _), (3, _), (0, _), (1, _), (2, _)]) dd_mo_search_196 (by decide) rfl ?_
        refine aw_iload dd_mo_search_198 0 rfl ?_
        refine aw_if_lt (tgt := 250) dd_mo_search_200 (by decide) (fun _ => ?_) (fun h9 => absurd (by decide) h9)
        refine aw_iinc (v := nI (r + 1)) (lv' := [(6, _), (7, _), (5, _), (4, _), (3, _), (0, _), (1, _), (2, _)]) dd_mo_search_250 1 rfl (nI_1 _) (by decide) rfl ?_
        refine aw_goto (tgt := 137) dd_mo_search_253 (by decide) ?_
        exact aw_lv [0, 2, 3, 4, 5, 6, 7] rfl (ih (r + 1) (by omega) q f g hf)
      · refine aw_top (y := nI t) rfl ?_
        have ht9 : t < 4096 := hst _ _ _ hsx (by unfold sc_M; omega) hs9
        by_cases han : (bf_m (sc_t A) kk x.1 x.2.2.2 (sc_F A kk) r).any (fun y => decide (y.1 = t)) = true
        · have e9 : (bf_m (sc_t A) kk x.1 x.2.2.2 (sc_F A kk) (r + 1)) = (bf_m (sc_t A) kk x.1 x.2.2.2 (sc_F A kk) r) := by show bf_1 _ _ _ _ _ _ = _; unfold bf_1; rw [hs9]; exact if_pos han
          rw [← e9] at hf
          rw [e9] at hf
          obtain ⟨j8, x8, hj8, hx8⟩ := bf_old han
          have e8 := hf.2.1 j8 x8 hj8
          rw [hx8] at e8
          rw [← e9] at hf
          refine aw_istore (lv' := [(7, _), (6, _), (5, _), (4, _), (3, _), (0, _), (1, _), (2, _)]) dd_mo_search_196 (by decide) rfl ?_
          refine aw_iload dd_mo_search_198 0 rfl ?_
          refine aw_if_lt (tgt := 250) dd_mo_search_200 (by decide) (fun h9 => absurd h9 (nI_pos (by omega))) (fun _ => ?_)
          refine aw_aload_n dd_mo_search_203 rfl 5 rfl ?_
          refine aw_getf _ 5 19 dd_mo_search_204 fl_mo_56 rfl rfl ?_
          refine aw_iload dd_mo_search_207 0 rfl ?_
          refine aw_iaN _ (t) dd_mo_search_209 rfl (ht9) (by decide) ?_
          refine aw_top (e8.2.1) ?_
          refine aw_if_ge (tgt := 250) dd_mo_search_210 (by decide) (fun _ => ?_) (fun h9 => absurd (nI_pos' e8.2.2) h9)
          refine aw_iinc (v := nI (r + 1)) (lv' := [(6, _), (7, _), (5, _), (4, _), (3, _), (0, _), (1, _), (2, _)]) dd_mo_search_250 1 rfl (nI_1 _) (by decide) rfl ?_
          refine aw_goto (tgt := 137) dd_mo_search_253 (by decide) ?_
          exact aw_lv [0, 2, 3, 4, 5, 6, 7] rfl (ih (r + 1) (by omega) q f g hf)
        · have e9 : (bf_m (sc_t A) kk x.1 x.2.2.2 (sc_F A kk) (r + 1)) = (bf_m (sc_t A) kk x.1 x.2.2.2 (sc_F A kk) r) ++ [(t, kk, r, x.2.2.2 + 1)] := by show bf_1 _ _ _ _ _ _ = _; unfold bf_1; rw [hs9]; exact if_neg han
          have e8 := hf.2.1 kk x (bf_mp hx r)
          have hlt : (bf_m (sc_t A) kk x.1 x.2.2.2 (sc_F A kk) r).length < 4096 := bf_lt (bf_ms (sc_I hW h12 (by omega) kk) hx hst r (by unfold sc_M; omega)) (bf_mp hx r) (by unfold sc_M; omega) hst hs9 han
          have hdl : x.2.2.2 + 1 < 2 ^ 31 := by have h1 := dp_lt (bf_ms (sc_I hW h12 (by omega) kk) hx hst r (by unfold sc_M; omega)) kk x (bf_mp hx r); have h2 := (List.getElem?_eq_some_iff.mp (bf_mp (st := sc_t A) (p := kk) (s := x.1) (d := x.2.2.2) hx r)).1; omega
          refine aw_istore (lv' := [(7, _), (6, _), (5, _), (4, _), (3, _), (0, _), (1, _), (2, _)]) dd_mo_search_196 (by decide) rfl ?_
          refine aw_iload dd_mo_search_198 0 rfl ?_
          refine aw_if_lt (tgt := 250) dd_mo_search_200 (by decide) (fun h9 => absurd h9 (nI_pos (by omega))) (fun _ => ?_)
          refine aw_aload_n dd_mo_search_203 rfl 5 rfl ?_
          refine aw_getf _ 5 19 dd_mo_search_204 fl_mo_56 rfl rfl ?_
          refine aw_iload dd_mo_search_207 0 rfl ?_
          refine aw_iaN _ (t) dd_mo_search_209 rfl (ht9) (by decide) ?_
          refine aw_top (hf.2.2 t ht9 han) ?_
          refine aw_if_ge (tgt := 250) dd_mo_search_210 (by decide) (fun h9 => absurd h9 (by decide)) (fun _ => ?_)
          refine aw_aload_n dd_mo_search_213 rfl 5 rfl ?_
          refine aw_getf _ 5 19 dd_mo_search_214 fl_mo_56 rfl rfl ?_
          refine aw_iload dd_mo_search_217 0 rfl ?_
          refine aw_aload_n dd_mo_search_219 rfl 5 rfl ?_
          refine aw_getf _ 5 19 dd_mo_search_220 fl_mo_56 rfl rfl ?_
          refine aw_iload dd_mo_search_223 2 rfl ?_
          refine aw_iaN _ (x.1) dd_mo_search_225 rfl (hsx) (by decide) ?_
          refine aw_top e8.2.1 ?_
          refine aw_iconst (v := 1) dd_mo_search_226 (by decide) ?_
          refine aw_iadd dd_mo_search_227 ?_
          refine aw_top (nI_1 _) ?_
          refine aw_isN _ (t) dd_mo_search_228 rfl (ht9) (by decide) ?_
          refine aw_h (hs_ma15 G _ _ _ _ _ _) ?_
          rw [ms_15]
          refine aw_aload_n dd_mo_search_229 rfl 5 rfl ?_
          refine aw_getf _ 5 21 dd_mo_search_230 fl_mo_62 rfl rfl ?_
          refine aw_aload_n dd_mo_search_233 rfl 5 rfl ?_
          refine aw_getf _ 5 22 dd_mo_search_234 fl_mo_135 rfl rfl ?_
          refine aw_top (y := nI (bf_m (sc_t A) kk x.1 x.2.2.2 (sc_F A kk) r).length) hf.1 ?_
          refine aw_iload dd_mo_search_237 0 rfl ?_
          refine aw_isN _ ((bf_m (sc_t A) kk x.1 x.2.2.2 (sc_F A kk) r).length) dd_mo_search_239 rfl (hlt) (by decide) ?_
          refine aw_h (hs_ma17 G _ _ _ _ _ _) ?_
          rw [ms_17]
          refine aw_aload_n dd_mo_search_240 rfl 5 rfl ?_
          refine aw_dup dd_mo_search_241 rfl ?_
          refine aw_getf _ 5 22 dd_mo_search_242 fl_mo_135 rfl rfl ?_
          refine aw_top (y := nI (bf_m (sc_t A) kk x.1 x.2.2.2 (sc_F A kk) r).length) hf.1 ?_
          refine aw_iconst (v := 1) dd_mo_search_245 (by decide) ?_
          refine aw_iadd dd_mo_search_246 ?_
          refine aw_top (nI_1 _) ?_
          refine aw_putf _ 5 22 dd_mo_search_247 fl_mo_135 nf_mo_22 rfl (rfl) (rfl) (Nat.le_of_ble_eq_true rfl) ?_
          refine aw_h (hs_ms4 G _ _ _ _ _) ?_
          rw [ms_4]
          refine aw_iinc (v := nI (r + 1)) (lv' := [(6, _), (7, _), (5, _), (4, _), (3, _), (0, _), (1, _), (2, _)]) dd_mo_search_250 1 rfl (nI_1 _) (by decide) rfl ?_
          refine aw_goto (tgt := 137) dd_mo_search_253 (by decide) ?_
          exact aw_lv [0, 2, 3, 4, 5, 6, 7] rfl (ih (r + 1) (by omega) _ _ _ (by rw [e9]; exact bs_a hf han hdl))
    · refine aw_iload dd_mo_search_181 0 rfl ?_
      refine aw_iconst (v := (nI 2)) dd_mo_search_183 (by decide) ?_
      refine aw_irem dd_mo_search_184 (by decide) ?_
      refine aw_top (nI_rem (by omega) (by decide)) ?_
      refine aw_if_ne (tgt := 192) dd_mo_search_185 (by decide) (fun hz => ?_) (fun hz => ?_)
      · refine aw_iconst (v := 0) dd_mo_search_192 (by decide) ?_
        exact aw_top (by first | (rw [← nI_0, nI_eq (by omega) (by decide)] at hz; simp [zb_i, hz]; done) | (rw [← nI_0, nI_eq (by omega) (by decide)] at hz; simp [zb_i]; omega)) kj181
      · refine aw_iconst (v := 1) dd_mo_search_188 (by decide) ?_
        refine aw_goto (tgt := 193) dd_mo_search_189 (by decide) ?_
        exact aw_top (by first | (rw [← nI_0, nI_eq (by omega) (by decide)] at hz; simp [zb_i, hz]; done) | (rw [← nI_0, nI_eq (by omega) (by decide)] at hz; simp [zb_i]; omega)) kj181
theorem wl_mo_search2 (G : ag_T) (κ : ck_T) (μ : cm_T) (o : Nat → Int64) (rest : List va_E) {A : aa_T} (hR : rm_R μ A) (hW : wa_W A) (h12 : ga_u A * ga_n A ≤ 12) {v9 r9 : Nat} (hv : v9 < ga_u A) (hr9 : r9 < ga_n A) {w3 : Int32} {F : List bf_E} {q : Int32} {f g : Nat → Int32} (hf : bs_R F q f g) (hl : F.length ≤ 4096) {d : Nat} (hd : d < 2 ^ 31) {Q : aq_T} (hend : Q (.inl none) (hp_f G κ (ms_f μ q (nI d) f g) o rest)) : ∀ (k r : Nat), r + k = F.length → aw_w G mm_mo_search 3 74 0 0 87 [(4, .int (nI r)), (3, .int w3), (0, .ref (G.1 + 13)), (1, .int (nI v9)), (2, .int (nI r9))] [] (hp_f G κ (ms_f μ q (nI d) f g) o rest) Q := by
  obtain ⟨hB, hGr, hU, hSL, hDL, hRs, hSs⟩ := id hR; have hn6 := hB.2.1; have hu5 := hU.2.1
  have hst := sc_s h12 (by omega : 0 < ga_n A)
  have hM : 2 * ga_u A * ga_n A ≤ 24 := by rw [Nat.mul_assoc]; omega
  have hM1 : 0 < 2 * ga_u A * ga_n A := Nat.mul_pos (by omega) (by omega)
  intro k
  induction k with
  | zero =>
    intro r hr
    have e : r = F.length := by omega
    subst e
    refine aw_iload dd_mo_search_87 0 rfl ?_
    refine aw_aload_n dd_mo_search_89 rfl 2 rfl ?_
    refine aw_getf _ 5 22 dd_mo_search_90 fl_mo_135 rfl rfl ?_
    refine aw_top (y := nI F.length) hf.1 ?_
    refine aw_icmp_ge (tgt := 262) dd_mo_search_93 (by decide) (fun _ => ?_) (fun h9 => absurd (nI_le (Nat.le_refl _) (by omega)) h9)
    exact aw_vret dd_mo_search_262 rfl hend
  | succ k ih =>
    intro r hr
    obtain ⟨x, hx⟩ := tk_g (ls := F) (k := r) (by omega)
    refine aw_iload dd_mo_search_87 0 rfl ?_
    refine aw_aload_n dd_mo_search_89 rfl 2 rfl ?_
    refine aw_getf _ 5 22 dd_mo_search_90 fl_mo_135 rfl rfl ?_
    refine aw_top (y := nI F.length) hf.1 ?_
    refine aw_icmp_ge (tgt := 262) dd_mo_search_93 (by decide) (fun h9 => absurd h9 (nI_ge (by omega) (by omega))) (fun _ => ?_)
    refine aw_aload_n dd_mo_search_96 rfl 2 rfl ?_
    refine aw_getf _ 5 21 dd_mo_search_97 fl_mo_62 rfl rfl ?_
    refine aw_iload dd_mo_search_100 0 rfl ?_
    refine aw_iaN _ (r) dd_mo_search_102 rfl (by omega) (by decide) ?_
    refine aw_top (y := nI x.1) (hf.2.1 r x hx).1 ?_
    refine aw_istore (lv' := [(5, _), (4, _), (3, _), (0, _), (1, _), (2, _)]) dd_mo_search_103 (by decide) rfl ?_
    refine aw_aload_n dd_mo_search_105 rfl 3 rfl ?_
    refine aw_getf _ 5 23 dd_mo_search_106 fl_mo_138 rfl rfl ?_
    refine aw_top (y := nI d) rfl ?_
    refine aw_if_ge (tgt := 134) dd_mo_search_109 (by decide) (fun _ => ?_) (fun h9 => absurd (nI_pos' hd) h9)
    refine aw_iconst (v := (nI 0)) dd_mo_search_134 (by decide) ?_
    refine aw_istore (lv' := [(6, _), (5, _), (4, _), (3, _), (0, _), (1, _), (2, _)]) dd_mo_search_135 (by decide) rfl ?_
    refine aw_iload dd_mo_search_137 0 rfl ?_
    refine aw_iconst (v := (nI 2)) dd_mo_search_139 (by decide) ?_
    refine aw_aload_n dd_mo_search_140 rfl 4 rfl ?_
    refine aw_getf _ 5 2 dd_mo_search_141 fl_mo_72 rfl rfl ?_
    refine aw_top (hU.1) ?_
    refine aw_imul dd_mo_search_144 ?_
    refine aw_top (nI_mul _ _) ?_
    refine aw_aload_n dd_mo_search_145 rfl 4 rfl ?_
    refine aw_getf _ 5 1 dd_mo_search_146 fl_mo_69 rfl rfl ?_
    refine aw_top (hB.1) ?_
    refine aw_imul dd_mo_search_149 ?_
    refine aw_top (nI_mul _ _) ?_
    refine aw_icmp_ge (tgt := 256) dd_mo_search_150 (by decide) (fun h9 => absurd h9 (nI_ge (by omega) (by omega))) (fun _ => ?_)
    refine aw_aload_n dd_mo_search_153 rfl 4 rfl ?_
    refine aw_getf _ 5 23 dd_mo_search_154 fl_mo_138 rfl rfl ?_
    refine aw_top (y := nI d) rfl ?_
    refine aw_if_ge (tgt := 256) dd_mo_search_157 (by decide) (fun _ => ?_) (fun h9 => absurd (nI_pos' hd) h9)
    refine aw_iinc (v := nI (r + 1)) (lv' := [(4, _), (6, _), (5, _), (3, _), (0, _), (1, _), (2, _)]) dd_mo_search_256 2 rfl (nI_1 _) (by decide) rfl ?_
    refine aw_goto (tgt := 87) dd_mo_search_259 (by decide) ?_
    exact aw_lv [0, 3, 4, 5, 6] rfl (ih (r + 1) (by omega))
theorem wl_mo_search3 (G : ag_T) (κ : ck_T) (μ : cm_T) (o : Nat → Int64) (rest : List va_E) {A : aa_T} (hR : rm_R μ A) (hW : wa_W A) (h12 : ga_u A * ga_n A ≤ 12) {v9 r9 : Nat} (hv : v9 < ga_u A) (hr9 : r9 < ga_n A) {w3 : Int32} : ∀ (k r : Nat), r + k = 4097 → (∀ (j : Nat) (x : bf_E), j < r → (sc_F A r)[j]? = some x → sc_g A v9 r9 x.1 = false) → sc_f A v9 r9 4097 0 = sc_f A v9 r9 k r → r ≤ (sc_F A r).length → ∀ q f g, bs_R (sc_F A r) q f g → aw_w G mm_mo_search 3 74 0 0 87 [(4, .int (nI r)), (3, .int w3), (0, .ref (G.1 + 13)), (1, .int (nI v9)), (2, .int (nI r9))] [] (hp_f G κ (ms_f μ q (-1) f g) o rest) (qe_v fun h' => ∃ q nr f g F, h' = hp_f G κ (ms_f μ q nr f g) o rest ∧ bs_R F q f g ∧ (∀ i, sc_f A v9 r9 4097 0 = some i → F = sc_F A i ∧ ∃ x : bf_E, F[i]? = some x ∧ nr = nI x.2.2.2) ∧ (sc_f A v9 r9 4097 0 = none → nr = -1)) := by
  obtain ⟨hB, hGr, hU, hSL, hDL, hRs, hSs⟩ := id hR; have hn6 := hB.2.1; have hu5 := hU.2.1
  have hst := sc_s h12 (by omega : 0 < ga_n A)
  have hM : 2 * ga_u A * ga_n A ≤ 24 := by rw [Nat.mul_assoc]; omega
  have hM1 : 0 < 2 * ga_u A * ga_n A := Nat.mul_pos (by omega) (by omega)
  intro k
  induction k with
  | zero =>
    intro r hr hno hsf hrl q f g hf
    have h1 := bf_len (sc_I hW h12 (by omega) r)
    omega
  | succ k ih =>
    intro r hr hno hsf hrl q f g hf
    have hI := sc_I hW h12 (by omega) r
    have hl := bf_len hI
    refine aw_iload dd_mo_search_87 0 rfl ?_
    refine aw_aload_n dd_mo_search_89 rfl 2 rfl ?_
    refine aw_getf _ 5 22 dd_mo_search_90 fl_mo_135 rfl rfl ?_
    refine aw_top (y := nI (sc_F A r).length) hf.1 ?_
    refine aw_icmp_ge (tgt := 262) dd_mo_search_93 (by decide) (fun hc => ?_) (fun hc => ?_)
    · rw [nI_leI (by omega) (by omega)] at hc
      have hnone : sc_f A v9 r9 4097 0 = none := by
        rw [hsf]; unfold sc_f; rw [bf_f]
        have e9 : (sc_F A r)[r]? = none := List.getElem?_eq_none hc
        unfold sc_F at e9
        rw [e9]
      exact aw_vret dd_mo_search_262 rfl ⟨rfl, q, -1, f, g, sc_F A r, rfl, hf, fun i hi => by (rw [hnone] at hi; cases hi), fun _ => rfl⟩
    · rw [nI_leI (by omega) (by omega)] at hc
      obtain ⟨x, hx⟩ := tk_g (ls := sc_F A r) (k := r) (by omega)
      have hxx := hf.2.1 r x hx
      have hsx := hI.2.1 r x hx
      have hstep : sc_f A v9 r9 (k + 1) r = if sc_g A v9 r9 x.1 = true then some r else sc_f A v9 r9 k (r + 1) := by
        unfold sc_f; rw [bf_f]
        have e9 := hx
        unfold sc_F at e9
        rw [e9]
      rw [hstep] at hsf
      refine aw_aload_n dd_mo_search_96 rfl 2 rfl ?_
      refine aw_getf _ 5 21 dd_mo_search_97 fl_mo_62 rfl rfl ?_
      refine aw_iload dd_mo_search_100 0 rfl ?_
      refine aw_iaN _ (r) dd_mo_search_102 rfl (by omega) (by decide) ?_
      refine aw_top hxx.1 ?_
      refine aw_istore (lv' := [(5, _), (4, _), (3, _), (0, _), (1, _), (2, _)]) dd_mo_search_103 (by decide) rfl ?_
      refine aw_aload_n dd_mo_search_105 rfl 3 rfl ?_
      refine aw_getf _ 5 23 dd_mo_search_106 fl_mo_138 rfl rfl ?_
      refine aw_top (y := -1) rfl ?_
      refine aw_if_ge (tgt := 134) dd_mo_search_109 (by decide) (fun h9 => absurd h9 (by decide)) (fun _ => ?_)
      refine aw_aload_n dd_mo_search_112 rfl 3 rfl ?_
      refine aw_iload dd_mo_search_113 0 rfl ?_
      refine aw_iload_n dd_mo_search_115 rfl 4 rfl ?_
      refine aw_iload_n dd_mo_search_116 rfl 5 rfl ?_
      refine aw_cVi mm_mo_has 0 0 _ 5 [_, _, _] _ (wc_mo_has G κ (ms_f μ q (-1) f g) o rest hB (by omega) (by have := vn_le hv h12; omega) (by omega)) dd_mo_search_117 cv_mo_141 my_mo_has np_mo_has rfl rfl rfl (by decide) rfl rfl (Nat.le_of_ble_eq_true rfl) (Nat.le_of_ble_eq_true rfl) ?_
      refine aw_if_eq (tgt := 134) dd_mo_search_120 (by decide) (fun hgl => ?_) (fun hgl => ?_)
      · have hgl := zb_e0 hgl
        rw [show sc_g A v9 r9 x.1 = false from hgl, if_neg Bool.false_ne_true] at hsf
        refine aw_iconst (v := (nI 0)) dd_mo_search_134 (by decide) ?_
        refine aw_istore (lv' := [(6, _), (5, _), (4, _), (3, _), (0, _), (1, _), (2, _)]) dd_mo_search_135 (by decide) rfl ?_
        refine wl_mo_search1 G κ μ o rest hR hW h12 hv hr9 hx (fun q1 f1 g1 hf1 => ?_) _ 0 (Nat.zero_add _) q f g hf
        rw [← sc_S hx] at hf1
        refine aw_iinc (v := nI (r + 1)) (lv' := [(4, _), (6, _), (5, _), (3, _), (0, _), (1, _), (2, _)]) dd_mo_search_256 2 rfl (nI_1 _) (by decide) rfl ?_
        refine aw_goto (tgt := 87) dd_mo_search_259 (by decide) ?_
        refine aw_lv [0, 3, 4, 5, 6] rfl (ih (r + 1) (by omega) (fun j y hj hy => ?_) hsf ?_ q1 f1 g1 hf1)
        · by_cases h9 : j = r
          · subst h9
            have := sc_r hx (Nat.le_refl _) hy
            rw [hx] at this
            cases this
            exact hgl
          · exact hno j y (by omega) (sc_r hx (by omega) hy)
        · exact (List.getElem?_eq_some_iff.mp (sc_p hx)).1
      · have hgl := zb_n0 hgl
        rw [show sc_g A v9 r9 x.1 = true from hgl, if_pos rfl] at hsf
        refine aw_aload_n dd_mo_search_123 rfl 3 rfl ?_
        refine aw_aload_n dd_mo_search_124 rfl 3 rfl ?_
        refine aw_getf _ 5 19 dd_mo_search_125 fl_mo_56 rfl rfl ?_
        refine aw_iload dd_mo_search_128 0 rfl ?_
        refine aw_iaN _ (x.1) dd_mo_search_130 rfl (hsx) (by decide) ?_
        refine aw_top hxx.2.1 ?_
        refine aw_putf _ 5 23 dd_mo_search_131 fl_mo_138 nf_mo_23 rfl (rfl) (rfl) (Nat.le_of_ble_eq_true rfl) ?_
        refine aw_h (hs_ms5 G _ _ _ _ _) ?_
        rw [ms_5]
        refine aw_iconst (v := (nI 0)) dd_mo_search_134 (by decide) ?_
        refine aw_istore (lv' := [(6, _), (5, _), (4, _), (3, _), (0, _), (1, _), (2, _)]) dd_mo_search_135 (by decide) rfl ?_
        refine aw_iload dd_mo_search_137 0 rfl ?_
        refine aw_iconst (v := (nI 2)) dd_mo_search_139 (by decide) ?_
        refine aw_aload_n dd_mo_search_140 rfl 4 rfl ?_
        refine aw_getf _ 5 2 dd_mo_search_141 fl_mo_72 rfl rfl ?_
        refine aw_top (hU.1) ?_
        refine aw_imul dd_mo_search_144 ?_
        refine aw_top (nI_mul _ _) ?_
        refine aw_aload_n dd_mo_search_145 rfl 4 rfl ?_
        refine aw_getf _ 5 1 dd_mo_search_146 fl_mo_69 rfl rfl ?_
        refine aw_top (hB.1) ?_
        refine aw_imul dd_mo_search_149 ?_
        refine aw_top (nI_mul _ _) ?_
        refine aw_icmp_ge (tgt := 256) dd_mo_search_150 (by decide) (fun h9 => absurd h9 (nI_ge (by omega) (by omega))) (fun _ => ?_)
        refine aw_aload_n dd_mo_search_153 rfl 4 rfl ?_
        refine aw_getf _ 5 23 dd_mo_search_154 fl_mo_138 rfl rfl ?_
        refine aw_top (y := nI x.2.2.2) rfl ?_
        refine aw_if_ge (tgt := 256) dd_mo_search_157 (by decide) (fun _ => ?_) (fun h9 => absurd (nI_pos' hxx.2.2) h9)
        refine aw_iinc (v := nI (r + 1)) (lv' := [(4, _), (6, _), (5, _), (3, _), (0, _), (1, _), (2, _)]) dd_mo_search_256 2 rfl (nI_1 _) (by decide) rfl ?_
        refine aw_goto (tgt := 87) dd_mo_search_259 (by decide) ?_
        refine aw_lv [0, 3, 4, 5, 6] rfl (wl_mo_search2 G κ μ o rest hR hW h12 hv hr9 hf hl hxx.2.2 ?_ _ (r + 1) (Nat.add_sub_cancel' (by omega)))
        exact ⟨rfl, q, _, f, g, sc_F A r, rfl, hf, fun i hi => by (rw [hsf] at hi; cases hi; exact ⟨rfl, x, hx, rfl⟩), fun hi => by (rw [hsf] at hi; cases hi)⟩
theorem wl_mo_search4 (G : ag_T) (κ : ck_T) (μ : cm_T) (o : Nat → Int64) (rest : List va_E) {w1 w2 : Int32} {q nr : Int32} {g : Nat → Int32} {Q : aq_T} (hend : ∀ f : Nat → Int32, (∀ i, i < 4096 → f i = -1) → aw_w G mm_mo_search 3 74 0 0 22 [(3, .int (nI 4096)), (0, .ref (G.1 + 13)), (1, .int w1), (2, .int w2)] [] (hp_f G κ (ms_f μ q nr f g) o rest) Q) : ∀ (k r : Nat), r + k = 4096 → ∀ f : Nat → Int32, (∀ i, i < r → f i = -1) → aw_w G mm_mo_search 3 74 0 0 2 [(3, .int (nI r)), (0, .ref (G.1 + 13)), (1, .int w1), (2, .int w2)] [] (hp_f G κ (ms_f μ q nr f g) o rest) Q := by
  intro k
  induction k with
  | zero =>
    intro r hr f hf
    have e : r = 4096 := by omega
    subst e
    refine aw_iload_n dd_mo_search_2 rfl 0 rfl ?_
    refine aw_sipush (v := (nI 4096)) dd_mo_search_3 (by decide) ?_
    refine aw_icmp_ge (tgt := 22) dd_mo_search_6 (by decide) (fun _ => ?_) (fun h9 => absurd (nI_le (Nat.le_refl _) (by decide)) h9)
    exact hend f hf
  | succ k ih =>
    intro r hr f hf
    refine aw_iload_n dd_mo_search_2 rfl 0 rfl ?_
    refine aw_sipush (v := (nI 4096)) dd_mo_search_3 (by decide) ?_
    refine aw_icmp_ge (tgt := 22) dd_mo_search_6 (by decide) (fun h9 => absurd h9 (nI_ge (by omega) (by decide))) (fun _ => ?_)
    refine aw_aload_n dd_mo_search_9 rfl 1 rfl ?_
    refine aw_getf _ 5 19 dd_mo_search_10 fl_mo_56 rfl rfl ?_
    refine aw_iload_n dd_mo_search_13 rfl 0 rfl ?_
    refine aw_iconst (v := (-1)) dd_mo_search_14 (by decide) ?_
    refine aw_isN _ (r) dd_mo_search_15 rfl (by omega) (by decide) ?_
    refine aw_h (hs_ma15 G _ _ _ _ _ _) ?_
    rw [ms_15]
    refine aw_iinc (v := nI (r + 1)) (lv' := [(3, _), (0, _), (1, _), (2, _)]) dd_mo_search_16 0 rfl (nI_1 _) (by decide) rfl ?_
    refine aw_goto (tgt := 2) dd_mo_search_19 (by decide) ?_
    refine ih (r + 1) (by omega) _ (fun i hi => ?_)
    unfold upd
    split
    · rfl
    · exact hf i (by omega)
theorem wl_mo_search5 (G : ag_T) (κ : ck_T) (μ : cm_T) (o : Nat → Int64) (rest : List va_E) {A : aa_T} (hR : rm_R μ A) (h12 : ga_u A * ga_n A ≤ 12) {w1 w2 : Int32} {Q : aq_T} (hend : aw_w G mm_mo_search 3 74 0 0 60 [(4, .int (nI (ga_u A))), (3, .int (nI (sc_0 A))), (0, .ref (G.1 + 13)), (1, .int w1), (2, .int w2)] [] (hp_f G κ μ o rest) Q) : ∀ (k r : Nat), r + k = ga_u A → aw_w G mm_mo_search 3 74 0 0 27 [(4, .int (nI r)), (3, .int (nI (p0_s (ga_n A) (ga_a A) r))), (0, .ref (G.1 + 13)), (1, .int w1), (2, .int w2)] [] (hp_f G κ μ o rest) Q := by
  obtain ⟨hB, hGr, hU, hSL, hDL, hRs, hSs⟩ := id hR; have hn6 := hB.2.1; have hu5 := hU.2.1
  intro k
  induction k with
  | zero =>
    intro r hr
    have e : r = ga_u A := by omega
    subst e
    refine aw_iload dd_mo_search_27 0 rfl ?_
    refine aw_aload_n dd_mo_search_29 rfl 2 rfl ?_
    refine aw_getf _ 5 2 dd_mo_search_30 fl_mo_72 rfl rfl ?_
    refine aw_top (hU.1) ?_
    refine aw_icmp_ge (tgt := 60) dd_mo_search_33 (by decide) (fun _ => ?_) (fun h9 => absurd (nI_le (Nat.le_refl _) (by omega)) h9)
    exact hend
  | succ k ih =>
    intro r hr
    have hvn := vn_le (v := r) (u := ga_u A) (n := ga_n A) (by omega) h12
    refine aw_iload dd_mo_search_27 0 rfl ?_
    refine aw_aload_n dd_mo_search_29 rfl 2 rfl ?_
    refine aw_getf _ 5 2 dd_mo_search_30 fl_mo_72 rfl rfl ?_
    refine aw_top (hU.1) ?_
    refine aw_icmp_ge (tgt := 60) dd_mo_search_33 (by decide) (fun h9 => absurd h9 (nI_ge (by omega) (by omega))) (fun _ => ?_)
    refine aw_iload_n dd_mo_search_36 rfl 1 rfl ?_
    refine aw_aload_n dd_mo_search_37 rfl 2 rfl ?_
    refine aw_getf _ 5 6 dd_mo_search_38 fl_mo_19 rfl rfl ?_
    refine aw_iload dd_mo_search_41 0 rfl ?_
    refine aw_iaN _ (r) dd_mo_search_43 rfl (by omega) (by decide) ?_
    refine aw_top (hU.2.2.1 r (by omega)) ?_
    refine aw_iload dd_mo_search_44 0 rfl ?_
    refine aw_aload_n dd_mo_search_46 rfl 2 rfl ?_
    refine aw_getf _ 5 1 dd_mo_search_47 fl_mo_69 rfl rfl ?_
    refine aw_top (hB.1) ?_
    refine aw_imul dd_mo_search_50 ?_
    refine aw_top (nI_mul _ _) ?_
    refine aw_ishl dd_mo_search_51 ?_
    refine aw_top (nI_shl _ (by omega)) ?_
    refine aw_ior dd_mo_search_52 ?_
    refine aw_top (nI_or _ _) ?_
    refine aw_istore_n (lv' := [(3, _), (4, _), (0, _), (1, _), (2, _)]) dd_mo_search_53 rfl (by decide) rfl ?_
    refine aw_iinc (v := nI (r + 1)) (lv' := [(4, _), (3, _), (0, _), (1, _), (2, _)]) dd_mo_search_54 1 rfl (nI_1 _) (by decide) rfl ?_
    refine aw_goto (tgt := 27) dd_mo_search_57 (by decide) ?_
    exact ih (r + 1) (by omega)
theorem wc_mo_search (G : ag_T) (κ : ck_T) (μ : cm_T) (o : Nat → Int64) (rest : List va_E) {A : aa_T} (hR : rm_R μ A) (hW : wa_W A) (h12 : ga_u A * ga_n A ≤ 12) {v9 r9 : Nat} (hv : v9 < ga_u A) (hr9 : r9 < ga_n A) : aw_w G mm_mo_search 3 74 0 0 0 (lv_args 0 [.ref (G.1 + 13), .int (nI v9), .int (nI r9)]) [] (hp_f G κ μ o rest) (qe_v fun h' => ∃ q nr f g F, h' = hp_f G κ (ms_f μ q nr f g) o rest ∧ bs_R F q f g ∧ (∀ i, sc_f A v9 r9 4097 0 = some i → F = sc_F A i ∧ ∃ x : bf_E, F[i]? = some x ∧ nr = nI x.2.2.2) ∧ (sc_f A v9 r9 4097 0 = none → nr = -1)) := by
  obtain ⟨hB, hGr, hU, hSL, hDL, hRs, hSs⟩ := id hR; have hn6 := hB.2.1; have hu5 := hU.2.1
  have hst := sc_s h12 (by omega : 0 < ga_n A)
  have h0l := sc_0l hW h12
  refine aw_iconst (v := (nI 0)) dd_mo_search_0 (by decide) ?_
  refine aw_istore_n (lv' := [(3, _), (0, _), (1, _), (2, _)]) dd_mo_search_1 rfl (by decide) rfl ?_
  rw [show hp_f G κ μ o rest = hp_f G κ (ms_f μ (μ.1 4) (μ.1 5) (μ.2 15) (μ.2 17)) o rest by rw [ms_0]]
  refine wl_mo_search4 G κ μ o rest (fun f hf => ?_) 4096 0 rfl _ (fun i hi => absurd hi (Nat.not_lt_zero i))
  refine aw_iconst (v := (nI 0)) dd_mo_search_22 (by decide) ?_
  refine aw_istore_n (lv' := [(3, _), (0, _), (1, _), (2, _)]) dd_mo_search_23 rfl (by decide) rfl ?_
  refine aw_iconst (v := (nI 0)) dd_mo_search_24 (by decide) ?_
  refine aw_istore (lv' := [(4, _), (3, _), (0, _), (1, _), (2, _)]) dd_mo_search_25 (by decide) rfl ?_
  refine wl_mo_search5 G κ (ms_f μ (μ.1 4) (μ.1 5) f (μ.2 17)) o rest hR h12 ?_ (ga_u A) 0 (Nat.zero_add _)
  refine aw_aload_n dd_mo_search_60 rfl 2 rfl ?_
  refine aw_getf _ 5 19 dd_mo_search_61 fl_mo_56 rfl rfl ?_
  refine aw_iload_n dd_mo_search_64 rfl 1 rfl ?_
  refine aw_iconst (v := 0) dd_mo_search_65 (by decide) ?_
  refine aw_isN _ (sc_0 A) dd_mo_search_66 rfl (h0l) (by decide) ?_
  refine aw_h (hs_ma15 G _ _ _ _ _ _) ?_
  rw [ms_15]
  refine aw_aload_n dd_mo_search_67 rfl 2 rfl ?_
  refine aw_getf _ 5 21 dd_mo_search_68 fl_mo_62 rfl rfl ?_
  refine aw_iconst (v := (nI 0)) dd_mo_search_71 (by decide) ?_
  refine aw_iload_n dd_mo_search_72 rfl 1 rfl ?_
  refine aw_isN _ (0) dd_mo_search_73 rfl (by decide) (by decide) ?_
  refine aw_h (hs_ma17 G _ _ _ _ _ _) ?_
  rw [ms_17]
  refine aw_aload_n dd_mo_search_74 rfl 2 rfl ?_
  refine aw_iconst (v := 1) dd_mo_search_75 (by decide) ?_
  refine aw_putf _ 5 22 dd_mo_search_76 fl_mo_135 nf_mo_22 rfl (rfl) (rfl) (Nat.le_of_ble_eq_true rfl) ?_
  refine aw_h (hs_ms4 G _ _ _ _ _) ?_
  rw [ms_4]
  refine aw_aload_n dd_mo_search_79 rfl 2 rfl ?_
  refine aw_iconst (v := (-1)) dd_mo_search_80 (by decide) ?_
  refine aw_putf _ 5 23 dd_mo_search_81 fl_mo_138 nf_mo_23 rfl (rfl) (rfl) (Nat.le_of_ble_eq_true rfl) ?_
  refine aw_h (hs_ms5 G _ _ _ _ _) ?_
  rw [ms_5]
  refine aw_iconst (v := (nI 0)) dd_mo_search_84 (by decide) ?_
  refine aw_istore (lv' := [(4, _), (3, _), (0, _), (1, _), (2, _)]) dd_mo_search_85 (by decide) rfl ?_
  refine wl_mo_search3 G κ μ o rest hR hW h12 hv hr9 4097 0 rfl (fun j x hj => absurd hj (Nat.not_lt_zero j)) rfl (Nat.zero_le _) 1 _ _ ⟨rfl, fun i x hx => ?_, fun s hs ha => ?_⟩
  · have e9 := (sc_I hW h12 (by omega) 0).1
    have hi : i < 1 := (List.getElem?_eq_some_iff.mp hx).1
    have hi0 : i = 0 := by omega
    subst hi0
    rw [e9] at hx
    cases hx
    unfold upd
    rw [if_pos rfl, if_pos rfl]
    exact ⟨rfl, rfl, show 0 < 2 ^ 31 by decide⟩
  · have h9 : ¬ s = sc_0 A := fun e => ha (by unfold sc_F bf_k; simp [e])
    unfold upd
    rw [if_neg h9]
    exact hf s hs
theorem sc_df {A : aa_T} {i : Nat} {x : bf_E} (h : (sc_F A i)[i]? = some x) : sc_d A i = x.2.2.2 := by unfold sc_d; rw [h]; rfl
theorem wc_mo_distance (G : ag_T) (κ : ck_T) (μ : cm_T) (o : Nat → Int64) (rest : List va_E) {A : aa_T} (hR : rm_R μ A) (hW : wa_W A) (x y : Int32) : aw_w G mm_mo_distance 4 101 0 0 0 (lv_args 0 [.ref (G.1 + 13), .int x, .int y]) [] (hp_f G κ μ o rest) (qm_R G κ o rest (ab_distance A x y)) := by
  obtain ⟨hB, hGr, hU, hSL, hDL, hRs, hSs⟩ := id hR; have hn6 := hB.2.1; have hu5 := hU.2.1
  have hm30 : ga_u A * ga_n A ≤ 5 * 6 := Nat.mul_le_mul hu5 hn6
  refine aw_aload_n dd_mo_distance_0 rfl 0 rfl ?_
  refine aw_join (tgt := 22) (v := zb_i (rb_i (ga_u A) x && rb_i (ga_n A) y)) ?_ (fun kj1 => ?_)
  · refine aw_iconst (v := 1) dd_mo_distance_22 (by decide) ?_
    refine aw_cVi mm_mo_when 0 0 _ 5 [_, _] _ (wc_mo_when G κ _ o rest _ _) dd_mo_distance_23 cv_mo_86 my_mo_when np_mo_when rfl rfl rfl (by decide) rfl rfl (Nat.le_of_ble_eq_true rfl) (Nat.le_of_ble_eq_true rfl) ?_
    refine aw_if_eq (tgt := 56) dd_mo_distance_26 (by decide) (fun hw => ?_) (fun hw => ?_)
    · replace hw := zb_e0 hw
      rw [ab_distance, if_pos hw]
      refine aw_iconst (v := 0) dd_mo_distance_56 (by decide) ?_
      exact aw_iret dd_mo_distance_57 rfl (by first | exact ⟨_, rfl, fun h0 => absurd (show (1 : Int32) = 0 from h0) (by decide), _, rfl, hR, wn_f hw⟩ | exact ⟨_, rfl, fun h0 => absurd (show (2 : Int32) = 0 from h0) (by decide), _, rfl, hR, wn_f hw⟩)
    · have hw1 := bt_ne (zb_n0 hw)
      clear hw
      obtain ⟨h8, h9⟩ := Bool.and_eq_true_iff.mp (Bool.not_eq_false _ ▸ hw1)
      obtain ⟨j, hj, rfl⟩ := rb_n (by omega) h8
      obtain ⟨k, hk, rfl⟩ := rb_n (by omega) h9
      rw [ab_distance, if_neg hw1, iN_n (by omega), iN_n (by omega)]
      refine aw_aload_n dd_mo_distance_29 rfl 0 rfl ?_
      refine aw_join (tgt := 49) (v := zb_i (decide (ga_u A * ga_n A ≤ 12))) ?_ (fun kj30 => ?_)
      · refine aw_iconst (v := 2) dd_mo_distance_49 (by decide) ?_
        refine aw_cVi mm_mo_when 0 0 _ 5 [_, _] _ (wc_mo_when G κ _ o rest _ _) dd_mo_distance_50 cv_mo_86 my_mo_when np_mo_when rfl rfl rfl (by decide) rfl rfl (Nat.le_of_ble_eq_true rfl) (Nat.le_of_ble_eq_true rfl) ?_
        refine aw_if_ne (tgt := 58) dd_mo_distance_53 (by decide) (fun hw => ?_) (fun hw => ?_)
        · have hw2 := bt_ne (zb_n0 hw)
          clear hw
          rw [if_neg hw2]
          have h12 : ga_u A * ga_n A ≤ 12 := by simpa using hw2
          refine aw_aload_n dd_mo_distance_58 rfl 0 rfl ?_
          refine aw_iload_n dd_mo_distance_59 rfl 1 rfl ?_
          refine aw_iload_n dd_mo_distance_60 rfl 2 rfl ?_
          refine aw_cVf mm_mo_search 0 0 _ 5 [_, _] _ (wc_mo_search G κ (km_s (km_s μ 0 (if (rb_i (ga_u A) (nI j) && rb_i (ga_n A) (nI k)) = true then 0 else 1)) 0 (if decide (ga_u A * ga_n A ≤ 12) = true then 0 else 2)) o rest hR hW h12 hj hk) dd_mo_distance_61 cv_mo_148 my_mo_search np_mo_search rfl rfl rfl (by decide) rfl rfl (Nat.le_of_ble_eq_true rfl) (Nat.le_of_ble_eq_true rfl) (fun h9 hq => ?_)
          obtain ⟨q, nr, f, g, F, rfl, hF, hsome, hnone⟩ := hq
          refine aw_aload_n dd_mo_distance_64 rfl 0 rfl ?_
          refine aw_getf _ 5 23 dd_mo_distance_65 fl_mo_138 rfl rfl ?_
          refine aw_top (y := nr) rfl ?_
          exact aw_iret dd_mo_distance_68 rfl (by cases hsf : sc_f A j k 4097 0 with | none => exact ⟨_, rfl, fun _ => hnone hsf, _, rfl, hR, wn_t hw2⟩ | some i => (obtain ⟨rfl, x9, hx9, hn9⟩ := hsome i hsf; exact ⟨_, rfl, fun _ => by (show _ = nI (sc_d A i); rw [sc_df hx9]; exact hn9), _, rfl, hR, wn_t hw2⟩))
        · replace hw := zb_e0 hw
          rw [if_pos hw]
          refine aw_iconst (v := 0) dd_mo_distance_56 (by decide) ?_
          exact aw_iret dd_mo_distance_57 rfl (by first | exact ⟨_, rfl, fun h0 => absurd (show (1 : Int32) = 0 from h0) (by decide), _, rfl, hR, wn_f hw⟩ | exact ⟨_, rfl, fun h0 => absurd (show (2 : Int32) = 0 from h0) (by decide), _, rfl, hR, wn_f hw⟩)
      · refine aw_aload_n dd_mo_distance_30 rfl 0 rfl ?_
        refine aw_getf _ 5 2 dd_mo_distance_31 fl_mo_72 rfl rfl ?_
        refine aw_top (hU.1) ?_
        refine aw_aload_n dd_mo_distance_34 rfl 0 rfl ?_
        refine aw_getf _ 5 1 dd_mo_distance_35 fl_mo_69 rfl rfl ?_
        refine aw_top (hB.1) ?_
        refine aw_imul dd_mo_distance_38 ?_
        refine aw_top (nI_mul _ _) ?_
        refine aw_bipush (v := (nI 12)) dd_mo_distance_39 (by decide) ?_
        refine aw_icmp_gt (tgt := 48) dd_mo_distance_41 (by decide) (fun h5 => ?_) (fun h5 => ?_)
        · refine aw_iconst (v := 0) dd_mo_distance_48 (by decide) ?_
          exact aw_top (by rw [nI_ltI (by decide) (by omega)] at h5; simp [zb_i]; omega) kj30
        · refine aw_iconst (v := 1) dd_mo_distance_44 (by decide) ?_
          refine aw_goto (tgt := 49) dd_mo_distance_45 (by decide) ?_
          exact aw_top (by rw [nI_ltI (by decide) (by omega)] at h5; simp [zb_i]; omega) kj30
  · refine aw_aload_n dd_mo_distance_1 rfl 0 rfl ?_
    refine aw_iload_n dd_mo_distance_2 rfl 1 rfl ?_
    refine aw_cVi mm_mo_isUser 0 0 _ 5 [_] _ (wc_mo_isUser G κ _ o rest (n := ga_u A) hU.1 _) dd_mo_distance_3 cv_mo_113 my_mo_isUser np_mo_isUser rfl rfl rfl (by decide) rfl rfl (Nat.le_of_ble_eq_true rfl) (Nat.le_of_ble_eq_true rfl) ?_
    refine aw_if_eq (tgt := 21) dd_mo_distance_6 (by decide) (fun h1 => ?_) (fun h1 => ?_)
    · refine aw_iconst (v := 0) dd_mo_distance_21 (by decide) ?_
      exact aw_top (by simp_all [zb_q0, zb_q1, zb_i]) kj1
    · refine aw_aload_n dd_mo_distance_9 rfl 0 rfl ?_
      refine aw_iload_n dd_mo_distance_10 rfl 2 rfl ?_
      refine aw_cVi mm_mo_isRole 0 0 _ 5 [_] _ (wc_mo_isRole G κ _ o rest (n := ga_n A) hB.1 _) dd_mo_distance_11 cv_mo_90 my_mo_isRole np_mo_isRole rfl rfl rfl (by decide) rfl rfl (Nat.le_of_ble_eq_true rfl) (Nat.le_of_ble_eq_true rfl) ?_
      refine aw_if_eq (tgt := 21) dd_mo_distance_14 (by decide) (fun h2 => ?_) (fun h2 => ?_)
      · refine aw_iconst (v := 0) dd_mo_distance_21 (by decide) ?_
        exact aw_top (by simp_all [zb_q0, zb_q1, zb_i]) kj1
      · refine aw_iconst (v := 1) dd_mo_distance_17 (by decide) ?_
        refine aw_goto (tgt := 22) dd_mo_distance_18 (by decide) ?_
        exact aw_top (by simp_all [zb_q0, zb_q1, zb_i]) kj1
