/-! ===== derived rows: ends as values, calls by contracts that are equations, arrays by number ===== -/
def q_i (v : Int32) (h1 : List va_E) : aq_T := fun o h' => o = .inl (some (.int v)) ∧ h' = h1
def q_r (v : Value) (h1 : List va_E) : aq_T := fun o h' => o = .inl (some v) ∧ h' = h1
def q_v (h1 : List va_E) : aq_T := fun o h' => o = .inl none ∧ h' = h1
def q_x (ci : Nat) (h1 : List va_E) : aq_T := fun o h' => o = .inr ci ∧ h' = h1
def zb_i (b : Bool) : Int32 := if b then 1 else 0
theorem zb_t {b : Bool} (h : b = true) : zb_i b = 1 := by rw [h]; rfl
theorem zb_f {b : Bool} (h : b = false) : zb_i b = 0 := by rw [h]; rfl
theorem zb_01 (b : Bool) : zb_i b = 0 ∨ zb_i b = 1 := by cases b; exact Or.inl rfl; exact Or.inr rfl
theorem zb_e0 {b : Bool} (h : zb_i b = 0) : b = false := by cases b; rfl; exact absurd h (by decide)
theorem zb_n0 {b : Bool} (h : ¬ zb_i b = 0) : b = true := by cases b; exact absurd rfl h; rfl
section AWD
variable {G : ag_T} {M : am_M} {fr lo kc ks pc : Nat} {lv : List (Nat × Value)} {st : List Value} {h : List va_E} {Q : aq_T}
/-- a contract under another end -/
theorem aw_to {Q' : aq_T} (k : aw_w G M fr lo kc ks pc lv st h Q') (hq : ∀ o h', Q' o h' → Q o h') : aw_w G M fr lo kc ks pc lv st h Q := aw_mono hq k
theorem aw_iaN (i : Nat) {n : Nat} {f : Nat → Int32} (j : Nat) (hd : decode M.2.2.1 pc = .ok (.iaload, 1)) (hh : h[i]? = some (.inl (G.2.2.1 0, n, .inl f))) (hj : j < n) (hn : n < 2 ^ 31) (k : aw_w G M fr lo kc ks (pc + 1) lv (.int (f j) :: st) h Q) : aw_w G M fr lo kc ks pc lv (.int (nI j) :: .ref (G.1 + i) :: st) h Q :=
  aw_iald i hd hh (vp_in_nI hj hn) (by rw [nI_clamp (by omega)]; exact k)
theorem aw_zaN (i : Nat) {n : Nat} {f : Nat → Int32} (j : Nat) (hd : decode M.2.2.1 pc = .ok (.baload, 1)) (hh : h[i]? = some (.inl (G.2.2.1 1, n, .inl f))) (hj : j < n) (hn : n < 2 ^ 31) (k : aw_w G M fr lo kc ks (pc + 1) lv (.int (f j) :: st) h Q) : aw_w G M fr lo kc ks pc lv (.int (nI j) :: .ref (G.1 + i) :: st) h Q :=
  aw_zald i hd hh (vp_in_nI hj hn) (by rw [nI_clamp (by omega)]; exact k)
theorem aw_isN (i : Nat) {n : Nat} {f : Nat → Int32} {x : Int32} (j : Nat) (hd : decode M.2.2.1 pc = .ok (.iastore, 1)) (hh : h[i]? = some (.inl (G.2.2.1 0, n, .inl f))) (hj : j < n) (hn : n < 2 ^ 31) (k : aw_w G M fr lo kc ks (pc + 1) lv st (h.set i (.inl (G.2.2.1 0, n, .inl (upd f j x)))) Q) : aw_w G M fr lo kc ks pc lv (.int x :: .int (nI j) :: .ref (G.1 + i) :: st) h Q :=
  aw_iast i hd hh (vp_in_nI hj hn) (by rw [nI_clamp (by omega)]; exact k)
theorem aw_zsN (i : Nat) {n : Nat} {f : Nat → Int32} {x : Int32} (j : Nat) (hd : decode M.2.2.1 pc = .ok (.bastore, 1)) (hh : h[i]? = some (.inl (G.2.2.1 1, n, .inl f))) (hj : j < n) (hn : n < 2 ^ 31) (hx : x = 0 ∨ x = 1) (k : aw_w G M fr lo kc ks (pc + 1) lv st (h.set i (.inl (G.2.2.1 1, n, .inl (upd f j x)))) Q) : aw_w G M fr lo kc ks pc lv (.int x :: .int (nI j) :: .ref (G.1 + i) :: st) h Q := by
  refine aw_zast i hd hh (vp_in_nI hj hn) ?_
  rw [nI_clamp (by omega), show vp_nar .boolean x = x by rcases hx with rfl | rfl <;> decide]
  exact k
theorem aw_cSi (Y : am_M) {idx fr' lo' kc1 ks1 : Nat} (kc' ks' : Nat) (as rest : List Value) {v : Int32} {h1 : List va_E} (hent : aw_w G Y fr' lo' kc1 ks1 0 (lv_args 0 as) [] h (q_i v h1)) (hd : decode M.2.2.1 pc = .ok (.invokestatic idx, 3)) (hC : aw_cs M.1 idx Y) (hY : aw_my Y) (hp : aw_np Y as.length) (hst : st = as.reverse ++ rest) (hf9 : fr' + 1 ≤ fr) (hk1 : kc = kc1 + kc') (hk2 : ks = ks1 + ks') (hrest : (rest.map fun v => v.category).sum + (Y.2.2.2.1 + 11) + lo' ≤ lo) (hlen : (lg_sl as).length ≤ Y.2.2.2.1) (k : aw_w G M fr lo kc' ks' (pc + 3) lv (.int v :: rest) h1 Q) : aw_w G M fr lo kc ks pc lv st h Q :=
  aw_callS Y as rest hd hC hY hp hst hf9 hk1 hk2 hrest hlen hent (fun v9 h9 hq => by obtain ⟨e1, e2⟩ := hq; cases e1; subst e2; exact k) (fun k9 c9 h9 hq => by cases hq.1)
theorem aw_cSr (Y : am_M) {idx fr' lo' kc1 ks1 : Nat} (kc' ks' : Nat) (as rest : List Value) {v : Value} {h1 : List va_E} (hent : aw_w G Y fr' lo' kc1 ks1 0 (lv_args 0 as) [] h (q_r v h1)) (hd : decode M.2.2.1 pc = .ok (.invokestatic idx, 3)) (hC : aw_cs M.1 idx Y) (hY : aw_my Y) (hp : aw_np Y as.length) (hst : st = as.reverse ++ rest) (hf9 : fr' + 1 ≤ fr) (hk1 : kc = kc1 + kc') (hk2 : ks = ks1 + ks') (hrest : (rest.map fun v => v.category).sum + (Y.2.2.2.1 + 11) + lo' ≤ lo) (hlen : (lg_sl as).length ≤ Y.2.2.2.1) (k : aw_w G M fr lo kc' ks' (pc + 3) lv (v :: rest) h1 Q) : aw_w G M fr lo kc ks pc lv st h Q :=
  aw_callS Y as rest hd hC hY hp hst hf9 hk1 hk2 hrest hlen hent (fun v9 h9 hq => by obtain ⟨e1, e2⟩ := hq; cases e1; subst e2; exact k) (fun k9 c9 h9 hq => by cases hq.1)
theorem aw_cSv (Y : am_M) {idx fr' lo' kc1 ks1 : Nat} (kc' ks' : Nat) (as rest : List Value) {h1 : List va_E} (hent : aw_w G Y fr' lo' kc1 ks1 0 (lv_args 0 as) [] h (q_v h1)) (hd : decode M.2.2.1 pc = .ok (.invokestatic idx, 3)) (hC : aw_cs M.1 idx Y) (hY : aw_my Y) (hp : aw_np Y as.length) (hst : st = as.reverse ++ rest) (hf9 : fr' + 1 ≤ fr) (hk1 : kc = kc1 + kc') (hk2 : ks = ks1 + ks') (hrest : (rest.map fun v => v.category).sum + (Y.2.2.2.1 + 11) + lo' ≤ lo) (hlen : (lg_sl as).length ≤ Y.2.2.2.1) (k : aw_w G M fr lo kc' ks' (pc + 3) lv (rest) h1 Q) : aw_w G M fr lo kc ks pc lv st h Q :=
  aw_callS Y as rest hd hC hY hp hst hf9 hk1 hk2 hrest hlen hent (fun v9 h9 hq => by obtain ⟨e1, e2⟩ := hq; cases e1; subst e2; exact k) (fun k9 c9 h9 hq => by cases hq.1)
theorem aw_cSx (Y : am_M) {idx fr' lo' kc1 ks1 : Nat} (kc' ks' : Nat) (as rest : List Value) {cx : Nat} {h1 : List va_E} (hent : aw_w G Y fr' lo' kc1 ks1 0 (lv_args 0 as) [] h (q_x cx h1)) (hd : decode M.2.2.1 pc = .ok (.invokestatic idx, 3)) (hC : aw_cs M.1 idx Y) (hY : aw_my Y) (hp : aw_np Y as.length) (hst : st = as.reverse ++ rest) (hf9 : fr' + 1 ≤ fr) (hk1 : kc = kc1 + kc') (hk2 : ks = ks1 + ks') (hrest : (rest.map fun v => v.category).sum + (Y.2.2.2.1 + 11) + lo' ≤ lo) (hlen : (lg_sl as).length ≤ Y.2.2.2.1) (k : ∀ k9 : Nat, aw_x G M fr lo kc' ks' pc lv rest h1 k9 cx Q) : aw_w G M fr lo kc ks pc lv st h Q :=
  aw_callS Y as rest hd hC hY hp hst hf9 hk1 hk2 hrest hlen hent (fun v9 h9 hq => by cases hq.1) (fun k9 c9 h9 hq => by obtain ⟨e1, e2⟩ := hq; cases e1; subst e2; exact k k9)
theorem aw_cNi (Y : am_M) {idx fr' lo' kc1 ks1 : Nat} (kc' ks' : Nat) (host : String) (as rest : List Value) {v : Int32} {h1 : List va_E} (hent : aw_w G Y fr' lo' kc1 ks1 0 (lv_args 0 as) [] h (q_i v h1)) (hd : decode M.2.2.1 pc = .ok (.invokestatic idx, 3)) (hC : aw_cn M.1 idx host Y) (hY : aw_my Y) (hp : aw_np Y as.length) (hst : st = as.reverse ++ rest) (hf9 : fr' + 1 ≤ fr) (hk1 : kc = kc1 + kc') (hk2 : ks = ks1 + ks') (hrest : (rest.map fun v => v.category).sum + (Y.2.2.2.1 + 11) + lo' ≤ lo) (hlen : (lg_sl as).length ≤ Y.2.2.2.1) (k : aw_w G M fr lo kc' ks' (pc + 3) lv (.int v :: rest) h1 Q) : aw_w G M fr lo kc ks pc lv st h Q :=
  aw_callSN Y host as rest hd hC hY hp hst hf9 hk1 hk2 hrest hlen hent (fun v9 h9 hq => by obtain ⟨e1, e2⟩ := hq; cases e1; subst e2; exact k) (fun k9 c9 h9 hq => by cases hq.1)
theorem aw_cNr (Y : am_M) {idx fr' lo' kc1 ks1 : Nat} (kc' ks' : Nat) (host : String) (as rest : List Value) {v : Value} {h1 : List va_E} (hent : aw_w G Y fr' lo' kc1 ks1 0 (lv_args 0 as) [] h (q_r v h1)) (hd : decode M.2.2.1 pc = .ok (.invokestatic idx, 3)) (hC : aw_cn M.1 idx host Y) (hY : aw_my Y) (hp : aw_np Y as.length) (hst : st = as.reverse ++ rest) (hf9 : fr' + 1 ≤ fr) (hk1 : kc = kc1 + kc') (hk2 : ks = ks1 + ks') (hrest : (rest.map fun v => v.category).sum + (Y.2.2.2.1 + 11) + lo' ≤ lo) (hlen : (lg_sl as).length ≤ Y.2.2.2.1) (k : aw_w G M fr lo kc' ks' (pc + 3) lv (v :: rest) h1 Q) : aw_w G M fr lo kc ks pc lv st h Q :=
  aw_callSN Y host as rest hd hC hY hp hst hf9 hk1 hk2 hrest hlen hent (fun v9 h9 hq => by obtain ⟨e1, e2⟩ := hq; cases e1; subst e2; exact k) (fun k9 c9 h9 hq => by cases hq.1)
theorem aw_cNv (Y : am_M) {idx fr' lo' kc1 ks1 : Nat} (kc' ks' : Nat) (host : String) (as rest : List Value) {h1 : List va_E} (hent : aw_w G Y fr' lo' kc1 ks1 0 (lv_args 0 as) [] h (q_v h1)) (hd : decode M.2.2.1 pc = .ok (.invokestatic idx, 3)) (hC : aw_cn M.1 idx host Y) (hY : aw_my Y) (hp : aw_np Y as.length) (hst : st = as.reverse ++ rest) (hf9 : fr' + 1 ≤ fr) (hk1 : kc = kc1 + kc') (hk2 : ks = ks1 + ks') (hrest : (rest.map fun v => v.category).sum + (Y.2.2.2.1 + 11) + lo' ≤ lo) (hlen : (lg_sl as).length ≤ Y.2.2.2.1) (k : aw_w G M fr lo kc' ks' (pc + 3) lv (rest) h1 Q) : aw_w G M fr lo kc ks pc lv st h Q :=
  aw_callSN Y host as rest hd hC hY hp hst hf9 hk1 hk2 hrest hlen hent (fun v9 h9 hq => by obtain ⟨e1, e2⟩ := hq; cases e1; subst e2; exact k) (fun k9 c9 h9 hq => by cases hq.1)
theorem aw_cNx (Y : am_M) {idx fr' lo' kc1 ks1 : Nat} (kc' ks' : Nat) (host : String) (as rest : List Value) {cx : Nat} {h1 : List va_E} (hent : aw_w G Y fr' lo' kc1 ks1 0 (lv_args 0 as) [] h (q_x cx h1)) (hd : decode M.2.2.1 pc = .ok (.invokestatic idx, 3)) (hC : aw_cn M.1 idx host Y) (hY : aw_my Y) (hp : aw_np Y as.length) (hst : st = as.reverse ++ rest) (hf9 : fr' + 1 ≤ fr) (hk1 : kc = kc1 + kc') (hk2 : ks = ks1 + ks') (hrest : (rest.map fun v => v.category).sum + (Y.2.2.2.1 + 11) + lo' ≤ lo) (hlen : (lg_sl as).length ≤ Y.2.2.2.1) (k : ∀ k9 : Nat, aw_x G M fr lo kc' ks' pc lv rest h1 k9 cx Q) : aw_w G M fr lo kc ks pc lv st h Q :=
  aw_callSN Y host as rest hd hC hY hp hst hf9 hk1 hk2 hrest hlen hent (fun v9 h9 hq => by cases hq.1) (fun k9 c9 h9 hq => by obtain ⟨e1, e2⟩ := hq; cases e1; subst e2; exact k k9)
theorem aw_cVi (Y : am_M) {idx fr' lo' kc1 ks1 : Nat} (kc' ks' : Nat) (i ci : Nat) (as rest : List Value) {fs : List Value} {v : Int32} {h1 : List va_E} (hent : aw_w G Y fr' lo' kc1 ks1 0 (lv_args 0 (.ref (G.1 + i) :: as)) [] h (q_i v h1)) (hd : decode M.2.2.1 pc = .ok (.invokevirtual idx, 3)) (hC : aw_cv M.1 idx Y) (hY : aw_my Y) (hp : aw_np Y as.length) (hh : h[i]? = some (.inr (ci, fs))) (hci : (am_cl[ci]?).map (·.1) = some Y.2.1.cls) (hst : st = as.reverse ++ .ref (G.1 + i) :: rest) (hf9 : fr' + 1 ≤ fr) (hk1 : kc = kc1 + kc') (hk2 : ks = ks1 + ks') (hrest : (rest.map fun v => v.category).sum + (Y.2.2.2.1 + 11) + lo' ≤ lo) (hlen : (lg_sl (.ref (G.1 + i) :: as)).length ≤ Y.2.2.2.1) (k : aw_w G M fr lo kc' ks' (pc + 3) lv (.int v :: rest) h1 Q) : aw_w G M fr lo kc ks pc lv st h Q :=
  aw_callV Y i ci as rest hd hC hY hp hh hci hst hf9 hk1 hk2 hrest hlen hent (fun v9 h9 hq => by obtain ⟨e1, e2⟩ := hq; cases e1; subst e2; exact k) (fun k9 c9 h9 hq => by cases hq.1)
theorem aw_cVr (Y : am_M) {idx fr' lo' kc1 ks1 : Nat} (kc' ks' : Nat) (i ci : Nat) (as rest : List Value) {fs : List Value} {v : Value} {h1 : List va_E} (hent : aw_w G Y fr' lo' kc1 ks1 0 (lv_args 0 (.ref (G.1 + i) :: as)) [] h (q_r v h1)) (hd : decode M.2.2.1 pc = .ok (.invokevirtual idx, 3)) (hC : aw_cv M.1 idx Y) (hY : aw_my Y) (hp : aw_np Y as.length) (hh : h[i]? = some (.inr (ci, fs))) (hci : (am_cl[ci]?).map (·.1) = some Y.2.1.cls) (hst : st = as.reverse ++ .ref (G.1 + i) :: rest) (hf9 : fr' + 1 ≤ fr) (hk1 : kc = kc1 + kc') (hk2 : ks = ks1 + ks') (hrest : (rest.map fun v => v.category).sum + (Y.2.2.2.1 + 11) + lo' ≤ lo) (hlen : (lg_sl (.ref (G.1 + i) :: as)).length ≤ Y.2.2.2.1) (k : aw_w G M fr lo kc' ks' (pc + 3) lv (v :: rest) h1 Q) : aw_w G M fr lo kc ks pc lv st h Q :=
  aw_callV Y i ci as rest hd hC hY hp hh hci hst hf9 hk1 hk2 hrest hlen hent (fun v9 h9 hq => by obtain ⟨e1, e2⟩ := hq; cases e1; subst e2; exact k) (fun k9 c9 h9 hq => by cases hq.1)
theorem aw_cVv (Y : am_M) {idx fr' lo' kc1 ks1 : Nat} (kc' ks' : Nat) (i ci : Nat) (as rest : List Value) {fs : List Value} {h1 : List va_E} (hent : aw_w G Y fr' lo' kc1 ks1 0 (lv_args 0 (.ref (G.1 + i) :: as)) [] h (q_v h1)) (hd : decode M.2.2.1 pc = .ok (.invokevirtual idx, 3)) (hC : aw_cv M.1 idx Y) (hY : aw_my Y) (hp : aw_np Y as.length) (hh : h[i]? = some (.inr (ci, fs))) (hci : (am_cl[ci]?).map (·.1) = some Y.2.1.cls) (hst : st = as.reverse ++ .ref (G.1 + i) :: rest) (hf9 : fr' + 1 ≤ fr) (hk1 : kc = kc1 + kc') (hk2 : ks = ks1 + ks') (hrest : (rest.map fun v => v.category).sum + (Y.2.2.2.1 + 11) + lo' ≤ lo) (hlen : (lg_sl (.ref (G.1 + i) :: as)).length ≤ Y.2.2.2.1) (k : aw_w G M fr lo kc' ks' (pc + 3) lv (rest) h1 Q) : aw_w G M fr lo kc ks pc lv st h Q :=
  aw_callV Y i ci as rest hd hC hY hp hh hci hst hf9 hk1 hk2 hrest hlen hent (fun v9 h9 hq => by obtain ⟨e1, e2⟩ := hq; cases e1; subst e2; exact k) (fun k9 c9 h9 hq => by cases hq.1)
theorem aw_cVx (Y : am_M) {idx fr' lo' kc1 ks1 : Nat} (kc' ks' : Nat) (i ci : Nat) (as rest : List Value) {fs : List Value} {cx : Nat} {h1 : List va_E} (hent : aw_w G Y fr' lo' kc1 ks1 0 (lv_args 0 (.ref (G.1 + i) :: as)) [] h (q_x cx h1)) (hd : decode M.2.2.1 pc = .ok (.invokevirtual idx, 3)) (hC : aw_cv M.1 idx Y) (hY : aw_my Y) (hp : aw_np Y as.length) (hh : h[i]? = some (.inr (ci, fs))) (hci : (am_cl[ci]?).map (·.1) = some Y.2.1.cls) (hst : st = as.reverse ++ .ref (G.1 + i) :: rest) (hf9 : fr' + 1 ≤ fr) (hk1 : kc = kc1 + kc') (hk2 : ks = ks1 + ks') (hrest : (rest.map fun v => v.category).sum + (Y.2.2.2.1 + 11) + lo' ≤ lo) (hlen : (lg_sl (.ref (G.1 + i) :: as)).length ≤ Y.2.2.2.1) (k : ∀ k9 : Nat, aw_x G M fr lo kc' ks' pc lv rest h1 k9 cx Q) : aw_w G M fr lo kc ks pc lv st h Q :=
  aw_callV Y i ci as rest hd hC hY hp hh hci hst hf9 hk1 hk2 hrest hlen hent (fun v9 h9 hq => by cases hq.1) (fun k9 c9 h9 hq => by obtain ⟨e1, e2⟩ := hq; cases e1; subst e2; exact k k9)
theorem aw_cIv (Y : am_M) {idx fr' lo' kc1 ks1 : Nat} (kc' ks' : Nat) (i : Nat) (as rest : List Value) {h1 : List va_E} (hent : aw_w G Y fr' lo' kc1 ks1 0 (lv_args 0 (.ref (G.1 + i) :: as)) [] h (q_v h1)) (hd : decode M.2.2.1 pc = .ok (.invokespecial idx, 3)) (hC : aw_ci M.1 idx Y) (hY : aw_my Y) (hp : aw_np Y as.length) (hst : st = as.reverse ++ .ref (G.1 + i) :: rest) (hf9 : fr' + 1 ≤ fr) (hk1 : kc = kc1 + kc') (hk2 : ks = ks1 + ks') (hrest : (rest.map fun v => v.category).sum + (Y.2.2.2.1 + 11) + lo' ≤ lo) (hlen : (lg_sl (.ref (G.1 + i) :: as)).length ≤ Y.2.2.2.1) (k : aw_w G M fr lo kc' ks' (pc + 3) lv (rest) h1 Q) : aw_w G M fr lo kc ks pc lv st h Q :=
  aw_callI Y i as rest hd hC hY hp hst hf9 hk1 hk2 hrest hlen hent (fun v9 h9 hq => by obtain ⟨e1, e2⟩ := hq; cases e1; subst e2; exact k) (fun k9 c9 h9 hq => by cases hq.1)
theorem aw_cIx (Y : am_M) {idx fr' lo' kc1 ks1 : Nat} (kc' ks' : Nat) (i : Nat) (as rest : List Value) {cx : Nat} {h1 : List va_E} (hent : aw_w G Y fr' lo' kc1 ks1 0 (lv_args 0 (.ref (G.1 + i) :: as)) [] h (q_x cx h1)) (hd : decode M.2.2.1 pc = .ok (.invokespecial idx, 3)) (hC : aw_ci M.1 idx Y) (hY : aw_my Y) (hp : aw_np Y as.length) (hst : st = as.reverse ++ .ref (G.1 + i) :: rest) (hf9 : fr' + 1 ≤ fr) (hk1 : kc = kc1 + kc') (hk2 : ks = ks1 + ks') (hrest : (rest.map fun v => v.category).sum + (Y.2.2.2.1 + 11) + lo' ≤ lo) (hlen : (lg_sl (.ref (G.1 + i) :: as)).length ≤ Y.2.2.2.1) (k : ∀ k9 : Nat, aw_x G M fr lo kc' ks' pc lv rest h1 k9 cx Q) : aw_w G M fr lo kc ks pc lv st h Q :=
  aw_callI Y i as rest hd hC hY hp hst hf9 hk1 hk2 hrest hlen hent (fun v9 h9 hq => by cases hq.1) (fun k9 c9 h9 hq => by obtain ⟨e1, e2⟩ := hq; cases e1; subst e2; exact k k9)
/-- the script -/
theorem aw_sld {j : Nat} (hd : decode M.2.2.1 pc = .ok (.iaload, 1)) (hj : j < G.2.2.2.1.2.1) (hL : G.2.2.2.1.2.1 < 2 ^ 31) (k : aw_w G M fr lo kc ks (pc + 1) lv (.int (G.2.2.2.1.2.2 j) :: st) h Q) : aw_w G M fr lo kc ks pc lv (.int (nI j) :: .ref G.2.2.2.1.1 :: st) h Q := by
  intro p l e R s m args below meth c H locs cells slots mc ms ls C hl hR hO hS hG h1 h2 h3 h4
  obtain ⟨hx, hb, hml, hown, hts, hret, htab, hlk, hnm, hst9, hK, hfr, hlo⟩ := id C
  obtain ⟨o1, o2, -⟩ := id hO
  refine va_sld hx hb o1 (Nat.lt_of_lt_of_le o2 hG) (Nat.not_le.mpr o2) hS (vp_in_nI hj hL) hd ?_
  rw [nI_clamp (by omega)]
  exact k p l e R s m args below meth c H locs cells slots mc ms ls C hl hR hO hS hG h1 h2 h3 h4
theorem aw_slen (hd : decode M.2.2.1 pc = .ok (.arraylength, 1)) (k : aw_w G M fr lo kc ks (pc + 1) lv (.int (nI G.2.2.2.1.2.1) :: st) h Q) : aw_w G M fr lo kc ks pc lv (.ref G.2.2.2.1.1 :: st) h Q := by
  intro p l e R s m args below meth c H locs cells slots mc ms ls C hl hR hO hS hG h1 h2 h3 h4
  obtain ⟨hx, hb, hml, hown, hts, hret, htab, hlk, hnm, hst9, hK, hfr, hlo⟩ := id C
  obtain ⟨o1, o2, -⟩ := id hO
  exact va_slen hx hb o1 (Nat.lt_of_lt_of_le o2 hG) (Nat.not_le.mpr o2) hS hd (k p l e R s m args below meth c H locs cells slots mc ms ls C hl hR hO hS hG h1 h2 h3 h4)
/-- ArrayList's empty array: the static, its length -/
theorem aw_gets {idx : Nat} (hd : decode M.2.2.1 pc = .ok (.getstatic idx, 3)) (hw : Cond.fieldLink M.1 idx "java/util/ArrayList" "DEFAULTCAPACITY_EMPTY_ELEMENTDATA" "[Ljava/lang/Object;" ∈ aw_T) (k : aw_w G M fr lo kc ks (pc + 3) lv (.ref G.2.2.2.2 :: st) h Q) : aw_w G M fr lo kc ks pc lv st h Q := by
  intro p l e R s m args below meth c H locs cells slots mc ms ls C hl hR hO hS hG h1 h2 h3 h4
  obtain ⟨hx, hb, hml, hown, hts, hret, htab, hlk, hnm, hst9, hK, hfr, hlo⟩ := id C
  obtain ⟨o1, o2, o3, o4, o5, o6⟩ := id hO
  exact va_gets hx hb o5 hS hown (hts _ hw) (fun x9 h9 => h9) hd (k p l e R s m args below meth c H locs cells slots mc ms ls C hl hR hO hS hG h1 h2 h3 h4)
theorem aw_elen (hd : decode M.2.2.1 pc = .ok (.arraylength, 1)) (k : aw_w G M fr lo kc ks (pc + 1) lv (.int 0 :: st) h Q) : aw_w G M fr lo kc ks pc lv (.ref G.2.2.2.2 :: st) h Q := by
  intro p l e R s m args below meth c H locs cells slots mc ms ls C hl hR hO hS hG h1 h2 h3 h4
  obtain ⟨hx, hb, hml, hown, hts, hret, htab, hlk, hnm, hst9, hK, hfr, hlo⟩ := id C
  obtain ⟨o1, o2, o3, o4, o5, cell, ty, e1, e2, e3, e4⟩ := id hO
  exact W.alen (n := 0) hx hb (by rw [hS.2.1 _ (Array.getElem?_eq_some_iff.mp e1).1 e4]; exact e1) e2 (by rw [e3]; rfl) rfl rfl hd (k p l e R s m args below meth c H locs cells slots mc ms ls C hl hR hO hS hG h1 h2 h3 h4)
/-- new Object[n], a reference stored in it -/
theorem aw_newq {idx : Nat} {n : Int32} {N kc' ks' : Nat} (hd : decode M.2.2.1 pc = .ok (.anewarray idx, 3)) (hw : Cond.classLink M.1 idx "java/lang/Object" ∈ aw_T) (hn : ¬ n < 0) (hN : n.toNatClampNeg = N) (hb9 : N ≤ 100000) (hk1 : kc = kc' + 1) (hk2 : ks = ks' + N)
    (k : aw_w G M fr lo kc' ks' (pc + 3) lv (.ref (G.1 + h.length) :: st) (h ++ [.inl (G.2.2.1 3, N, .inr (.inr (.inr (.inr (fun _ => none)))))]) Q) : aw_w G M fr lo kc ks pc lv (.int n :: st) h Q := by
  intro p l e R s m args below meth c H locs cells slots mc ms ls C hl hR hO hS hG h1 h2 h3 h4
  obtain ⟨hx, hb, hml, hown, hts, hret, htab, hlk, hnm, hst9, hK, hfr, hlo⟩ := id C
  subst hN
  refine W.anew hx hb hown (hts _ hw) (va_AO.use hK.2.2.2.2) rfl hd rfl hn (by omega) (by omega) (by omega) fun cA kA comp f1 f2 f3 f4 => ?_
  have hcA : cA = G.2.2.1 3 := by
    obtain ⟨kA9, comp9, g1, g2, g3, g4⟩ := (hK.1.2 3 _ rfl).2
    exact Option.some.inj (f1.symm.trans g4)
  subst hcA
  generalize hH1 : H.push ({ cls := G.2.2.1 3, slots := Array.replicate n.toNatClampNeg .null, vm := .none } : Cell) = H1
  have z1 : H1.size = H.size + 1 := by rw [← hH1, Array.size_push]
  have e1 : H1[H.size]? = some (arrV (G.2.2.1 3) n.toNatClampNeg (fun _ => .null)) := by rw [← hH1, Array.getElem?_push_size, ← arrV_new]
  have o1 : ∀ q : Nat, q < H.size → H1[q]? = H[q]? := fun q hq => by rw [← hH1, Array.getElem?_push, if_neg (Nat.ne_of_lt hq)]
  have eH : H.size = G.1 + h.length := hR.2
  rw [eH]
  refine k p l e R s m args below meth c H1 locs (cells + 1) (slots + n.toNatClampNeg) mc ms ls C hl (hR.push z1 o1 ?_) hO (aw_Sp hS (by omega) o1) hG (by omega) (by omega) h3 h4
  show H1[G.1 + h.length]? = some (vp_cell _ _)
  rw [vp_cell_q, ← eH]
  exact e1
theorem aw_aast (i i2 ci : Nat) {n : Nat} {f : Nat → Option Nat} {fs : List Value} (j : Nat) (hd : decode M.2.2.1 pc = .ok (.aastore, 1)) (hh : h[i]? = some (.inl (G.2.2.1 3, n, .inr (.inr (.inr (.inr f)))))) (h2 : h[i2]? = some (.inr (ci, fs))) (hc9 : ∃ r, am_cl[ci]? = some r ∧ Cond.castable r.1 "java/lang/Object" ∈ aw_N) (hj : j < n) (hn : n < 2 ^ 31)
    (k : aw_w G M fr lo kc ks (pc + 1) lv st (h.set i (.inl (G.2.2.1 3, n, .inr (.inr (.inr (.inr (va_up f j (some (G.1 + i2)))))))) ) Q) : aw_w G M fr lo kc ks pc lv (.ref (G.1 + i2) :: .int (nI j) :: .ref (G.1 + i) :: st) h Q := by
  intro p l e R s m args below meth c H locs cells slots mc ms ls C hl hR hO hS hG h1 h2' h3 h4
  obtain ⟨hx, hb, hml, hown, hts, hret, htab, hlk, hnm, hst9, hK, hfr, hlo⟩ := id C
  have ecl : (nI j).toNatClampNeg = j := nI_clamp (by omega)
  obtain ⟨r, hr, hca⟩ := hc9
  obtain ⟨r', hr', cellV, g1, g2, g3, -⟩ := hR.cell h2
  have hcls := (hK.1.1 ci r hr).2
  obtain ⟨kA, comp, k1, k2, k3, -⟩ := (hK.1.2 3 _ rfl).2
  obtain ⟨kE, hkE, -⟩ := Vm.findClass_spec k3
  obtain ⟨c0, t1, f1, f2, f3⟩ := Cond.castable_spec (va_Nw.use (A := args) rfl (hK.2.1 _ hca))
  cases Option.some.inj (hcls.1.symm.trans f1)
  cases Option.some.inj (k3.symm.trans f2)
  obtain ⟨kC, hkC, -⟩ := hcls.2
  refine W.aast hx hb (hR.cell hh) (fun q h9 => by cases h9) (fun h9 => by cases h9) k1 k2 rfl hkE ⟨nI_pos (by omega), by show _ < (arrV _ _ _).slots.size; rw [arrV_size, ecl]; exact hj⟩ g1 (fun q h9 => by rw [g3] at h9; cases h9) (by rw [g2]; exact hkC) (by rw [g2]; exact f3) rfl rfl hd fun H1 e1 z oq => ?_
  refine k p l e R s m args below meth c H1 _ cells slots mc ms ls C hl (hR.set hh z oq ?_) hO (hS.put z oq (Nat.le_add_right _ _)) hG h1 h2' h3 h4
  show H1[G.1 + i]? = some (vp_cell _ _)
  rw [e1, ecl, vp_cell_q, vp_cell_q, arrV_store]
  congr 2
  funext q
  by_cases hq : q = j
  · subst hq
    simp [updV, va_up, va_rf]
  · simp [updV, va_up, hq]
theorem aw_cast (i ci : Nat) {idx : Nat} {nm : String} {fs : List Value} (hd : decode M.2.2.1 pc = .ok (.checkcast idx, 3)) (hw : Cond.classLink M.1 idx nm ∈ aw_T) (hh : h[i]? = some (.inr (ci, fs))) (hc9 : ∃ r, am_cl[ci]? = some r ∧ Cond.castable r.1 nm ∈ aw_N) (k : aw_w G M fr lo kc ks (pc + 3) lv (.ref (G.1 + i) :: st) h Q) : aw_w G M fr lo kc ks pc lv (.ref (G.1 + i) :: st) h Q := by
  intro p l e R s m args below meth c H locs cells slots mc ms ls C hl hR hO hS hG h1 h2 h3 h4
  obtain ⟨hx, hb, hml, hown, hts, hret, htab, hlk, hnm, hst9, hK, hfr, hlo⟩ := id C
  obtain ⟨r, hr, hca⟩ := hc9
  obtain ⟨r', hr', cellV, g1, g2, g3, -⟩ := hR.cell hh
  exact va_castY hx hb hown (hts _ hw) (hK.2.1 _ hca) ⟨cellV, g1, by rw [g3]; rfl, by rw [g2]; exact (hK.1.1 ci r hr).2.1⟩ hd (k p l e R s m args below meth c H locs cells slots mc ms ls C hl hR hO hS hG h1 h2 h3 h4)
theorem aw_ldcw {idx : Nat} {v : Int32} (hd : decode M.2.2.1 pc = .ok (.ldc_w idx, 3)) (hw : Cond.constant M.1 idx v ∈ aw_T) (k : aw_w G M fr lo kc ks (pc + 3) lv (.int v :: st) h Q) : aw_w G M fr lo kc ks pc lv st h Q := by
  intro p l e R s m args below meth c H locs cells slots mc ms ls C hl hR hO hS hG h1 h2 h3 h4
  obtain ⟨hx, hb, hml, hown, hts, hret, htab, hlk, hnm, hst9, hK, hfr, hlo⟩ := id C
  exact lv_ldcw hx hb hown (hts _ hw) hd (k p l e R s m args below meth c H locs cells slots mc ms ls C hl hR hO hS hG h1 h2 h3 h4)
end AWD
