/-! ===== the abstract walk: fields, arrays, new cells, returns ===== -/
def aw_fl (own : String) (idx ci fi : Nat) : Prop := ∃ (r : vw_C) (ref : String), am_cl[ci]? = some r ∧ fi < r.2.2 ∧ Cond.fieldLink own idx ref (r.2.1 fi).2.1 (r.2.1 fi).2.2.1 ∈ aw_T ∧ (ref = (r.2.1 fi).1 ∨ Cond.sameField ref (r.2.1 fi).1 (r.2.1 fi).2.1 (r.2.1 fi).2.2.1 ∈ aw_T)
def aw_nf (ci fi : Nat) : Prop := ∀ r, am_cl[ci]? = some r → (r.2.1 fi).2.2.2 = false
def aw_ff (own : String) (ci fi : Nat) : Prop := ∀ r, am_cl[ci]? = some r → (r.2.1 fi).2.2.2 = true ∧ (r.2.1 fi).1 = own
def aw_nl (own : String) (idx ci N : Nat) : Prop := ∃ r : vw_C, am_cl[ci]? = some r ∧ r.2.2 = N ∧ Cond.classLink own idx r.1 ∈ aw_T ∧ Cond.instantiable r.1 r.2.2 ∈ aw_T ∧ Cond.initialized r.1 ∈ aw_T
theorem aw_Sp {A : Nat → Prop} {H0 H H1 : Heap} {locs : List Loc} (hS : va_S A H0 H locs) (hz : H.size ≤ H1.size) (ho : ∀ q : Nat, q < H.size → H1[q]? = H[q]?) : va_S A H0 H1 locs :=
  ⟨Nat.le_trans hS.1 hz, fun x a b => (ho x (Nat.lt_of_lt_of_le a hS.1)).trans (hS.2.1 x a b), hS.2.2⟩
section AWH
variable {G : ag_T} {M : am_M} {fr lo kc ks pc : Nat} {lv : List (Nat × Value)} {st : List Value} {h : List va_E} {Q : aq_T}
theorem aw_getf (i ci fi : Nat) {idx : Nat} {fs : List Value} {v : Value} (hd : decode M.2.2.1 pc = .ok (.getfield idx, 3)) (hF : aw_fl M.1 idx ci fi) (hh : h[i]? = some (.inr (ci, fs))) (hv : fs[fi]? = some v)
    (k : aw_w G M fr lo kc ks (pc + 3) lv (v :: st) h Q) : aw_w G M fr lo kc ks pc lv (.ref (G.1 + i) :: st) h Q := by
  intro p l e R s m args below meth c H locs cells slots mc ms ls C hl hR hO hS hG h1 h2 h3 h4
  obtain ⟨hx, hb, hml, hown, hts, hret, htab, hlk, hnm, hst9, hK, hfr, hlo⟩ := id C
  obtain ⟨⟨C0, T0, N0⟩, ref, hc, hk, hlink, hsame⟩ := hF
  refine va_get (D := G.2.1) (cl := am_cl) (tys := ag_ty G) (ws := ah_ws G 0 h) (C := C0) (T := T0) (N := N0) hx hb hts (am_ok ci _ hc).1 hown hK.1 hR.1 i (ah_at hh) hc fi hk (hts _ hlink) (fun x9 h9 => ?_) hv hd
    (k p l e R s m args below meth c H locs cells slots mc ms ls C hl hR hO hS hG h1 h2 h3 h4)
  rcases hsame with e9 | e9
  · rw [e9]; exact h9
  · exact u_same (hts _ e9) x9 h9
theorem aw_putf (i ci fi : Nat) {idx : Nat} {fs : List Value} {v : Value} (hd : decode M.2.2.1 pc = .ok (.putfield idx, 3)) (hF : aw_fl M.1 idx ci fi) (hfin : aw_nf ci fi) (hh : h[i]? = some (.inr (ci, fs))) (hn : narrow (am_ty ci fi) v = v) (hfit : fits (am_ty ci fi) v = true) (hl9 : fi < fs.length)
    (k : aw_w G M fr lo kc ks (pc + 3) lv st (h.set i (.inr (ci, fs.set fi v))) Q) : aw_w G M fr lo kc ks pc lv (v :: .ref (G.1 + i) :: st) h Q := by
  intro p l e R s m args below meth c H locs cells slots mc ms ls C hl hR hO hS hG h1 h2 h3 h4
  obtain ⟨hx, hb, hml, hown, hts, hret, htab, hlk, hnm, hst9, hK, hfr, hlo⟩ := id C
  obtain ⟨⟨C0, T0, N0⟩, ref, hc, hk, hlink, hsame⟩ := hF
  obtain ⟨ok1, ok2, ok3⟩ := am_ok ci _ hc
  have hap := va_apart (own := M.1) hts ok1 (am_ty ci) ok2 ok3 hK.1 hc
  obtain ⟨r, e1, cell, q1, q2, q3, q4⟩ := hR.cell hh
  have hr : r = (C0, T0, N0) := Option.some.inj (e1.symm.trans hc)
  subst hr
  obtain ⟨hS1, hfc, kC, hkC, hkind⟩ := hK.1.1 ci _ hc
  obtain ⟨cf, kf, fi9, f, hi, hsl⟩ := hS1 fi hk
  have hlay := hts _ (ok1 _ (u_in_lay hk))
  unfold u_lay at hlay
  rw [if_neg (by rw [hfin _ hc]; decide)] at hlay
  have hst0 := (u_facts hfc hkC (u_lays hts ok1 hk) hi).1
  have h6 := u_store hfc hkC hkind hlay hi (ok2 fi hk) hn hfit
  have hsm : s.fieldFound? ref (T0 fi).2.1 (T0 fi).2.2.1 = some (cf, kf, fi9, f) := by
    rcases hsame with e9 | e9
    · rw [e9]; exact hi
    · exact u_same (hts _ e9) _ hi
  refine W.putK hx hb (f := f) ⟨hown, hts _ hlink, ⟨_, _, _, hsm⟩, hst0⟩ (by rw [q2]; exact h6) q1 q3 (by rw [hsl]; exact k2_hasslot (q4 fi hk)) rfl rfl hd fun H' e1 e2 e3 => ?_
  rw [hsl] at e1 ⊢
  exact k p l e R s m args below meth c H' _ cells slots mc ms ls C hl (hR.set hh e2 e3 ⟨_, hc, t_OB.to (V := updV (vp_V fs) fi v) ⟨_, e1, q2, q3, t_set q4 hap hk v⟩ (fun j _ => vp_updV_set hl9 v j)⟩) hO (hS.put e2 e3 (Nat.le_add_right _ _)) hG h1 h2 h3 h4
theorem aw_putF (i ci fi : Nat) {idx : Nat} {fs : List Value} {v : Value} (hd : decode M.2.2.1 pc = .ok (.putfield idx, 3)) (hF : aw_fl M.1 idx ci fi) (hfin : aw_ff M.1 ci fi) (hin : M.2.1.name = "<init>") (hh : h[i]? = some (.inr (ci, fs))) (hn : narrow (am_ty ci fi) v = v) (hfit : fits (am_ty ci fi) v = true) (hl9 : fi < fs.length)
    (k : aw_w G M fr lo kc ks (pc + 3) lv st (h.set i (.inr (ci, fs.set fi v))) Q) : aw_w G M fr lo kc ks pc lv (v :: .ref (G.1 + i) :: st) h Q := by
  intro p l e R s m args below meth c H locs cells slots mc ms ls C hl hR hO hS hG h1 h2 h3 h4
  obtain ⟨hx, hb, hml, hown, hts, hret, htab, hlk, hnm, hst9, hK, hfr, hlo⟩ := id C
  obtain ⟨⟨C0, T0, N0⟩, ref, hc, hk, hlink, hsame⟩ := hF
  obtain ⟨ok1, ok2, ok3⟩ := am_ok ci _ hc
  have hap := va_apart (own := M.1) hts ok1 (am_ty ci) ok2 ok3 hK.1 hc
  obtain ⟨r, e1, cell, q1, q2, q3, q4⟩ := hR.cell hh
  have hr : r = (C0, T0, N0) := Option.some.inj (e1.symm.trans hc)
  subst hr
  obtain ⟨hS1, hfc, kC, hkC, hkind⟩ := hK.1.1 ci _ hc
  obtain ⟨cf, kf, fi9, f, hi, hsl⟩ := hS1 fi hk
  have hlay := hts _ (ok1 _ (u_in_lay hk))
  unfold u_lay at hlay
  rw [if_pos (hfin _ hc).1] at hlay
  have hst0 := (u_facts hfc hkC (u_lays hts ok1 hk) hi).1
  have hcf : m.cls = cf := by
    obtain ⟨_, _, c', _, _, _, -, -, hf', -, -, -, hown2, -⟩ := Cond.laysFinal_spec hlay
    have e1 : c' = cf := by have := hi.symm.trans hf'; simp at this; exact this.1.symm
    have e4 : (T0 fi).1 = M.1 := (hfin _ hc).2
    rw [e4] at hown2
    rw [← e1]; exact Option.some.inj (hown.symm.trans hown2)
  have h6 := u_fits hfc hkC hkind (Or.inr hlay) hi (ok2 fi hk) hn hfit
  have hsm : s.fieldFound? ref (T0 fi).2.1 (T0 fi).2.2.1 = some (cf, kf, fi9, f) := by
    rcases hsame with e9 | e9
    · rw [e9]; exact hi
    · exact u_same (hts _ e9) _ hi
  refine W.putFinK hx hb hown (hts _ hlink) hsm hst0 hcf (hnm.trans hin) (by rw [q2]; exact h6) q1 q3 (by rw [hsl]; exact k2_hasslot (q4 fi hk)) rfl rfl hd fun H' e1 e2 e3 => ?_
  rw [hsl] at e1 ⊢
  exact k p l e R s m args below meth c H' _ cells slots mc ms ls C hl (hR.set hh e2 e3 ⟨_, hc, t_OB.to (V := updV (vp_V fs) fi v) ⟨_, e1, q2, q3, t_set q4 hap hk v⟩ (fun j _ => vp_updV_set hl9 v j)⟩) hO (hS.put e2 e3 (Nat.le_add_right _ _)) hG h1 h2 h3 h4
theorem aw_new (ci N : Nat) {idx kc' ks' : Nat} {fs : List Value} (hd : decode M.2.2.1 pc = .ok (.new idx, 3)) (hN : aw_nl M.1 idx ci N) (hfs : ∀ j, j < N → defaultValue (am_ty ci j) = vp_V fs j) (hk1 : kc = kc' + 1) (hk2 : ks = ks' + N)
    (k : aw_w G M fr lo kc' ks' (pc + 3) lv (.ref (G.1 + h.length) :: st) (h ++ [.inr (ci, fs)]) Q) : aw_w G M fr lo kc ks pc lv st h Q := by
  intro p l e R s m args below meth c H locs cells slots mc ms ls C hl hR hO hS hG h1 h2 h3 h4
  obtain ⟨hx, hb, hml, hown, hts, hret, htab, hlk, hnm, hst9, hK, hfr, hlo⟩ := id C
  obtain ⟨⟨C0, T0, N0⟩, hc, hN0, w1, w2, w3⟩ := hN
  have hN1 : N0 = N := hN0
  subst hN1
  obtain ⟨ok1, ok2, ok3⟩ := am_ok ci _ hc
  have hKn := hK.1.1 ci _ hc
  refine W.newcK hx hb hown (hts _ w1) (hts _ w2) (hts _ w3) rfl hd (by omega) (by have hz : (C0, T0, N0).2.2 = N0 := rfl; omega) hKn.2.1 hR.2 fun H' kC hkC e1 z1 o1 => ?_
  refine k p l e R s m args below meth c H' locs (cells + 1) (slots + N0) mc ms ls C hl (hR.push (by rw [z1, hR.2]) (fun q hq => o1 q (by rw [← hR.2]; exact hq)) ⟨_, hc, (u_born (am_ty ci) hts ok1 hKn hkC e1 ok2).to hfs⟩) hO (aw_Sp hS (by rw [z1, hR.2]; exact Nat.le_succ _) (fun q hq => o1 q (by rw [← hR.2]; exact hq))) hG (by omega) (by omega) h3 h4
theorem aw_iald (i : Nat) {n : Nat} {f : Nat → Int32} {j : Int32} (hd : decode M.2.2.1 pc = .ok (.iaload, 1)) (hh : h[i]? = some (.inl (G.2.2.1 0, n, .inl f))) (hin : vp_in j n)
    (k : aw_w G M fr lo kc ks (pc + 1) lv (.int (f j.toNatClampNeg) :: st) h Q) : aw_w G M fr lo kc ks pc lv (.int j :: .ref (G.1 + i) :: st) h Q := by
  intro p l e R s m args below meth c H locs cells slots mc ms ls C hl hR hO hS hG h1 h2 h3 h4
  obtain ⟨hx, hb, hml, hown, hts, hret, htab, hlk, hnm, hst9, hK, hfr, hlo⟩ := id C
  exact va_iald hx hb hK.1 hR.1 i 0 (ah_at hh) rfl hin hd (k p l e R s m args below meth c H locs cells slots mc ms ls C hl hR hO hS hG h1 h2 h3 h4)
theorem aw_zald (i : Nat) {n : Nat} {f : Nat → Int32} {j : Int32} (hd : decode M.2.2.1 pc = .ok (.baload, 1)) (hh : h[i]? = some (.inl (G.2.2.1 1, n, .inl f))) (hin : vp_in j n)
    (k : aw_w G M fr lo kc ks (pc + 1) lv (.int (f j.toNatClampNeg) :: st) h Q) : aw_w G M fr lo kc ks pc lv (.int j :: .ref (G.1 + i) :: st) h Q := by
  intro p l e R s m args below meth c H locs cells slots mc ms ls C hl hR hO hS hG h1 h2 h3 h4
  obtain ⟨hx, hb, hml, hown, hts, hret, htab, hlk, hnm, hst9, hK, hfr, hlo⟩ := id C
  exact va_zald hx hb hK.1 hR.1 i 1 (ah_at hh) rfl hin hd (k p l e R s m args below meth c H locs cells slots mc ms ls C hl hR hO hS hG h1 h2 h3 h4)
theorem aw_lald (i : Nat) {n : Nat} {f : Nat → Int64} {j : Int32} (hd : decode M.2.2.1 pc = .ok (.laload, 1)) (hh : h[i]? = some (.inl (G.2.2.1 2, n, .inr (.inl f)))) (hin : vp_in j n)
    (k : aw_w G M fr lo kc ks (pc + 1) lv (.long (f j.toNatClampNeg) :: st) h Q) : aw_w G M fr lo kc ks pc lv (.int j :: .ref (G.1 + i) :: st) h Q := by
  intro p l e R s m args below meth c H locs cells slots mc ms ls C hl hR hO hS hG h1 h2 h3 h4
  obtain ⟨hx, hb, hml, hown, hts, hret, htab, hlk, hnm, hst9, hK, hfr, hlo⟩ := id C
  exact va_lald hx hb hK.1 hR.1 i 2 (ah_at hh) rfl hin hd (k p l e R s m args below meth c H locs cells slots mc ms ls C hl hR hO hS hG h1 h2 h3 h4)
theorem aw_aald (i : Nat) {n : Nat} {f : Nat → Option Nat} {j : Int32} (hd : decode M.2.2.1 pc = .ok (.aaload, 1)) (hh : h[i]? = some (.inl (G.2.2.1 3, n, .inr (.inr (.inr (.inr f)))))) (hin : vp_in j n)
    (k : aw_w G M fr lo kc ks (pc + 1) lv (va_rf (f j.toNatClampNeg) :: st) h Q) : aw_w G M fr lo kc ks pc lv (.int j :: .ref (G.1 + i) :: st) h Q := by
  intro p l e R s m args below meth c H locs cells slots mc ms ls C hl hR hO hS hG h1 h2 h3 h4
  obtain ⟨hx, hb, hml, hown, hts, hret, htab, hlk, hnm, hst9, hK, hfr, hlo⟩ := id C
  exact va_aldq hx hb hK.1 hR.1 i 3 (ah_at hh) rfl hin hd (k p l e R s m args below meth c H locs cells slots mc ms ls C hl hR hO hS hG h1 h2 h3 h4)
theorem aw_alen (i t : Nat) {cA : ClassId} {x : vp_A} {ty : FieldType} {v : Int32} (hd : decode M.2.2.1 pc = .ok (.arraylength, 1)) (hh : h[i]? = some (.inl (cA, x))) (ht : (ag_ty G)[t]? = some (cA, ty)) (hv : Int32.ofNat x.1 = v)
    (k : aw_w G M fr lo kc ks (pc + 1) lv (.int v :: st) h Q) : aw_w G M fr lo kc ks pc lv (.ref (G.1 + i) :: st) h Q := by
  intro p l e R s m args below meth c H locs cells slots mc ms ls C hl hR hO hS hG h1 h2 h3 h4
  obtain ⟨hx, hb, hml, hown, hts, hret, htab, hlk, hnm, hst9, hK, hfr, hlo⟩ := id C
  exact va_alen hx hb hK.1 hR.1 i t (ah_at hh) ht hv hd (k p l e R s m args below meth c H locs cells slots mc ms ls C hl hR hO hS hG h1 h2 h3 h4)
theorem aw_iast (i : Nat) {n : Nat} {f : Nat → Int32} {j x : Int32} (hd : decode M.2.2.1 pc = .ok (.iastore, 1)) (hh : h[i]? = some (.inl (G.2.2.1 0, n, .inl f))) (hin : vp_in j n)
    (k : aw_w G M fr lo kc ks (pc + 1) lv st (h.set i (.inl (G.2.2.1 0, n, .inl (upd f j.toNatClampNeg x)))) Q) : aw_w G M fr lo kc ks pc lv (.int x :: .int j :: .ref (G.1 + i) :: st) h Q := by
  intro p l e R s m args below meth c H locs cells slots mc ms ls C hl hR hO hS hG h1 h2 h3 h4
  obtain ⟨hx, hb, hml, hown, hts, hret, htab, hlk, hnm, hst9, hK, hfr, hlo⟩ := id C
  refine W.iast hx hb (hR.cell hh) ((hK.1.2 0 _ rfl).1 n (fun j => .int (f j))) (fun q => by cases q) (by show ¬ (j < 0 ∨ (arrV _ _ _).slots.size ≤ _); rw [arrV_size]; exact hin) rfl rfl hd fun H1 e1 z oq => ?_
  refine k p l e R s m args below meth c H1 _ cells slots mc ms ls C hl (hR.set hh z oq ?_) hO (hS.put z oq (Nat.le_add_right _ _)) hG h1 h2 h3 h4
  show H1[G.1 + i]? = some (vp_cell _ _)
  rw [e1, vp_cell_i, vp_cell_i, arrV_store]
  congr 2
  funext q
  by_cases hq : q = j.toNatClampNeg
  · subst hq
    simp [updV, upd]
  · simp [updV, upd, hq]
theorem aw_zast (i : Nat) {n : Nat} {f : Nat → Int32} {j x : Int32} (hd : decode M.2.2.1 pc = .ok (.bastore, 1)) (hh : h[i]? = some (.inl (G.2.2.1 1, n, .inl f))) (hin : vp_in j n)
    (k : aw_w G M fr lo kc ks (pc + 1) lv st (h.set i (.inl (G.2.2.1 1, n, .inl (upd f j.toNatClampNeg (vp_nar .boolean x))))) Q) : aw_w G M fr lo kc ks pc lv (.int x :: .int j :: .ref (G.1 + i) :: st) h Q := by
  intro p l e R s m args below meth c H locs cells slots mc ms ls C hl hR hO hS hG h1 h2 h3 h4
  obtain ⟨hx, hb, hml, hown, hts, hret, htab, hlk, hnm, hst9, hK, hfr, hlo⟩ := id C
  refine W.zast hx hb (hR.cell hh) ((hK.1.2 1 _ rfl).1 n (fun j => .int (f j))) (fun q => by cases q) (by show ¬ (j < 0 ∨ (arrV _ _ _).slots.size ≤ _); rw [arrV_size]; exact hin) rfl rfl hd fun H1 e1 z oq => ?_
  refine k p l e R s m args below meth c H1 _ cells slots mc ms ls C hl (hR.set hh z oq ?_) hO (hS.put z oq (Nat.le_add_right _ _)) hG h1 h2 h3 h4
  show H1[G.1 + i]? = some (vp_cell _ _)
  rw [e1, vp_cell_i, vp_cell_i, arrV_store]
  congr 2
  funext q
  by_cases hq : q = j.toNatClampNeg
  · subst hq
    simp [updV, upd, vp_nar]
    try rfl
  · simp [updV, upd, hq]
theorem aw_last (i : Nat) {n : Nat} {f : Nat → Int64} {j : Int32} {x : Int64} (hd : decode M.2.2.1 pc = .ok (.lastore, 1)) (hh : h[i]? = some (.inl (G.2.2.1 2, n, .inr (.inl f)))) (hin : vp_in j n)
    (k : aw_w G M fr lo kc ks (pc + 1) lv st (h.set i (.inl (G.2.2.1 2, n, .inr (.inl (vp_updL f j.toNatClampNeg x))))) Q) : aw_w G M fr lo kc ks pc lv (.long x :: .int j :: .ref (G.1 + i) :: st) h Q := by
  intro p l e R s m args below meth c H locs cells slots mc ms ls C hl hR hO hS hG h1 h2 h3 h4
  obtain ⟨hx, hb, hml, hown, hts, hret, htab, hlk, hnm, hst9, hK, hfr, hlo⟩ := id C
  refine W.last hx hb (hR.cell hh) ((hK.1.2 2 _ rfl).1 n (fun j => .long (f j))) (fun q => by cases q) (by show ¬ (j < 0 ∨ (arrV _ _ _).slots.size ≤ _); rw [arrV_size]; exact hin) rfl rfl hd fun H1 e1 z oq => ?_
  refine k p l e R s m args below meth c H1 _ cells slots mc ms ls C hl (hR.set hh z oq ?_) hO (hS.put z oq (Nat.le_add_right _ _)) hG h1 h2 h3 h4
  show H1[G.1 + i]? = some (vp_cell _ _)
  rw [e1, vp_cell_l, vp_cell_l, arrV_store]
  congr 2
  funext q
  by_cases hq : q = j.toNatClampNeg
  · subst hq
    simp [updV, vp_updL]
  · simp [updV, vp_updL, hq]
theorem aw_newi {n : Int32} {N kc' ks' : Nat} (hd : decode M.2.2.1 pc = .ok (.newarray .int, 2)) (hw : Cond.arrayClass .int ∈ aw_T) (hn : ¬ n < 0) (hN : n.toNatClampNeg = N) (hb9 : N ≤ 100000) (hk1 : kc = kc' + 1) (hk2 : ks = ks' + N)
    (k : aw_w G M fr lo kc' ks' (pc + 2) lv (.ref (G.1 + h.length) :: st) (h ++ [.inl (G.2.2.1 0, N, .inl (fun _ => 0))]) Q) : aw_w G M fr lo kc ks pc lv (.int n :: st) h Q := by
  intro p l e R s m args below meth c H locs cells slots mc ms ls C hl hR hO hS hG h1 h2 h3 h4
  obtain ⟨hx, hb, hml, hown, hts, hret, htab, hlk, hnm, hst9, hK, hfr, hlo⟩ := id C
  refine va_newaK (atype := .int) hx hb (hts _ hw) rfl hd rfl hn hN (by show N * 4 ≤ _; omega) (by omega) (by omega) hR.2 fun H' cA e1 z1 o1 _ hf9 => ?_
  have hcA : cA = G.2.2.1 0 := Option.some.inj (hf9.symm.trans (hK.1.2 0 _ rfl).2)
  subst hcA
  exact k p l e R s m args below meth c H' locs (cells + 1) (slots + N) mc ms ls C hl (hR.push (by rw [z1, hR.2]) (fun q hq => o1 q (by rw [← hR.2]; exact hq)) e1) hO (aw_Sp hS (by rw [z1, hR.2]; exact Nat.le_succ _) (fun q hq => o1 q (by rw [← hR.2]; exact hq))) hG (by omega) (by omega) h3 h4
theorem aw_newz {n : Int32} {N kc' ks' : Nat} (hd : decode M.2.2.1 pc = .ok (.newarray .boolean, 2)) (hw : Cond.arrayClass .boolean ∈ aw_T) (hn : ¬ n < 0) (hN : n.toNatClampNeg = N) (hb9 : N ≤ 100000) (hk1 : kc = kc' + 1) (hk2 : ks = ks' + N)
    (k : aw_w G M fr lo kc' ks' (pc + 2) lv (.ref (G.1 + h.length) :: st) (h ++ [.inl (G.2.2.1 1, N, .inl (fun _ => 0))]) Q) : aw_w G M fr lo kc ks pc lv (.int n :: st) h Q := by
  intro p l e R s m args below meth c H locs cells slots mc ms ls C hl hR hO hS hG h1 h2 h3 h4
  obtain ⟨hx, hb, hml, hown, hts, hret, htab, hlk, hnm, hst9, hK, hfr, hlo⟩ := id C
  refine va_newaK (atype := .boolean) hx hb (hts _ hw) rfl hd rfl hn hN (by show N * 1 ≤ _; omega) (by omega) (by omega) hR.2 fun H' cA e1 z1 o1 _ hf9 => ?_
  have hcA : cA = G.2.2.1 1 := Option.some.inj (hf9.symm.trans (hK.1.2 1 _ rfl).2)
  subst hcA
  exact k p l e R s m args below meth c H' locs (cells + 1) (slots + N) mc ms ls C hl (hR.push (by rw [z1, hR.2]) (fun q hq => o1 q (by rw [← hR.2]; exact hq)) e1) hO (aw_Sp hS (by rw [z1, hR.2]; exact Nat.le_succ _) (fun q hq => o1 q (by rw [← hR.2]; exact hq))) hG (by omega) (by omega) h3 h4
theorem aw_newl {n : Int32} {N kc' ks' : Nat} (hd : decode M.2.2.1 pc = .ok (.newarray .long, 2)) (hw : Cond.arrayClass .long ∈ aw_T) (hn : ¬ n < 0) (hN : n.toNatClampNeg = N) (hb9 : N ≤ 100000) (hk1 : kc = kc' + 1) (hk2 : ks = ks' + N)
    (k : aw_w G M fr lo kc' ks' (pc + 2) lv (.ref (G.1 + h.length) :: st) (h ++ [.inl (G.2.2.1 2, N, .inr (.inl (fun _ => 0)))]) Q) : aw_w G M fr lo kc ks pc lv (.int n :: st) h Q := by
  intro p l e R s m args below meth c H locs cells slots mc ms ls C hl hR hO hS hG h1 h2 h3 h4
  obtain ⟨hx, hb, hml, hown, hts, hret, htab, hlk, hnm, hst9, hK, hfr, hlo⟩ := id C
  refine va_newaK (atype := .long) hx hb (hts _ hw) rfl hd rfl hn hN (by show N * 8 ≤ _; omega) (by omega) (by omega) hR.2 fun H' cA e1 z1 o1 _ hf9 => ?_
  have hcA : cA = G.2.2.1 2 := Option.some.inj (hf9.symm.trans (hK.1.2 2 _ rfl).2)
  subst hcA
  exact k p l e R s m args below meth c H' locs (cells + 1) (slots + N) mc ms ls C hl (hR.push (by rw [z1, hR.2]) (fun q hq => o1 q (by rw [← hR.2]; exact hq)) e1) hO (aw_Sp hS (by rw [z1, hR.2]; exact Nat.le_succ _) (fun q hq => o1 q (by rw [← hR.2]; exact hq))) hG (by omega) (by omega) h3 h4
/-- the four ends by a return -/
theorem aw_iret {v : Int32} (hd : decode M.2.2.1 pc = .ok (.ireturn, 1)) (hr9 : M.2.2.2.2.1 = some .int) (hq : Q (.inl (some (.int v))) h) : aw_w G M fr lo kc ks pc lv [.int v] h Q := by
  intro p l e R s m args below meth c H locs cells slots mc ms ls C hl hR hO hS hG h1 h2 h3 h4
  obtain ⟨hx, hb, hml, hown, hts, hret, htab, hlk, hnm, hst9, hK, hfr, hlo⟩ := id C
  refine W.widen (k := mc) (n := ms) (by omega) (by omega) ?_
  intro T hT X
  obtain ⟨t, a1, o, b1, b2, ⟨e1, e2⟩, L, hF, hL⟩ := (W.iret (Qc := fun _ _ o t => o = .returned (some (.int v)) ∧ t.heap = H) (free := aw_A G) hx hb (hret.trans hr9) (fun t ht _ => ⟨rfl, ht⟩) hS.2.2 hd hlk) T hT X
  exact ⟨t, a1, o, b1, b2, h, L, by rw [e2]; exact hR, hF.2.1, hF.2.2, ⟨by rw [e2]; exact hS.1, by rw [e2]; exact hS.2.1, hL⟩, Or.inl ⟨_, e1, hq⟩⟩
theorem aw_zret {v : Int32} (hd : decode M.2.2.1 pc = .ok (.ireturn, 1)) (hr9 : M.2.2.2.2.1 = some .boolean) (hv : v = 0 ∨ v = 1) (hq : Q (.inl (some (.int v))) h) : aw_w G M fr lo kc ks pc lv [.int v] h Q := by
  intro p l e R s m args below meth c H locs cells slots mc ms ls C hl hR hO hS hG h1 h2 h3 h4
  obtain ⟨hx, hb, hml, hown, hts, hret, htab, hlk, hnm, hst9, hK, hfr, hlo⟩ := id C
  refine W.widen (k := mc) (n := ms) (by omega) (by omega) ?_
  intro T hT X
  have hn9 : narrow .boolean (.int v) = .int v := by rcases hv with rfl | rfl <;> decide
  obtain ⟨t, a1, o, b1, b2, ⟨e1, e2⟩, L, hF, hL⟩ := (W.zret (Qc := fun _ _ o t => o = .returned (some (.int v)) ∧ t.heap = H) (free := aw_A G) hx hb (hret.trans hr9) hn9 (fun t ht _ => ⟨rfl, ht⟩) hS.2.2 hd hlk) T hT X
  exact ⟨t, a1, o, b1, b2, h, L, by rw [e2]; exact hR, hF.2.1, hF.2.2, ⟨by rw [e2]; exact hS.1, by rw [e2]; exact hS.2.1, hL⟩, Or.inl ⟨_, e1, hq⟩⟩
theorem aw_vret (hd : decode M.2.2.1 pc = .ok (.return_, 1)) (hr9 : M.2.2.2.2.1 = none) (hq : Q (.inl none) h) : aw_w G M fr lo kc ks pc lv [] h Q := by
  intro p l e R s m args below meth c H locs cells slots mc ms ls C hl hR hO hS hG h1 h2 h3 h4
  obtain ⟨hx, hb, hml, hown, hts, hret, htab, hlk, hnm, hst9, hK, hfr, hlo⟩ := id C
  refine W.widen (k := mc) (n := ms) (by omega) (by omega) ?_
  intro T hT X
  obtain ⟨t, a1, o, b1, b2, ⟨e1, e2⟩, L, hF, hL⟩ := (W.vret (Qc := fun _ _ o t => o = .returned none ∧ t.heap = H) (free := aw_A G) hx hb (hret.trans hr9) (fun t ht _ => ⟨rfl, ht⟩) hS.2.2 hd hlk) T hT X
  exact ⟨t, a1, o, b1, b2, h, L, by rw [e2]; exact hR, hF.2.1, hF.2.2, ⟨by rw [e2]; exact hS.1, by rw [e2]; exact hS.2.1, hL⟩, Or.inl ⟨_, e1, hq⟩⟩
theorem aw_aret {v : Value} {rt : FieldType} (hd : decode M.2.2.1 pc = .ok (.areturn, 1)) (hr9 : M.2.2.2.2.1 = some rt) (hrt : (∃ n, rt = .object n) ∨ ∃ t, rt = .array t) (hv : v = .null ∨ ∃ a, v = .ref a) (hq : Q (.inl (some v)) h) : aw_w G M fr lo kc ks pc lv [v] h Q := by
  intro p l e R s m args below meth c H locs cells slots mc ms ls C hl hR hO hS hG h1 h2 h3 h4
  obtain ⟨hx, hb, hml, hown, hts, hret, htab, hlk, hnm, hst9, hK, hfr, hlo⟩ := id C
  refine W.widen (k := mc) (n := ms) (by omega) (by omega) ?_
  intro T hT X
  obtain ⟨t, a1, o, b1, b2, ⟨e1, e2⟩, L, hF, hL⟩ := (W.aret (Qc := fun _ _ o t => o = .returned (some v) ∧ t.heap = H) (free := aw_A G) hx hb (hret.trans hr9) hrt hv (fun t ht _ => ⟨rfl, ht⟩) hS.2.2 hd hlk) T hT X
  exact ⟨t, a1, o, b1, b2, h, L, by rw [e2]; exact hR, hF.2.1, hF.2.2, ⟨by rw [e2]; exact hS.1, by rw [e2]; exact hS.2.1, hL⟩, Or.inl ⟨_, e1, hq⟩⟩
end AWH
