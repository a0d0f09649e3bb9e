/-! ===== what the class uses of the JDK ===== -/
theorem wc_pc_checkIndex (G : ag_T) (h : List va_E)  {i n : Nat} (hi : i < n) (hn : n < 2 ^ 31) (w : Value) : aw_w G mm_pc_checkIndex 0 0 0 0 0 (lv_args 0 [.int (nI i), .int (nI n), w]) [] h (q_i (nI i) h) := by
  refine aw_iload_n dd_pc_checkIndex_0 rfl 0 rfl ?_
  refine aw_if_lt (tgt := 9) dd_pc_checkIndex_1 (by decide) (fun h9 => absurd h9 (nI_pos (by omega))) (fun _ => ?_)
  refine aw_iload_n dd_pc_checkIndex_4 rfl 0 rfl ?_
  refine aw_iload_n dd_pc_checkIndex_5 rfl 1 rfl ?_
  refine aw_icmp_lt (tgt := 16) dd_pc_checkIndex_6 (by decide) (fun _ => ?_) (fun h9 => absurd (nI_lt hi hn) h9)
  refine aw_iload_n dd_pc_checkIndex_16 rfl 0 rfl ?_
  exact aw_iret dd_pc_checkIndex_17 rfl ⟨rfl, rfl⟩
theorem wc_ot_checkIndex (G : ag_T) (h : List va_E)  {i n : Nat} (hi : i < n) (hn : n < 2 ^ 31) : aw_w G mm_ot_checkIndex 1 22 0 0 0 (lv_args 0 [.int (nI i), .int (nI n)]) [] h (q_i (nI i) h) := by
  refine aw_iload_n dd_ot_checkIndex_0 rfl 0 rfl ?_
  refine aw_iload_n dd_ot_checkIndex_1 rfl 1 rfl ?_
  refine aw_null dd_ot_checkIndex_2 ?_
  refine aw_cSi mm_pc_checkIndex 0 0 [_, _, _] _ (wc_pc_checkIndex G _ hi hn _) dd_ot_checkIndex_3 cs_ot_105 my_pc_checkIndex np_pc_checkIndex rfl (by decide) rfl rfl (Nat.le_of_ble_eq_true rfl) (Nat.le_of_ble_eq_true rfl) ?_
  exact aw_iret dd_ot_checkIndex_6 rfl ⟨rfl, rfl⟩
theorem wc_ma_max (G : ag_T) (h : List va_E)  (n : Nat) (hn : n ≤ 10) : aw_w G mm_ma_max 0 0 0 0 0 (lv_args 0 [.int (nI 10), .int (nI n)]) [] h (q_i (nI 10) h) := by
  refine aw_iload_n dd_ma_max_0 rfl 0 rfl ?_
  refine aw_iload_n dd_ma_max_1 rfl 1 rfl ?_
  refine aw_icmp_lt (tgt := 9) dd_ma_max_2 (by decide) (fun h9 => absurd h9 (nI_nlt hn (by decide))) (fun _ => ?_)
  refine aw_iload_n dd_ma_max_5 rfl 0 rfl ?_
  refine aw_goto (tgt := 10) dd_ma_max_6 (by decide) ?_
  exact aw_iret dd_ma_max_10 rfl ⟨rfl, rfl⟩
def bc_f (x : Int32) : Int32 :=
  let u (a b : Int32) : Int32 := (a.toUInt32 >>> (b.toUInt32 &&& Int32.toUInt32 31)).toInt32
  let a := x - (u x 1 &&& 1431655765)
  let b := (a &&& 858993459) + (u a 2 &&& 858993459)
  let c := (b + u b 4) &&& 252645135
  let d := c + u c 8
  let e := d + u d 16
  e &&& 63
theorem bc_64 : ∀ s, s < 64 → bc_f (nI s) = nI (pk_f s 31) := by decide +kernel
theorem wc_ig_bitCount (G : ag_T) (h : List va_E)  {s : Nat} (hs : s < 64) : aw_w G mm_ig_bitCount 0 0 0 0 0 (lv_args 0 [.int (nI s)]) [] h (q_i (nI (pk_f s 31)) h) := by
  rw [← bc_64 s hs]
  refine aw_iload_n dd_ig_bitCount_0 rfl 0 rfl ?_
  refine aw_iload_n dd_ig_bitCount_1 rfl 0 rfl ?_
  refine aw_iconst (v := 1) dd_ig_bitCount_2 (by decide) ?_
  refine aw_iushr dd_ig_bitCount_3 rfl ?_
  refine aw_ldcw dd_ig_bitCount_4 kn_ig_265 ?_
  refine aw_iand dd_ig_bitCount_7 ?_
  refine aw_isub dd_ig_bitCount_8 ?_
  refine aw_istore_n (lv' := [(0, _)]) dd_ig_bitCount_9 rfl (by decide) rfl ?_
  refine aw_iload_n dd_ig_bitCount_10 rfl 0 rfl ?_
  refine aw_ldcw dd_ig_bitCount_11 kn_ig_266 ?_
  refine aw_iand dd_ig_bitCount_14 ?_
  refine aw_iload_n dd_ig_bitCount_15 rfl 0 rfl ?_
  refine aw_iconst (v := 2) dd_ig_bitCount_16 (by decide) ?_
  refine aw_iushr dd_ig_bitCount_17 rfl ?_
  refine aw_ldcw dd_ig_bitCount_18 kn_ig_266 ?_
  refine aw_iand dd_ig_bitCount_21 ?_
  refine aw_iadd dd_ig_bitCount_22 ?_
  refine aw_istore_n (lv' := [(0, _)]) dd_ig_bitCount_23 rfl (by decide) rfl ?_
  refine aw_iload_n dd_ig_bitCount_24 rfl 0 rfl ?_
  refine aw_iload_n dd_ig_bitCount_25 rfl 0 rfl ?_
  refine aw_iconst (v := 4) dd_ig_bitCount_26 (by decide) ?_
  refine aw_iushr dd_ig_bitCount_27 rfl ?_
  refine aw_iadd dd_ig_bitCount_28 ?_
  refine aw_ldcw dd_ig_bitCount_29 kn_ig_267 ?_
  refine aw_iand dd_ig_bitCount_32 ?_
  refine aw_istore_n (lv' := [(0, _)]) dd_ig_bitCount_33 rfl (by decide) rfl ?_
  refine aw_iload_n dd_ig_bitCount_34 rfl 0 rfl ?_
  refine aw_iload_n dd_ig_bitCount_35 rfl 0 rfl ?_
  refine aw_bipush (v := 8) dd_ig_bitCount_36 (by decide) ?_
  refine aw_iushr dd_ig_bitCount_38 rfl ?_
  refine aw_iadd dd_ig_bitCount_39 ?_
  refine aw_istore_n (lv' := [(0, _)]) dd_ig_bitCount_40 rfl (by decide) rfl ?_
  refine aw_iload_n dd_ig_bitCount_41 rfl 0 rfl ?_
  refine aw_iload_n dd_ig_bitCount_42 rfl 0 rfl ?_
  refine aw_bipush (v := 16) dd_ig_bitCount_43 (by decide) ?_
  refine aw_iushr dd_ig_bitCount_45 rfl ?_
  refine aw_iadd dd_ig_bitCount_46 ?_
  refine aw_istore_n (lv' := [(0, _)]) dd_ig_bitCount_47 rfl (by decide) rfl ?_
  refine aw_iload_n dd_ig_bitCount_48 rfl 0 rfl ?_
  refine aw_bipush (v := 63) dd_ig_bitCount_49 (by decide) ?_
  refine aw_iand dd_ig_bitCount_51 ?_
  exact aw_iret dd_ig_bitCount_52 rfl ⟨rfl, rfl⟩
theorem wc_al_size0 (G : ag_T) (κ : ck_T) (μ : cm_T) (o : Nat → Int64) (rest : List va_E) : aw_w G mm_al_size 0 0 0 0 0 (lv_args 0 [.ref (G.1 + 3)]) [] (hp_f G κ μ o rest) (q_i (κ.1 5) (hp_f G κ μ o rest)) := by
  refine aw_aload_n dd_al_size_0 rfl 0 rfl ?_
  refine aw_getf _ 6 2 dd_al_size_1 fl_al_48 rfl rfl ?_
  exact aw_iret dd_al_size_4 rfl ⟨rfl, rfl⟩
theorem wc_al_elementData0 (G : ag_T) (κ : ck_T) (μ : cm_T) (o : Nat → Int64) (rest : List va_E) {i n j p : Nat} {a : Nat → Option Nat} (hi : i < n) (hn : n ≤ 8) (hsz : κ.1 5 = nI n) (he : κ.2.2 0 = .ref (G.1 + (j + 33))) (ha : rest[j]? = some (oa_c G a)) (hp : a i = some (G.1 + (p + 33))) : aw_w G mm_al_elementData 0 0 0 0 0 (lv_args 0 [.ref (G.1 + 3), .int (nI i)]) [] (hp_f G κ μ o rest) (q_r (.ref (G.1 + (p + 33))) (hp_f G κ μ o rest)) := by
  refine aw_aload_n dd_al_elementData_0 rfl 0 rfl ?_
  refine aw_getf _ 6 1 dd_al_elementData_1 fl_al_9 rfl (congrArg some he) ?_
  refine aw_iload_n dd_al_elementData_4 rfl 1 rfl ?_
  refine aw_aald (j + 33) (n := 10) (f := a) dd_al_elementData_5 ha (vp_in_nI (by omega) (by decide)) ?_
  rw [nI_clamp (by omega), hp]
  exact aw_aret dd_al_elementData_6 rfl (Or.inl ⟨_, rfl⟩) (Or.inr ⟨_, rfl⟩) ⟨rfl, rfl⟩
theorem wc_al_get0 (G : ag_T) (κ : ck_T) (μ : cm_T) (o : Nat → Int64) (rest : List va_E) {i n j p : Nat} {a : Nat → Option Nat} (hi : i < n) (hn : n ≤ 8) (hsz : κ.1 5 = nI n) (he : κ.2.2 0 = .ref (G.1 + (j + 33))) (ha : rest[j]? = some (oa_c G a)) (hp : a i = some (G.1 + (p + 33))) : aw_w G mm_al_get 2 43 0 0 0 (lv_args 0 [.ref (G.1 + 3), .int (nI i)]) [] (hp_f G κ μ o rest) (q_r (.ref (G.1 + (p + 33))) (hp_f G κ μ o rest)) := by
  refine aw_iload_n dd_al_get_0 rfl 1 rfl ?_
  refine aw_aload_n dd_al_get_1 rfl 0 rfl ?_
  refine aw_getf _ 6 2 dd_al_get_2 fl_al_48 rfl rfl ?_
  refine aw_top hsz ?_
  refine aw_cSi mm_ot_checkIndex 0 0 [_, _] _ (wc_ot_checkIndex G _ hi (by omega)) dd_al_get_5 cs_al_118 my_ot_checkIndex np_ot_checkIndex rfl (by decide) rfl rfl (Nat.le_of_ble_eq_true rfl) (Nat.le_of_ble_eq_true rfl) ?_
  refine aw_pop dd_al_get_8 rfl ?_
  refine aw_aload_n dd_al_get_9 rfl 0 rfl ?_
  refine aw_iload_n dd_al_get_10 rfl 1 rfl ?_
  refine aw_cVr mm_al_elementData 0 0 _ 6 [_] _ (wc_al_elementData0 G κ μ o rest hi hn hsz he ha hp) dd_al_get_11 cv_al_123 my_al_elementData np_al_elementData rfl rfl rfl (by decide) rfl rfl (Nat.le_of_ble_eq_true rfl) (Nat.le_of_ble_eq_true rfl) ?_
  exact aw_aret dd_al_get_14 rfl (Or.inl ⟨_, rfl⟩) (Or.inr ⟨_, rfl⟩) ⟨rfl, rfl⟩
theorem wc_al_size1 (G : ag_T) (κ : ck_T) (μ : cm_T) (o : Nat → Int64) (rest : List va_E) : aw_w G mm_al_size 0 0 0 0 0 (lv_args 0 [.ref (G.1 + 4)]) [] (hp_f G κ μ o rest) (q_i (κ.1 7) (hp_f G κ μ o rest)) := by
  refine aw_aload_n dd_al_size_0 rfl 0 rfl ?_
  refine aw_getf _ 6 2 dd_al_size_1 fl_al_48 rfl rfl ?_
  exact aw_iret dd_al_size_4 rfl ⟨rfl, rfl⟩
theorem wc_al_elementData1 (G : ag_T) (κ : ck_T) (μ : cm_T) (o : Nat → Int64) (rest : List va_E) {i n j p : Nat} {a : Nat → Option Nat} (hi : i < n) (hn : n ≤ 8) (hsz : κ.1 7 = nI n) (he : κ.2.2 1 = .ref (G.1 + (j + 33))) (ha : rest[j]? = some (oa_c G a)) (hp : a i = some (G.1 + (p + 33))) : aw_w G mm_al_elementData 0 0 0 0 0 (lv_args 0 [.ref (G.1 + 4), .int (nI i)]) [] (hp_f G κ μ o rest) (q_r (.ref (G.1 + (p + 33))) (hp_f G κ μ o rest)) := by
  refine aw_aload_n dd_al_elementData_0 rfl 0 rfl ?_
  refine aw_getf _ 6 1 dd_al_elementData_1 fl_al_9 rfl (congrArg some he) ?_
  refine aw_iload_n dd_al_elementData_4 rfl 1 rfl ?_
  refine aw_aald (j + 33) (n := 10) (f := a) dd_al_elementData_5 ha (vp_in_nI (by omega) (by decide)) ?_
  rw [nI_clamp (by omega), hp]
  exact aw_aret dd_al_elementData_6 rfl (Or.inl ⟨_, rfl⟩) (Or.inr ⟨_, rfl⟩) ⟨rfl, rfl⟩
theorem wc_al_get1 (G : ag_T) (κ : ck_T) (μ : cm_T) (o : Nat → Int64) (rest : List va_E) {i n j p : Nat} {a : Nat → Option Nat} (hi : i < n) (hn : n ≤ 8) (hsz : κ.1 7 = nI n) (he : κ.2.2 1 = .ref (G.1 + (j + 33))) (ha : rest[j]? = some (oa_c G a)) (hp : a i = some (G.1 + (p + 33))) : aw_w G mm_al_get 2 43 0 0 0 (lv_args 0 [.ref (G.1 + 4), .int (nI i)]) [] (hp_f G κ μ o rest) (q_r (.ref (G.1 + (p + 33))) (hp_f G κ μ o rest)) := by
  refine aw_iload_n dd_al_get_0 rfl 1 rfl ?_
  refine aw_aload_n dd_al_get_1 rfl 0 rfl ?_
  refine aw_getf _ 6 2 dd_al_get_2 fl_al_48 rfl rfl ?_
  refine aw_top hsz ?_
  refine aw_cSi mm_ot_checkIndex 0 0 [_, _] _ (wc_ot_checkIndex G _ hi (by omega)) dd_al_get_5 cs_al_118 my_ot_checkIndex np_ot_checkIndex rfl (by decide) rfl rfl (Nat.le_of_ble_eq_true rfl) (Nat.le_of_ble_eq_true rfl) ?_
  refine aw_pop dd_al_get_8 rfl ?_
  refine aw_aload_n dd_al_get_9 rfl 0 rfl ?_
  refine aw_iload_n dd_al_get_10 rfl 1 rfl ?_
  refine aw_cVr mm_al_elementData 0 0 _ 6 [_] _ (wc_al_elementData1 G κ μ o rest hi hn hsz he ha hp) dd_al_get_11 cv_al_123 my_al_elementData np_al_elementData rfl rfl rfl (by decide) rfl rfl (Nat.le_of_ble_eq_true rfl) (Nat.le_of_ble_eq_true rfl) ?_
  exact aw_aret dd_al_get_14 rfl (Or.inl ⟨_, rfl⟩) (Or.inr ⟨_, rfl⟩) ⟨rfl, rfl⟩
theorem wc_al_size2 (G : ag_T) (κ : ck_T) (μ : cm_T) (o : Nat → Int64) (rest : List va_E) : aw_w G mm_al_size 0 0 0 0 0 (lv_args 0 [.ref (G.1 + 5)]) [] (hp_f G κ μ o rest) (q_i (κ.1 9) (hp_f G κ μ o rest)) := by
  refine aw_aload_n dd_al_size_0 rfl 0 rfl ?_
  refine aw_getf _ 6 2 dd_al_size_1 fl_al_48 rfl rfl ?_
  exact aw_iret dd_al_size_4 rfl ⟨rfl, rfl⟩
theorem wc_al_elementData2 (G : ag_T) (κ : ck_T) (μ : cm_T) (o : Nat → Int64) (rest : List va_E) {i n j p : Nat} {a : Nat → Option Nat} (hi : i < n) (hn : n ≤ 8) (hsz : κ.1 9 = nI n) (he : κ.2.2 2 = .ref (G.1 + (j + 33))) (ha : rest[j]? = some (oa_c G a)) (hp : a i = some (G.1 + (p + 33))) : aw_w G mm_al_elementData 0 0 0 0 0 (lv_args 0 [.ref (G.1 + 5), .int (nI i)]) [] (hp_f G κ μ o rest) (q_r (.ref (G.1 + (p + 33))) (hp_f G κ μ o rest)) := by
  refine aw_aload_n dd_al_elementData_0 rfl 0 rfl ?_
  refine aw_getf _ 6 1 dd_al_elementData_1 fl_al_9 rfl (congrArg some he) ?_
  refine aw_iload_n dd_al_elementData_4 rfl 1 rfl ?_
  refine aw_aald (j + 33) (n := 10) (f := a) dd_al_elementData_5 ha (vp_in_nI (by omega) (by decide)) ?_
  rw [nI_clamp (by omega), hp]
  exact aw_aret dd_al_elementData_6 rfl (Or.inl ⟨_, rfl⟩) (Or.inr ⟨_, rfl⟩) ⟨rfl, rfl⟩
theorem wc_al_get2 (G : ag_T) (κ : ck_T) (μ : cm_T) (o : Nat → Int64) (rest : List va_E) {i n j p : Nat} {a : Nat → Option Nat} (hi : i < n) (hn : n ≤ 8) (hsz : κ.1 9 = nI n) (he : κ.2.2 2 = .ref (G.1 + (j + 33))) (ha : rest[j]? = some (oa_c G a)) (hp : a i = some (G.1 + (p + 33))) : aw_w G mm_al_get 2 43 0 0 0 (lv_args 0 [.ref (G.1 + 5), .int (nI i)]) [] (hp_f G κ μ o rest) (q_r (.ref (G.1 + (p + 33))) (hp_f G κ μ o rest)) := by
  refine aw_iload_n dd_al_get_0 rfl 1 rfl ?_
  refine aw_aload_n dd_al_get_1 rfl 0 rfl ?_
  refine aw_getf _ 6 2 dd_al_get_2 fl_al_48 rfl rfl ?_
  refine aw_top hsz ?_
  refine aw_cSi mm_ot_checkIndex 0 0 [_, _] _ (wc_ot_checkIndex G _ hi (by omega)) dd_al_get_5 cs_al_118 my_ot_checkIndex np_ot_checkIndex rfl (by decide) rfl rfl (Nat.le_of_ble_eq_true rfl) (Nat.le_of_ble_eq_true rfl) ?_
  refine aw_pop dd_al_get_8 rfl ?_
  refine aw_aload_n dd_al_get_9 rfl 0 rfl ?_
  refine aw_iload_n dd_al_get_10 rfl 1 rfl ?_
  refine aw_cVr mm_al_elementData 0 0 _ 6 [_] _ (wc_al_elementData2 G κ μ o rest hi hn hsz he ha hp) dd_al_get_11 cv_al_123 my_al_elementData np_al_elementData rfl rfl rfl (by decide) rfl rfl (Nat.le_of_ble_eq_true rfl) (Nat.le_of_ble_eq_true rfl) ?_
  exact aw_aret dd_al_get_14 rfl (Or.inl ⟨_, rfl⟩) (Or.inr ⟨_, rfl⟩) ⟨rfl, rfl⟩
