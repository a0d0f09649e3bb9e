/-! ===== names: printed by wip/whole/names.py out of the tables and of javap's listing ===== -/
def aw_T : List Cond := lw_tbl.filter goodWord
theorem aw_good : ∀ w ∈ aw_T, (w.onTables && w.keeps) = true ∨ ∃ ty, w = .arrayClass ty := fun w hw => good_of_word (List.mem_filter.mp hw).2
theorem aw_m1 {w : Cond} (i : Nat) (h : tables_1_1[i]? = some w) (hg : goodWord w = true) : w ∈ aw_T := List.mem_filter.mpr ⟨List.mem_append_right _ (List.mem_append_left _ (List.mem_of_getElem? h)), hg⟩
theorem aw_m2 {w : Cond} (i : Nat) (h : tables_1_2[i]? = some w) (hg : goodWord w = true) : w ∈ aw_T := List.mem_filter.mpr ⟨List.mem_append_right _ (List.mem_append_right _ (List.mem_append_left _ (List.mem_of_getElem? h))), hg⟩
theorem aw_m3 {w : Cond} (i : Nat) (h : tables_1_3[i]? = some w) (hg : goodWord w = true) : w ∈ aw_T := List.mem_filter.mpr ⟨List.mem_append_right _ (List.mem_append_right _ (List.mem_append_right _ (List.mem_append_left _ (List.mem_of_getElem? h)))), hg⟩
theorem aw_m4 {w : Cond} (i : Nat) (h : tables_1_4[i]? = some w) (hg : goodWord w = true) : w ∈ aw_T := List.mem_filter.mpr ⟨List.mem_append_right _ (List.mem_append_right _ (List.mem_append_right _ (List.mem_append_right _ (List.mem_of_getElem? h)))), hg⟩
theorem aw_ms {w : Cond} (i : Nat) (h : (k2_sels lw_privs)[i]? = some w) (hg : goodWord w = true) : w ∈ aw_T := List.mem_filter.mpr ⟨List.mem_append_left _ (List.mem_of_getElem? h), hg⟩
def aw_N : List Cond := [(Cond.castable "java/lang/IllegalStateException" "java/lang/IllegalStateException"), (Cond.declares ({ cls := "java/lang/RuntimeException", name := "<init>", desc := "()V" } : MethodName)), (Cond.declares ({ cls := "java/lang/RuntimeException", name := "<init>", desc := "(Ljava/lang/String;)V" } : MethodName)), (Cond.declares ({ cls := "java/lang/Exception", name := "<init>", desc := "()V" } : MethodName)), (Cond.declares ({ cls := "java/lang/Exception", name := "<init>", desc := "(Ljava/lang/String;)V" } : MethodName)), (Cond.declares ({ cls := "java/lang/Throwable", name := "<init>", desc := "()V" } : MethodName)), (Cond.declares ({ cls := "java/lang/Throwable", name := "<init>", desc := "(Ljava/lang/String;)V" } : MethodName)), (Cond.castable "java/lang/IndexOutOfBoundsException" "java/lang/IndexOutOfBoundsException"), (Cond.methodLinkNest "RoleAnalyser$Policy" (28 : Nat) ({ cls := "RoleAnalyser", name := "has", desc := "(II)Z" } : MethodName) "RoleAnalyser"), (Cond.castable "java/lang/IllegalArgumentException" "java/lang/IllegalArgumentException"), (Cond.methodLinkNest "RoleAnalyser$Rule" (26 : Nat) ({ cls := "RoleAnalyser", name := "has", desc := "(II)Z" } : MethodName) "RoleAnalyser"), (Cond.castable "java/lang/UnsupportedOperationException" "java/lang/UnsupportedOperationException"), (Cond.methodLinkNest "RoleAnalyser$Search" (37 : Nat) ({ cls := "RoleAnalyser", name := "has", desc := "(II)Z" } : MethodName) "RoleAnalyser"), (Cond.methodLinkNest "RoleAnalyser$Search" (91 : Nat) ({ cls := "RoleAnalyser", name := "areKept", desc := "(Ljava/util/ArrayList;I)Z" } : MethodName) "RoleAnalyser"), (Cond.castable "RoleAnalyser$Limit" "RoleAnalyser$Limit"), (Cond.castable "RoleAnalyser$Rule" "RoleAnalyser$Rule"), (Cond.declares ({ cls := "java/lang/Object", name := "getClass", desc := "()Ljava/lang/Class;" } : MethodName)), (Cond.castable "RoleAnalyser" "java/lang/Object"), (Cond.castable "RoleAnalyser$Policy" "java/lang/Object"), (Cond.castable "RoleAnalyser$Search" "java/lang/Object"), (Cond.castable "RoleAnalyserModel" "java/lang/Object"), (Cond.castable "RoleAnalyser$Limit" "java/lang/Object"), (Cond.castable "RoleAnalyser$Rule" "java/lang/Object"), (Cond.castable "java/lang/String" "java/lang/Object")]
theorem aw_Nwarm (w : Cond) (hw : w ∈ aw_N) {s U : State} (hW : s.WarmedH U.vm) (h : va_Nw w s) : va_Nw w U := by
  simp only [aw_N, List.mem_cons, List.not_mem_nil, or_false] at hw
  rcases hw with rfl | rfl | rfl | rfl | rfl | rfl | rfl | rfl | rfl | rfl | rfl | rfl | rfl | rfl | rfl | rfl | rfl | rfl | rfl | rfl | rfl | rfl | rfl | rfl
  all_goals first | exact va_Nw.warmC hW h | exact va_Nw.warmM hW h | exact va_Nw.warmD hW h
def aw_NC : List (String × String) := [("java/lang/IndexOutOfBoundsException", "java/lang/IllegalStateException"), ("java/lang/IllegalArgumentException", "java/lang/IllegalStateException"), ("java/lang/UnsupportedOperationException", "java/lang/IllegalStateException"), ("java/lang/IllegalStateException", "java/lang/IndexOutOfBoundsException"), ("java/lang/IllegalArgumentException", "java/lang/IndexOutOfBoundsException"), ("java/lang/UnsupportedOperationException", "java/lang/IndexOutOfBoundsException"), ("java/lang/IllegalStateException", "java/lang/IllegalArgumentException"), ("java/lang/IndexOutOfBoundsException", "java/lang/IllegalArgumentException"), ("java/lang/UnsupportedOperationException", "java/lang/IllegalArgumentException"), ("java/lang/IllegalStateException", "java/lang/UnsupportedOperationException"), ("java/lang/IndexOutOfBoundsException", "java/lang/UnsupportedOperationException"), ("java/lang/IllegalArgumentException", "java/lang/UnsupportedOperationException")]
def aw_SR : List (String × Nat × String) := [("RoleAnalyser", 50, "there are 6 roles"), ("RoleAnalyser", 58, "there are 5 users"), ("RoleAnalyser", 197, "no such role"), ("RoleAnalyser", 70, "a role would stand above itself"), ("RoleAnalyser", 211, "a static limit would not be kept"), ("RoleAnalyser", 219, "no such permission"), ("RoleAnalyser", 94, "the number of a limit is below 2"), ("RoleAnalyser", 221, "a set of roles is not 0 .. 63"), ("RoleAnalyser", 112, "there are 4 limits of the kind"), ("RoleAnalyser", 125, "the limit is not kept"), ("RoleAnalyser", 209, "there are 8 rules"), ("RoleAnalyser", 200, "no such user"), ("RoleAnalyser", 217, "no rule allows it"), ("RoleAnalyser", 156, "4 sessions are open"), ("RoleAnalyser", 202, "no such session is open"), ("RoleAnalyser", 163, "the user is not authorized for the role"), ("RoleAnalyser", 170, "a dynamic limit would not be kept"), ("RoleAnalyser", 204, "there are more than 12 pairs"), ("RoleAnalyser", 185, "no steps lead there")]
def ct_ra : u_T := fun k => match k with
  | 0 => ("RoleAnalyser", "policy", "LRoleAnalyser$Policy;", true)
  | 1 => ("RoleAnalyser", "search", "LRoleAnalyser$Search;", true)
  | 2 => ("RoleAnalyser", "assigned", "[I", true)
  | 3 => ("RoleAnalyser", "granted", "[I", true)
  | 4 => ("RoleAnalyser", "sessionUser", "[I", true)
  | 5 => ("RoleAnalyser", "sessionActive", "[I", true)
  | _ => ("RoleAnalyser", "userCount", "I", false)
def cy_ra : Nat → FieldType := fun k => match k with
  | 0 => .object "RoleAnalyser$Policy"
  | 1 => .object "RoleAnalyser$Search"
  | 2 => .array .int
  | 3 => .array .int
  | 4 => .array .int
  | 5 => .array .int
  | _ => .int
def ct_po : u_T := fun k => match k with
  | 0 => ("RoleAnalyser$Policy", "roleCount", "I", false)
  | 1 => ("RoleAnalyser$Policy", "authorizedBy", "[I", true)
  | 2 => ("RoleAnalyser$Policy", "staticLimits", "Ljava/util/ArrayList;", true)
  | 3 => ("RoleAnalyser$Policy", "dynamicLimits", "Ljava/util/ArrayList;", true)
  | _ => ("RoleAnalyser$Policy", "rules", "Ljava/util/ArrayList;", true)
def cy_po : Nat → FieldType := fun k => match k with
  | 0 => .int
  | 1 => .array .int
  | 2 => .object "java/util/ArrayList"
  | 3 => .object "java/util/ArrayList"
  | _ => .object "java/util/ArrayList"
def ct_se : u_T := fun k => match k with
  | 0 => ("RoleAnalyser$Search", "policy", "LRoleAnalyser$Policy;", true)
  | 1 => ("RoleAnalyser$Search", "found", "[I", true)
  | 2 => ("RoleAnalyser$Search", "lastStep", "[I", true)
  | 3 => ("RoleAnalyser$Search", "foundCount", "I", false)
  | _ => ("RoleAnalyser$Search", "users", "I", false)
def cy_se : Nat → FieldType := fun k => match k with
  | 0 => .object "RoleAnalyser$Policy"
  | 1 => .array .int
  | 2 => .array .int
  | 3 => .int
  | _ => .int
def ct_li : u_T := fun k => match k with
  | 0 => ("RoleAnalyser$Limit", "set", "I", true)
  | _ => ("RoleAnalyser$Limit", "number", "I", true)
def cy_li : Nat → FieldType := fun k => match k with
  | 0 => .int
  | _ => .int
def ct_ru : u_T := fun k => match k with
  | 0 => ("RoleAnalyser$Rule", "gives", "Z", true)
  | 1 => ("RoleAnalyser$Rule", "administratorRole", "I", true)
  | 2 => ("RoleAnalyser$Rule", "needed", "I", true)
  | 3 => ("RoleAnalyser$Rule", "unwanted", "I", true)
  | _ => ("RoleAnalyser$Rule", "movedRole", "I", true)
def cy_ru : Nat → FieldType := fun k => match k with
  | 0 => .boolean
  | 1 => .int
  | 2 => .int
  | 3 => .int
  | _ => .int
def ct_mo : u_T := fun k => match k with
  | 0 => ("RoleAnalyserModel", "fault", "I", false)
  | 1 => ("RoleAnalyserModel", "roleCount", "I", false)
  | 2 => ("RoleAnalyserModel", "userCount", "I", false)
  | 3 => ("RoleAnalyserModel", "below", "[I", true)
  | 4 => ("RoleAnalyserModel", "granted", "[I", true)
  | 5 => ("RoleAnalyserModel", "trial", "[I", true)
  | 6 => ("RoleAnalyserModel", "assigned", "[I", true)
  | 7 => ("RoleAnalyserModel", "limits", "[I", true)
  | 8 => ("RoleAnalyserModel", "limitSet", "[I", true)
  | 9 => ("RoleAnalyserModel", "limitMany", "[I", true)
  | 10 => ("RoleAnalyserModel", "isOpen", "[Z", true)
  | 11 => ("RoleAnalyserModel", "owner", "[I", true)
  | 12 => ("RoleAnalyserModel", "activeIn", "[I", true)
  | 13 => ("RoleAnalyserModel", "rules", "I", false)
  | 14 => ("RoleAnalyserModel", "gives", "[Z", true)
  | 15 => ("RoleAnalyserModel", "admin", "[I", true)
  | 16 => ("RoleAnalyserModel", "needed", "[I", true)
  | 17 => ("RoleAnalyserModel", "unwanted", "[I", true)
  | 18 => ("RoleAnalyserModel", "about", "[I", true)
  | 19 => ("RoleAnalyserModel", "reached", "[I", true)
  | 20 => ("RoleAnalyserModel", "leads", "[Z", true)
  | 21 => ("RoleAnalyserModel", "queue", "[I", true)
  | 22 => ("RoleAnalyserModel", "queued", "I", false)
  | _ => ("RoleAnalyserModel", "nearest", "I", false)
def cy_mo : Nat → FieldType := fun k => match k with
  | 0 => .int
  | 1 => .int
  | 2 => .int
  | 3 => .array .int
  | 4 => .array .int
  | 5 => .array .int
  | 6 => .array .int
  | 7 => .array .int
  | 8 => .array .int
  | 9 => .array .int
  | 10 => .array .boolean
  | 11 => .array .int
  | 12 => .array .int
  | 13 => .int
  | 14 => .array .boolean
  | 15 => .array .int
  | 16 => .array .int
  | 17 => .array .int
  | 18 => .array .int
  | 19 => .array .int
  | 20 => .array .boolean
  | 21 => .array .int
  | 22 => .int
  | _ => .int
def ct_al : u_T := fun k => match k with
  | 0 => ("java/util/AbstractList", "modCount", "I", false)
  | 1 => ("java/util/ArrayList", "elementData", "[Ljava/lang/Object;", false)
  | _ => ("java/util/ArrayList", "size", "I", false)
def cy_al : Nat → FieldType := fun k => match k with
  | 0 => .int
  | 1 => .array (.object "java/lang/Object")
  | _ => .int
def am_cl : List vw_C := [("RoleAnalyser", ct_ra, 7), ("RoleAnalyser$Policy", ct_po, 5), ("RoleAnalyser$Search", ct_se, 5), ("RoleAnalyser$Limit", ct_li, 2), ("RoleAnalyser$Rule", ct_ru, 5), ("RoleAnalyserModel", ct_mo, 24), ("java/util/ArrayList", ct_al, 3), ("java/lang/IllegalStateException", fun _ => ("", "", "", false), 0), ("java/lang/IndexOutOfBoundsException", fun _ => ("", "", "", false), 0), ("java/lang/IllegalArgumentException", fun _ => ("", "", "", false), 0), ("java/lang/UnsupportedOperationException", fun _ => ("", "", "", false), 0)]
def am_ty (ci k : Nat) : FieldType := match ci with
  | 0 => cy_ra k
  | 1 => cy_po k
  | 2 => cy_se k
  | 3 => cy_li k
  | 4 => cy_ru k
  | 5 => cy_mo k
  | 6 => cy_al k
  | _ => .int
theorem ok_ra : (∀ w ∈ u_ws "RoleAnalyser" ct_ra 7, w ∈ aw_T) ∧ (∀ k, k < 7 → parseFieldDescriptor (ct_ra k).2.2.1 = some (cy_ra k)) ∧ (∀ a, a < 7 → ∀ b, b < 7 → a ≠ b → (ct_ra a).2.1 ≠ (ct_ra b).2.1) := by
  refine ⟨?_, by decide +kernel, by decide +kernel⟩
  show ∀ w ∈ [(Cond.laysFinal "RoleAnalyser" "RoleAnalyser" "policy" "LRoleAnalyser$Policy;"), (Cond.laysFinal "RoleAnalyser" "RoleAnalyser" "search" "LRoleAnalyser$Search;"), (Cond.laysFinal "RoleAnalyser" "RoleAnalyser" "assigned" "[I"), (Cond.laysFinal "RoleAnalyser" "RoleAnalyser" "granted" "[I"), (Cond.laysFinal "RoleAnalyser" "RoleAnalyser" "sessionUser" "[I"), (Cond.laysFinal "RoleAnalyser" "RoleAnalyser" "sessionActive" "[I"), (Cond.lays "RoleAnalyser" "RoleAnalyser" "userCount" "I")], w ∈ aw_T
  intro w hw
  simp only [List.mem_cons, List.not_mem_nil, or_false] at hw
  rcases hw with rfl | rfl | rfl | rfl | rfl | rfl | rfl
  · exact aw_m1 120 rfl rfl
  · exact aw_m1 122 rfl rfl
  · exact aw_m1 124 rfl rfl
  · exact aw_m1 126 rfl rfl
  · exact aw_m1 128 rfl rfl
  · exact aw_m1 130 rfl rfl
  · exact aw_m1 132 rfl rfl
theorem ok_po : (∀ w ∈ u_ws "RoleAnalyser$Policy" ct_po 5, w ∈ aw_T) ∧ (∀ k, k < 5 → parseFieldDescriptor (ct_po k).2.2.1 = some (cy_po k)) ∧ (∀ a, a < 5 → ∀ b, b < 5 → a ≠ b → (ct_po a).2.1 ≠ (ct_po b).2.1) := by
  refine ⟨?_, by decide +kernel, by decide +kernel⟩
  show ∀ w ∈ [(Cond.lays "RoleAnalyser$Policy" "RoleAnalyser$Policy" "roleCount" "I"), (Cond.laysFinal "RoleAnalyser$Policy" "RoleAnalyser$Policy" "authorizedBy" "[I"), (Cond.laysFinal "RoleAnalyser$Policy" "RoleAnalyser$Policy" "staticLimits" "Ljava/util/ArrayList;"), (Cond.laysFinal "RoleAnalyser$Policy" "RoleAnalyser$Policy" "dynamicLimits" "Ljava/util/ArrayList;"), (Cond.laysFinal "RoleAnalyser$Policy" "RoleAnalyser$Policy" "rules" "Ljava/util/ArrayList;")], w ∈ aw_T
  intro w hw
  simp only [List.mem_cons, List.not_mem_nil, or_false] at hw
  rcases hw with rfl | rfl | rfl | rfl | rfl
  · exact aw_m1 77 rfl rfl
  · exact aw_m1 79 rfl rfl
  · exact aw_m1 81 rfl rfl
  · exact aw_m1 83 rfl rfl
  · exact aw_m1 85 rfl rfl
theorem ok_se : (∀ w ∈ u_ws "RoleAnalyser$Search" ct_se 5, w ∈ aw_T) ∧ (∀ k, k < 5 → parseFieldDescriptor (ct_se k).2.2.1 = some (cy_se k)) ∧ (∀ a, a < 5 → ∀ b, b < 5 → a ≠ b → (ct_se a).2.1 ≠ (ct_se b).2.1) := by
  refine ⟨?_, by decide +kernel, by decide +kernel⟩
  show ∀ w ∈ [(Cond.laysFinal "RoleAnalyser$Search" "RoleAnalyser$Search" "policy" "LRoleAnalyser$Policy;"), (Cond.laysFinal "RoleAnalyser$Search" "RoleAnalyser$Search" "found" "[I"), (Cond.laysFinal "RoleAnalyser$Search" "RoleAnalyser$Search" "lastStep" "[I"), (Cond.lays "RoleAnalyser$Search" "RoleAnalyser$Search" "foundCount" "I"), (Cond.lays "RoleAnalyser$Search" "RoleAnalyser$Search" "users" "I")], w ∈ aw_T
  intro w hw
  simp only [List.mem_cons, List.not_mem_nil, or_false] at hw
  rcases hw with rfl | rfl | rfl | rfl | rfl
  · exact aw_m1 99 rfl rfl
  · exact aw_m1 101 rfl rfl
  · exact aw_m1 103 rfl rfl
  · exact aw_m1 105 rfl rfl
  · exact aw_m1 107 rfl rfl
theorem ok_li : (∀ w ∈ u_ws "RoleAnalyser$Limit" ct_li 2, w ∈ aw_T) ∧ (∀ k, k < 2 → parseFieldDescriptor (ct_li k).2.2.1 = some (cy_li k)) ∧ (∀ a, a < 2 → ∀ b, b < 2 → a ≠ b → (ct_li a).2.1 ≠ (ct_li b).2.1) := by
  refine ⟨?_, by decide +kernel, by decide +kernel⟩
  show ∀ w ∈ [(Cond.laysFinal "RoleAnalyser$Limit" "RoleAnalyser$Limit" "set" "I"), (Cond.laysFinal "RoleAnalyser$Limit" "RoleAnalyser$Limit" "number" "I")], w ∈ aw_T
  intro w hw
  simp only [List.mem_cons, List.not_mem_nil, or_false] at hw
  rcases hw with rfl | rfl
  · exact aw_m2 114 rfl rfl
  · exact aw_m2 116 rfl rfl
theorem ok_ru : (∀ w ∈ u_ws "RoleAnalyser$Rule" ct_ru 5, w ∈ aw_T) ∧ (∀ k, k < 5 → parseFieldDescriptor (ct_ru k).2.2.1 = some (cy_ru k)) ∧ (∀ a, a < 5 → ∀ b, b < 5 → a ≠ b → (ct_ru a).2.1 ≠ (ct_ru b).2.1) := by
  refine ⟨?_, by decide +kernel, by decide +kernel⟩
  show ∀ w ∈ [(Cond.laysFinal "RoleAnalyser$Rule" "RoleAnalyser$Rule" "gives" "Z"), (Cond.laysFinal "RoleAnalyser$Rule" "RoleAnalyser$Rule" "administratorRole" "I"), (Cond.laysFinal "RoleAnalyser$Rule" "RoleAnalyser$Rule" "needed" "I"), (Cond.laysFinal "RoleAnalyser$Rule" "RoleAnalyser$Rule" "unwanted" "I"), (Cond.laysFinal "RoleAnalyser$Rule" "RoleAnalyser$Rule" "movedRole" "I")], w ∈ aw_T
  intro w hw
  simp only [List.mem_cons, List.not_mem_nil, or_false] at hw
  rcases hw with rfl | rfl | rfl | rfl | rfl
  · exact aw_m2 209 rfl rfl
  · exact aw_m2 211 rfl rfl
  · exact aw_m2 213 rfl rfl
  · exact aw_m2 215 rfl rfl
  · exact aw_m2 217 rfl rfl
theorem ok_mo : (∀ w ∈ u_ws "RoleAnalyserModel" ct_mo 24, w ∈ aw_T) ∧ (∀ k, k < 24 → parseFieldDescriptor (ct_mo k).2.2.1 = some (cy_mo k)) ∧ (∀ a, a < 24 → ∀ b, b < 24 → a ≠ b → (ct_mo a).2.1 ≠ (ct_mo b).2.1) := by
  refine ⟨?_, by decide +kernel, by decide +kernel⟩
  show ∀ w ∈ [(Cond.lays "RoleAnalyserModel" "RoleAnalyserModel" "fault" "I"), (Cond.lays "RoleAnalyserModel" "RoleAnalyserModel" "roleCount" "I"), (Cond.lays "RoleAnalyserModel" "RoleAnalyserModel" "userCount" "I"), (Cond.laysFinal "RoleAnalyserModel" "RoleAnalyserModel" "below" "[I"), (Cond.laysFinal "RoleAnalyserModel" "RoleAnalyserModel" "granted" "[I"), (Cond.laysFinal "RoleAnalyserModel" "RoleAnalyserModel" "trial" "[I"), (Cond.laysFinal "RoleAnalyserModel" "RoleAnalyserModel" "assigned" "[I"), (Cond.laysFinal "RoleAnalyserModel" "RoleAnalyserModel" "limits" "[I"), (Cond.laysFinal "RoleAnalyserModel" "RoleAnalyserModel" "limitSet" "[I"), (Cond.laysFinal "RoleAnalyserModel" "RoleAnalyserModel" "limitMany" "[I"), (Cond.laysFinal "RoleAnalyserModel" "RoleAnalyserModel" "isOpen" "[Z"), (Cond.laysFinal "RoleAnalyserModel" "RoleAnalyserModel" "owner" "[I"), (Cond.laysFinal "RoleAnalyserModel" "RoleAnalyserModel" "activeIn" "[I"), (Cond.lays "RoleAnalyserModel" "RoleAnalyserModel" "rules" "I"), (Cond.laysFinal "RoleAnalyserModel" "RoleAnalyserModel" "gives" "[Z"), (Cond.laysFinal "RoleAnalyserModel" "RoleAnalyserModel" "admin" "[I"), (Cond.laysFinal "RoleAnalyserModel" "RoleAnalyserModel" "needed" "[I"), (Cond.laysFinal "RoleAnalyserModel" "RoleAnalyserModel" "unwanted" "[I"), (Cond.laysFinal "RoleAnalyserModel" "RoleAnalyserModel" "about" "[I"), (Cond.laysFinal "RoleAnalyserModel" "RoleAnalyserModel" "reached" "[I"), (Cond.laysFinal "RoleAnalyserModel" "RoleAnalyserModel" "leads" "[Z"), (Cond.laysFinal "RoleAnalyserModel" "RoleAnalyserModel" "queue" "[I"), (Cond.lays "RoleAnalyserModel" "RoleAnalyserModel" "queued" "I"), (Cond.lays "RoleAnalyserModel" "RoleAnalyserModel" "nearest" "I")], w ∈ aw_T
  intro w hw
  simp only [List.mem_cons, List.not_mem_nil, or_false] at hw
  rcases hw with rfl | rfl | rfl | rfl | rfl | rfl | rfl | rfl | rfl | rfl | rfl | rfl | rfl | rfl | rfl | rfl | rfl | rfl | rfl | rfl | rfl | rfl | rfl | rfl
  · exact aw_m3 230 rfl rfl
  · exact aw_m3 232 rfl rfl
  · exact aw_m3 234 rfl rfl
  · exact aw_m3 236 rfl rfl
  · exact aw_m3 238 rfl rfl
  · exact aw_m4 0 rfl rfl
  · exact aw_m4 2 rfl rfl
  · exact aw_m4 4 rfl rfl
  · exact aw_m4 6 rfl rfl
  · exact aw_m4 8 rfl rfl
  · exact aw_m4 10 rfl rfl
  · exact aw_m4 12 rfl rfl
  · exact aw_m4 14 rfl rfl
  · exact aw_m4 16 rfl rfl
  · exact aw_m4 18 rfl rfl
  · exact aw_m4 20 rfl rfl
  · exact aw_m4 22 rfl rfl
  · exact aw_m4 24 rfl rfl
  · exact aw_m4 26 rfl rfl
  · exact aw_m4 28 rfl rfl
  · exact aw_m4 30 rfl rfl
  · exact aw_m4 32 rfl rfl
  · exact aw_m4 34 rfl rfl
  · exact aw_m4 36 rfl rfl
theorem ok_al : (∀ w ∈ u_ws "java/util/ArrayList" ct_al 3, w ∈ aw_T) ∧ (∀ k, k < 3 → parseFieldDescriptor (ct_al k).2.2.1 = some (cy_al k)) ∧ (∀ a, a < 3 → ∀ b, b < 3 → a ≠ b → (ct_al a).2.1 ≠ (ct_al b).2.1) := by
  refine ⟨?_, by decide +kernel, by decide +kernel⟩
  show ∀ w ∈ [(Cond.lays "java/util/ArrayList" "java/util/AbstractList" "modCount" "I"), (Cond.lays "java/util/ArrayList" "java/util/ArrayList" "elementData" "[Ljava/lang/Object;"), (Cond.lays "java/util/ArrayList" "java/util/ArrayList" "size" "I")], w ∈ aw_T
  intro w hw
  simp only [List.mem_cons, List.not_mem_nil, or_false] at hw
  rcases hw with rfl | rfl | rfl
  · exact aw_m1 61 rfl rfl
  · exact aw_m1 57 rfl rfl
  · exact aw_m1 59 rfl rfl
theorem am_ok : ∀ (ci : Nat) (r : vw_C), am_cl[ci]? = some r → (∀ w ∈ u_ws r.1 r.2.1 r.2.2, w ∈ aw_T) ∧ (∀ k, k < r.2.2 → parseFieldDescriptor (r.2.1 k).2.2.1 = some (am_ty ci k)) ∧ (∀ a, a < r.2.2 → ∀ b, b < r.2.2 → a ≠ b → (r.2.1 a).2.1 ≠ (r.2.1 b).2.1)
  | 0, _, h => by cases h; exact ok_ra
  | 1, _, h => by cases h; exact ok_po
  | 2, _, h => by cases h; exact ok_se
  | 3, _, h => by cases h; exact ok_li
  | 4, _, h => by cases h; exact ok_ru
  | 5, _, h => by cases h; exact ok_mo
  | 6, _, h => by cases h; exact ok_al
  | 7, _, h => by cases h; exact ⟨fun w hw => absurd hw List.not_mem_nil, fun k hk => absurd hk (Nat.not_lt_zero k), fun a ha => absurd ha (Nat.not_lt_zero a)⟩
  | 8, _, h => by cases h; exact ⟨fun w hw => absurd hw List.not_mem_nil, fun k hk => absurd hk (Nat.not_lt_zero k), fun a ha => absurd ha (Nat.not_lt_zero a)⟩
  | 9, _, h => by cases h; exact ⟨fun w hw => absurd hw List.not_mem_nil, fun k hk => absurd hk (Nat.not_lt_zero k), fun a ha => absurd ha (Nat.not_lt_zero a)⟩
  | 10, _, h => by cases h; exact ⟨fun w hw => absurd hw List.not_mem_nil, fun k hk => absurd hk (Nat.not_lt_zero k), fun a ha => absurd ha (Nat.not_lt_zero a)⟩
  | n + 11, _, h => by cases h
