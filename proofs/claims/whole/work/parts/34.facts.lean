/-! ===== methods and links as facts: printed by wip/whole/facts.py ===== -/
def mm_ra_init : am_M := ("RoleAnalyser", ⟨"RoleAnalyser", "<init>", "()V"⟩, prog_1_method_1_code, 1, none, [])
theorem my_ra_init : aw_my mm_ra_init := ⟨Or.inl ⟨aw_m1 28 rfl rfl, rfl⟩, by decide +kernel, rfl⟩
def mm_po_init : am_M := ("RoleAnalyser$Policy", ⟨"RoleAnalyser$Policy", "<init>", "()V"⟩, prog_3_method_1_code, 2, none, [])
theorem my_po_init : aw_my mm_po_init := ⟨Or.inl ⟨aw_m1 36 rfl rfl, rfl⟩, by decide +kernel, rfl⟩
def mm_al_init : am_M := ("java/util/ArrayList", ⟨"java/util/ArrayList", "<init>", "()V"⟩, prog_24_method_2_code, 1, none, [])
theorem my_al_init : aw_my mm_al_init := ⟨Or.inl ⟨aw_m1 42 rfl rfl, rfl⟩, by decide +kernel, rfl⟩
def mm_bl_init : am_M := ("java/util/AbstractList", ⟨"java/util/AbstractList", "<init>", "()V"⟩, prog_23_method_1_code, 1, none, [])
theorem my_bl_init : aw_my mm_bl_init := ⟨Or.inl ⟨aw_m1 45 rfl rfl, rfl⟩, by decide +kernel, rfl⟩
def mm_bc_init : am_M := ("java/util/AbstractCollection", ⟨"java/util/AbstractCollection", "<init>", "()V"⟩, prog_22_method_1_code, 1, none, [])
theorem my_bc_init : aw_my mm_bc_init := ⟨Or.inl ⟨aw_m1 48 rfl rfl, rfl⟩, by decide +kernel, rfl⟩
def mm_se_init : am_M := ("RoleAnalyser$Search", ⟨"RoleAnalyser$Search", "<init>", "(LRoleAnalyser$Policy;)V"⟩, prog_5_method_1_code, 2, none, [])
theorem my_se_init : aw_my mm_se_init := ⟨Or.inl ⟨aw_m1 92 rfl rfl, rfl⟩, by decide +kernel, rfl⟩
def mm_ar_fill : am_M := ("java/util/Arrays", ⟨"java/util/Arrays", "fill", "([II)V"⟩, prog_25_method_103_code, 4, none, [])
theorem my_ar_fill : aw_my mm_ar_fill := ⟨Or.inl ⟨aw_m1 112 rfl rfl, rfl⟩, by decide +kernel, rfl⟩
def mm_lw_role : am_M := ("RoleAnalyserLaw", ⟨"RoleAnalyserLaw", "role", "(LRoleAnalyser;[J)I"⟩, method_3_code, 3, (some .int), [(0, 8, 11, 13)])
theorem my_lw_role : aw_my mm_lw_role := ⟨Or.inr (aw_m1 137 rfl rfl), by decide +kernel, rfl⟩
def mm_ra_role : am_M := ("RoleAnalyser", ⟨"RoleAnalyser", "role", "()I"⟩, prog_1_method_2_code, 2, (some .int), [])
theorem my_ra_role : aw_my mm_ra_role := ⟨Or.inl ⟨aw_m1 142 rfl rfl, rfl⟩, by decide +kernel, rfl⟩
def mm_lw_user : am_M := ("RoleAnalyserLaw", ⟨"RoleAnalyserLaw", "user", "(LRoleAnalyser;[J)I"⟩, method_4_code, 3, (some .int), [(0, 8, 11, 13)])
theorem my_lw_user : aw_my mm_lw_user := ⟨Or.inr (aw_m1 214 rfl rfl), by decide +kernel, rfl⟩
def mm_ra_user : am_M := ("RoleAnalyser", ⟨"RoleAnalyser", "user", "()I"⟩, prog_1_method_3_code, 2, (some .int), [])
theorem my_ra_user : aw_my mm_ra_user := ⟨Or.inl ⟨aw_m1 218 rfl rfl, rfl⟩, by decide +kernel, rfl⟩
def mm_lw_above : am_M := ("RoleAnalyserLaw", ⟨"RoleAnalyserLaw", "above", "(LRoleAnalyser;II[J)I"⟩, method_5_code, 5, (some .int), [(0, 17, 20, 22), (0, 17, 24, 24), (0, 17, 28, 13)])
theorem my_lw_above : aw_my mm_lw_above := ⟨Or.inr (aw_m1 222 rfl rfl), by decide +kernel, rfl⟩
def mm_ra_above : am_M := ("RoleAnalyser", ⟨"RoleAnalyser", "above", "(II)Z"⟩, prog_1_method_4_code, 4, (some .boolean), [])
theorem my_ra_above : aw_my mm_ra_above := ⟨Or.inl ⟨aw_m1 228 rfl rfl, rfl⟩, by decide +kernel, rfl⟩
def mm_ra_checkRole : am_M := ("RoleAnalyser", ⟨"RoleAnalyser", "checkRole", "(I)V"⟩, prog_1_method_27_code, 2, none, [])
theorem my_ra_checkRole : aw_my mm_ra_checkRole := ⟨Or.inl ⟨aw_m1 232 rfl rfl, rfl⟩, by decide +kernel, rfl⟩
def mm_po_standsAbove : am_M := ("RoleAnalyser$Policy", ⟨"RoleAnalyser$Policy", "standsAbove", "(II)Z"⟩, prog_3_method_2_code, 3, (some .boolean), [])
theorem my_po_standsAbove : aw_my mm_po_standsAbove := ⟨Or.inl ⟨aw_m2 12 rfl rfl, rfl⟩, by decide +kernel, rfl⟩
def mm_ra_has : am_M := ("RoleAnalyser", ⟨"RoleAnalyser", "has", "(II)Z"⟩, prog_1_method_36_code, 2, (some .boolean), [])
theorem my_ra_has : aw_my mm_ra_has := ⟨Or.inl ⟨aw_m2 15 rfl rfl, rfl⟩, by decide +kernel, rfl⟩
def mm_ra_authorizedRoles : am_M := ("RoleAnalyser", ⟨"RoleAnalyser", "authorizedRoles", "(I)I"⟩, prog_1_method_22_code, 2, (some .int), [])
theorem my_ra_authorizedRoles : aw_my mm_ra_authorizedRoles := ⟨Or.inl ⟨aw_m2 35 rfl rfl, rfl⟩, by decide +kernel, rfl⟩
def mm_po_widened : am_M := ("RoleAnalyser$Policy", ⟨"RoleAnalyser$Policy", "widened", "(III)I"⟩, prog_3_method_3_code, 4, (some .int), [])
theorem my_po_widened : aw_my mm_po_widened := ⟨Or.inl ⟨aw_m2 39 rfl rfl, rfl⟩, by decide +kernel, rfl⟩
def mm_ra_checkStaticLimits : am_M := ("RoleAnalyser", ⟨"RoleAnalyser", "checkStaticLimits", "(I)V"⟩, prog_1_method_32_code, 2, none, [])
theorem my_ra_checkStaticLimits : aw_my mm_ra_checkStaticLimits := ⟨Or.inl ⟨aw_m2 43 rfl rfl, rfl⟩, by decide +kernel, rfl⟩
def mm_ra_areKept : am_M := ("RoleAnalyser", ⟨"RoleAnalyser", "areKept", "(Ljava/util/ArrayList;I)Z"⟩, prog_1_method_37_code, 3, (some .boolean), [])
theorem my_ra_areKept : aw_my mm_ra_areKept := ⟨Or.inl ⟨aw_m2 46 rfl rfl, rfl⟩, by decide +kernel, rfl⟩
def mm_al_size : am_M := ("java/util/ArrayList", ⟨"java/util/ArrayList", "size", "()I"⟩, prog_24_method_8_code, 1, (some .int), [])
theorem my_al_size : aw_my mm_al_size := ⟨Or.inl ⟨aw_m2 50 rfl rfl, rfl⟩, by decide +kernel, rfl⟩
def mm_al_get : am_M := ("java/util/ArrayList", ⟨"java/util/ArrayList", "get", "(I)Ljava/lang/Object;"⟩, prog_24_method_20_code, 2, (some (.object "java/lang/Object")), [])
theorem my_al_get : aw_my mm_al_get := ⟨Or.inl ⟨aw_m2 54 rfl rfl, rfl⟩, by decide +kernel, rfl⟩
def mm_ot_checkIndex : am_M := ("java/util/Objects", ⟨"java/util/Objects", "checkIndex", "(II)I"⟩, prog_28_method_17_code, 2, (some .int), [])
theorem my_ot_checkIndex : aw_my mm_ot_checkIndex := ⟨Or.inl ⟨aw_m2 57 rfl rfl, rfl⟩, by decide +kernel, rfl⟩
def mm_pc_checkIndex : am_M := ("jdk/internal/util/Preconditions", ⟨"jdk/internal/util/Preconditions", "checkIndex", "(IILjava/util/function/BiFunction;)I"⟩, prog_32_method_11_code, 3, (some .int), [])
theorem my_pc_checkIndex : aw_my mm_pc_checkIndex := ⟨Or.inl ⟨aw_m2 60 rfl rfl, rfl⟩, by decide +kernel, rfl⟩
def mm_al_elementData : am_M := ("java/util/ArrayList", ⟨"java/util/ArrayList", "elementData", "(I)Ljava/lang/Object;"⟩, prog_24_method_18_code, 2, (some (.object "java/lang/Object")), [])
theorem my_al_elementData : aw_my mm_al_elementData := ⟨Or.inl ⟨aw_m2 64 rfl rfl, rfl⟩, by decide +kernel, rfl⟩
def mm_li_isKept : am_M := ("RoleAnalyser$Limit", ⟨"RoleAnalyser$Limit", "isKept", "(I)Z"⟩, prog_2_method_2_code, 2, (some .boolean), [])
theorem my_li_isKept : aw_my mm_li_isKept := ⟨Or.inl ⟨aw_m2 69 rfl rfl, rfl⟩, by decide +kernel, rfl⟩
def mm_ig_bitCount : am_M := ("java/lang/Integer", ⟨"java/lang/Integer", "bitCount", "(I)I"⟩, prog_14_method_49_code, 1, (some .int), [])
theorem my_ig_bitCount : aw_my mm_ig_bitCount := ⟨Or.inl ⟨aw_m2 72 rfl rfl, rfl⟩, by decide +kernel, rfl⟩
def mm_po_putAbove : am_M := ("RoleAnalyser$Policy", ⟨"RoleAnalyser$Policy", "putAbove", "(II)V"⟩, prog_3_method_4_code, 4, none, [])
theorem my_po_putAbove : aw_my mm_po_putAbove := ⟨Or.inl ⟨aw_m2 80 rfl rfl, rfl⟩, by decide +kernel, rfl⟩
def mm_lw_grant : am_M := ("RoleAnalyserLaw", ⟨"RoleAnalyserLaw", "grant", "(LRoleAnalyser;II[J)I"⟩, method_6_code, 5, (some .int), [(0, 17, 20, 22)])
theorem my_lw_grant : aw_my mm_lw_grant := ⟨Or.inr (aw_m2 84 rfl rfl), by decide +kernel, rfl⟩
def mm_ra_grant : am_M := ("RoleAnalyser", ⟨"RoleAnalyser", "grant", "(II)Z"⟩, prog_1_method_5_code, 4, (some .boolean), [])
theorem my_ra_grant : aw_my mm_ra_grant := ⟨Or.inl ⟨aw_m2 88 rfl rfl, rfl⟩, by decide +kernel, rfl⟩
def mm_ra_checkPermission : am_M := ("RoleAnalyser", ⟨"RoleAnalyser", "checkPermission", "(I)V"⟩, prog_1_method_34_code, 1, none, [])
theorem my_ra_checkPermission : aw_my mm_ra_checkPermission := ⟨Or.inl ⟨aw_m2 91 rfl rfl, rfl⟩, by decide +kernel, rfl⟩
def mm_lw_limit : am_M := ("RoleAnalyserLaw", ⟨"RoleAnalyserLaw", "limit", "(LRoleAnalyser;ZII)I"⟩, method_7_code, 5, (some .int), [(0, 7, 10, 24), (0, 7, 14, 13)])
theorem my_lw_limit : aw_my mm_lw_limit := ⟨Or.inr (aw_m2 96 rfl rfl), by decide +kernel, rfl⟩
def mm_ra_limit : am_M := ("RoleAnalyser", ⟨"RoleAnalyser", "limit", "(ZII)V"⟩, prog_1_method_6_code, 6, none, [])
theorem my_ra_limit : aw_my mm_ra_limit := ⟨Or.inl ⟨aw_m2 100 rfl rfl, rfl⟩, by decide +kernel, rfl⟩
def mm_ra_checkRoleSet : am_M := ("RoleAnalyser", ⟨"RoleAnalyser", "checkRoleSet", "(I)V"⟩, prog_1_method_35_code, 1, none, [])
theorem my_ra_checkRoleSet : aw_my mm_ra_checkRoleSet := ⟨Or.inl ⟨aw_m2 104 rfl rfl, rfl⟩, by decide +kernel, rfl⟩
def mm_li_init : am_M := ("RoleAnalyser$Limit", ⟨"RoleAnalyser$Limit", "<init>", "(II)V"⟩, prog_2_method_1_code, 3, none, [])
theorem my_li_init : aw_my mm_li_init := ⟨Or.inl ⟨aw_m2 110 rfl rfl, rfl⟩, by decide +kernel, rfl⟩
def mm_ra_isKeptBySessions : am_M := ("RoleAnalyser", ⟨"RoleAnalyser", "isKeptBySessions", "(LRoleAnalyser$Limit;)Z"⟩, prog_1_method_26_code, 3, (some .boolean), [])
theorem my_ra_isKeptBySessions : aw_my mm_ra_isKeptBySessions := ⟨Or.inl ⟨aw_m2 122 rfl rfl, rfl⟩, by decide +kernel, rfl⟩
def mm_ra_isKeptByUsers : am_M := ("RoleAnalyser", ⟨"RoleAnalyser", "isKeptByUsers", "(LRoleAnalyser$Limit;)Z"⟩, prog_1_method_25_code, 3, (some .boolean), [])
theorem my_ra_isKeptByUsers : aw_my mm_ra_isKeptByUsers := ⟨Or.inl ⟨aw_m2 126 rfl rfl, rfl⟩, by decide +kernel, rfl⟩
def mm_al_add1 : am_M := ("java/util/ArrayList", ⟨"java/util/ArrayList", "add", "(Ljava/lang/Object;)Z"⟩, prog_24_method_25_code, 2, (some .boolean), [])
theorem my_al_add1 : aw_my mm_al_add1 := ⟨Or.inl ⟨aw_m2 131 rfl rfl, rfl⟩, by decide +kernel, rfl⟩
def mm_al_add2 : am_M := ("java/util/ArrayList", ⟨"java/util/ArrayList", "add", "(Ljava/lang/Object;[Ljava/lang/Object;I)V"⟩, prog_24_method_24_code, 4, none, [])
theorem my_al_add2 : aw_my mm_al_add2 := ⟨Or.inl ⟨aw_m2 135 rfl rfl, rfl⟩, by decide +kernel, rfl⟩
def mm_al_grow1 : am_M := ("java/util/ArrayList", ⟨"java/util/ArrayList", "grow", "()[Ljava/lang/Object;"⟩, prog_24_method_7_code, 1, (some (.array (.object "java/lang/Object"))), [])
theorem my_al_grow1 : aw_my mm_al_grow1 := ⟨Or.inl ⟨aw_m2 139 rfl rfl, rfl⟩, by decide +kernel, rfl⟩
def mm_al_grow2 : am_M := ("java/util/ArrayList", ⟨"java/util/ArrayList", "grow", "(I)[Ljava/lang/Object;"⟩, prog_24_method_6_code, 4, (some (.array (.object "java/lang/Object"))), [])
theorem my_al_grow2 : aw_my mm_al_grow2 := ⟨Or.inl ⟨aw_m2 143 rfl rfl, rfl⟩, by decide +kernel, rfl⟩
def mm_su_newLength : am_M := ("jdk/internal/util/ArraysSupport", ⟨"jdk/internal/util/ArraysSupport", "newLength", "(III)I"⟩, prog_31_method_27_code, 4, (some .int), [])
theorem my_su_newLength : aw_my mm_su_newLength := ⟨Or.inl ⟨aw_m2 146 rfl rfl, rfl⟩, by decide +kernel, rfl⟩
def mm_ma_max : am_M := ("java/lang/Math", ⟨"java/lang/Math", "max", "(II)I"⟩, prog_16_method_65_code, 2, (some .int), [])
theorem my_ma_max : aw_my mm_ma_max := ⟨Or.inl ⟨aw_m2 149 rfl rfl, rfl⟩, by decide +kernel, rfl⟩
def mm_su_hugeLength : am_M := ("jdk/internal/util/ArraysSupport", ⟨"jdk/internal/util/ArraysSupport", "hugeLength", "(II)I"⟩, prog_31_method_28_code, 3, (some .int), [])
theorem my_su_hugeLength : aw_my mm_su_hugeLength := ⟨Or.inl ⟨aw_m2 153 rfl rfl, rfl⟩, by decide +kernel, rfl⟩
def mm_ar_copyOf1 : am_M := ("java/util/Arrays", ⟨"java/util/Arrays", "copyOf", "([Ljava/lang/Object;I)[Ljava/lang/Object;"⟩, prog_25_method_119_code, 2, (some (.array (.object "java/lang/Object"))), [])
theorem my_ar_copyOf1 : aw_my mm_ar_copyOf1 := ⟨Or.inl ⟨aw_m2 156 rfl rfl, rfl⟩, by decide +kernel, rfl⟩
def mm_ar_copyOf2 : am_M := ("java/util/Arrays", ⟨"java/util/Arrays", "copyOf", "([Ljava/lang/Object;ILjava/lang/Class;)[Ljava/lang/Object;"⟩, prog_25_method_120_code, 4, (some (.array (.object "java/lang/Object"))), [])
theorem my_ar_copyOf2 : aw_my mm_ar_copyOf2 := ⟨Or.inl ⟨aw_m2 174 rfl rfl, rfl⟩, by decide +kernel, rfl⟩
def mm_ma_min : am_M := ("java/lang/Math", ⟨"java/lang/Math", "min", "(II)I"⟩, prog_16_method_69_code, 2, (some .int), [])
theorem my_ma_min : aw_my mm_ma_min := ⟨Or.inl ⟨aw_m2 180 rfl rfl, rfl⟩, by decide +kernel, rfl⟩
def mm_lw_giveRule : am_M := ("RoleAnalyserLaw", ⟨"RoleAnalyserLaw", "giveRule", "(LRoleAnalyser;IIII[J)I"⟩, method_8_code, 7, (some .int), [(0, 14, 17, 22), (0, 14, 21, 24), (0, 14, 25, 13)])
theorem my_lw_giveRule : aw_my mm_lw_giveRule := ⟨Or.inr (aw_m2 188 rfl rfl), by decide +kernel, rfl⟩
def mm_ra_giveRule : am_M := ("RoleAnalyser", ⟨"RoleAnalyser", "giveRule", "(IIII)I"⟩, prog_1_method_7_code, 5, (some .int), [])
theorem my_ra_giveRule : aw_my mm_ra_giveRule := ⟨Or.inl ⟨aw_m2 192 rfl rfl, rfl⟩, by decide +kernel, rfl⟩
def mm_ra_checkRoomForRule : am_M := ("RoleAnalyser", ⟨"RoleAnalyser", "checkRoomForRule", "()V"⟩, prog_1_method_31_code, 1, none, [])
theorem my_ra_checkRoomForRule : aw_my mm_ra_checkRoomForRule := ⟨Or.inl ⟨aw_m2 196 rfl rfl, rfl⟩, by decide +kernel, rfl⟩
def mm_ru_init : am_M := ("RoleAnalyser$Rule", ⟨"RoleAnalyser$Rule", "<init>", "(ZIIII)V"⟩, prog_4_method_1_code, 6, none, [])
theorem my_ru_init : aw_my mm_ru_init := ⟨Or.inl ⟨aw_m2 202 rfl rfl, rfl⟩, by decide +kernel, rfl⟩
def mm_po_addRule : am_M := ("RoleAnalyser$Policy", ⟨"RoleAnalyser$Policy", "addRule", "(LRoleAnalyser$Rule;)I"⟩, prog_3_method_5_code, 2, (some .int), [])
theorem my_po_addRule : aw_my mm_po_addRule := ⟨Or.inl ⟨aw_m2 223 rfl rfl, rfl⟩, by decide +kernel, rfl⟩
def mm_lw_takeRule : am_M := ("RoleAnalyserLaw", ⟨"RoleAnalyserLaw", "takeRule", "(LRoleAnalyser;II[J)I"⟩, method_9_code, 5, (some .int), [(0, 10, 13, 22), (0, 10, 17, 13)])
theorem my_lw_takeRule : aw_my mm_lw_takeRule := ⟨Or.inr (aw_m2 228 rfl rfl), by decide +kernel, rfl⟩
def mm_ra_takeRule : am_M := ("RoleAnalyser", ⟨"RoleAnalyser", "takeRule", "(II)I"⟩, prog_1_method_8_code, 3, (some .int), [])
theorem my_ra_takeRule : aw_my mm_ra_takeRule := ⟨Or.inl ⟨aw_m2 232 rfl rfl, rfl⟩, by decide +kernel, rfl⟩
def mm_lw_assign : am_M := ("RoleAnalyserLaw", ⟨"RoleAnalyserLaw", "assign", "(LRoleAnalyser;II[J)I"⟩, method_10_code, 5, (some .int), [(0, 17, 20, 22), (0, 17, 24, 13)])
theorem my_lw_assign : aw_my mm_lw_assign := ⟨Or.inr (aw_m2 235 rfl rfl), by decide +kernel, rfl⟩
def mm_ra_assign : am_M := ("RoleAnalyser", ⟨"RoleAnalyser", "assign", "(II)Z"⟩, prog_1_method_9_code, 3, (some .boolean), [])
theorem my_ra_assign : aw_my mm_ra_assign := ⟨Or.inl ⟨aw_m2 239 rfl rfl, rfl⟩, by decide +kernel, rfl⟩
def mm_ra_checkUser : am_M := ("RoleAnalyser", ⟨"RoleAnalyser", "checkUser", "(I)V"⟩, prog_1_method_28_code, 2, none, [])
theorem my_ra_checkUser : aw_my mm_ra_checkUser := ⟨Or.inl ⟨aw_m3 3 rfl rfl, rfl⟩, by decide +kernel, rfl⟩
def mm_ra_addAssignment : am_M := ("RoleAnalyser", ⟨"RoleAnalyser", "addAssignment", "(II)Z"⟩, prog_1_method_23_code, 5, (some .boolean), [])
theorem my_ra_addAssignment : aw_my mm_ra_addAssignment := ⟨Or.inl ⟨aw_m3 8 rfl rfl, rfl⟩, by decide +kernel, rfl⟩
def mm_lw_remove : am_M := ("RoleAnalyserLaw", ⟨"RoleAnalyserLaw", "remove", "(LRoleAnalyser;II[J)I"⟩, method_11_code, 5, (some .int), [(0, 17, 20, 22)])
theorem my_lw_remove : aw_my mm_lw_remove := ⟨Or.inr (aw_m3 11 rfl rfl), by decide +kernel, rfl⟩
def mm_ra_remove : am_M := ("RoleAnalyser", ⟨"RoleAnalyser", "remove", "(II)Z"⟩, prog_1_method_10_code, 3, (some .boolean), [])
theorem my_ra_remove : aw_my mm_ra_remove := ⟨Or.inl ⟨aw_m3 15 rfl rfl, rfl⟩, by decide +kernel, rfl⟩
def mm_ra_dropAssignment : am_M := ("RoleAnalyser", ⟨"RoleAnalyser", "dropAssignment", "(II)Z"⟩, prog_1_method_24_code, 5, (some .boolean), [])
theorem my_ra_dropAssignment : aw_my mm_ra_dropAssignment := ⟨Or.inl ⟨aw_m3 19 rfl rfl, rfl⟩, by decide +kernel, rfl⟩
def mm_lw_give : am_M := ("RoleAnalyserLaw", ⟨"RoleAnalyserLaw", "give", "(LRoleAnalyser;III[J)I"⟩, method_12_code, 6, (some .int), [(0, 19, 22, 22), (0, 19, 26, 51), (0, 19, 30, 13)])
theorem my_lw_give : aw_my mm_lw_give := ⟨Or.inr (aw_m3 22 rfl rfl), by decide +kernel, rfl⟩
def mm_ra_give : am_M := ("RoleAnalyser", ⟨"RoleAnalyser", "give", "(III)Z"⟩, prog_1_method_11_code, 4, (some .boolean), [])
theorem my_ra_give : aw_my mm_ra_give := ⟨Or.inl ⟨aw_m3 27 rfl rfl, rfl⟩, by decide +kernel, rfl⟩
def mm_ra_checkLeave : am_M := ("RoleAnalyser", ⟨"RoleAnalyser", "checkLeave", "(ZIII)V"⟩, prog_1_method_33_code, 5, none, [])
theorem my_ra_checkLeave : aw_my mm_ra_checkLeave := ⟨Or.inl ⟨aw_m3 31 rfl rfl, rfl⟩, by decide +kernel, rfl⟩
def mm_po_isAllowed : am_M := ("RoleAnalyser$Policy", ⟨"RoleAnalyser$Policy", "isAllowed", "(ZIII)Z"⟩, prog_3_method_6_code, 7, (some .boolean), [])
theorem my_po_isAllowed : aw_my mm_po_isAllowed := ⟨Or.inl ⟨aw_m3 35 rfl rfl, rfl⟩, by decide +kernel, rfl⟩
def mm_ru_isFor : am_M := ("RoleAnalyser$Rule", ⟨"RoleAnalyser$Rule", "isFor", "(ZI)Z"⟩, prog_4_method_2_code, 3, (some .boolean), [])
theorem my_ru_isFor : aw_my mm_ru_isFor := ⟨Or.inl ⟨aw_m3 41 rfl rfl, rfl⟩, by decide +kernel, rfl⟩
def mm_ru_allows : am_M := ("RoleAnalyser$Rule", ⟨"RoleAnalyser$Rule", "allows", "(II)Z"⟩, prog_4_method_3_code, 3, (some .boolean), [])
theorem my_ru_allows : aw_my mm_ru_allows := ⟨Or.inl ⟨aw_m3 45 rfl rfl, rfl⟩, by decide +kernel, rfl⟩
def mm_lw_take : am_M := ("RoleAnalyserLaw", ⟨"RoleAnalyserLaw", "take", "(LRoleAnalyser;III[J)I"⟩, method_13_code, 6, (some .int), [(0, 19, 22, 22), (0, 19, 26, 51)])
theorem my_lw_take : aw_my mm_lw_take := ⟨Or.inr (aw_m3 65 rfl rfl), by decide +kernel, rfl⟩
def mm_ra_take : am_M := ("RoleAnalyser", ⟨"RoleAnalyser", "take", "(III)Z"⟩, prog_1_method_12_code, 4, (some .boolean), [])
theorem my_ra_take : aw_my mm_ra_take := ⟨Or.inl ⟨aw_m3 69 rfl rfl, rfl⟩, by decide +kernel, rfl⟩
def mm_lw_roles : am_M := ("RoleAnalyserLaw", ⟨"RoleAnalyserLaw", "roles", "(LRoleAnalyser;IZ[J)I"⟩, method_14_code, 5, (some .int), [(0, 10, 13, 22)])
theorem my_lw_roles : aw_my mm_lw_roles := ⟨Or.inr (aw_m3 72 rfl rfl), by decide +kernel, rfl⟩
def mm_ra_roles : am_M := ("RoleAnalyser", ⟨"RoleAnalyser", "roles", "(IZ)I"⟩, prog_1_method_13_code, 3, (some .int), [])
theorem my_ra_roles : aw_my mm_ra_roles := ⟨Or.inl ⟨aw_m3 76 rfl rfl, rfl⟩, by decide +kernel, rfl⟩
def mm_lw_open : am_M := ("RoleAnalyserLaw", ⟨"RoleAnalyserLaw", "open", "(LRoleAnalyser;I[J)I"⟩, method_15_code, 4, (some .int), [(0, 9, 12, 22), (0, 9, 15, 13)])
theorem my_lw_open : aw_my mm_lw_open := ⟨Or.inr (aw_m3 79 rfl rfl), by decide +kernel, rfl⟩
def mm_ra_open : am_M := ("RoleAnalyser", ⟨"RoleAnalyser", "open", "(I)I"⟩, prog_1_method_14_code, 3, (some .int), [])
theorem my_ra_open : aw_my mm_ra_open := ⟨Or.inl ⟨aw_m3 83 rfl rfl, rfl⟩, by decide +kernel, rfl⟩
def mm_lw_close : am_M := ("RoleAnalyserLaw", ⟨"RoleAnalyserLaw", "close", "(LRoleAnalyser;I)I"⟩, method_16_code, 3, (some .int), [(0, 5, 8, 22)])
theorem my_lw_close : aw_my mm_lw_close := ⟨Or.inr (aw_m3 87 rfl rfl), by decide +kernel, rfl⟩
def mm_ra_close : am_M := ("RoleAnalyser", ⟨"RoleAnalyser", "close", "(I)V"⟩, prog_1_method_15_code, 2, none, [])
theorem my_ra_close : aw_my mm_ra_close := ⟨Or.inl ⟨aw_m3 91 rfl rfl, rfl⟩, by decide +kernel, rfl⟩
def mm_ra_checkSession : am_M := ("RoleAnalyser", ⟨"RoleAnalyser", "checkSession", "(I)V"⟩, prog_1_method_29_code, 2, none, [])
theorem my_ra_checkSession : aw_my mm_ra_checkSession := ⟨Or.inl ⟨aw_m3 95 rfl rfl, rfl⟩, by decide +kernel, rfl⟩
def mm_lw_activate : am_M := ("RoleAnalyserLaw", ⟨"RoleAnalyserLaw", "activate", "(LRoleAnalyser;II[J)I"⟩, method_17_code, 5, (some .int), [(0, 17, 20, 22), (0, 17, 24, 51), (0, 17, 28, 13)])
theorem my_lw_activate : aw_my mm_lw_activate := ⟨Or.inr (aw_m3 99 rfl rfl), by decide +kernel, rfl⟩
def mm_ra_activate : am_M := ("RoleAnalyser", ⟨"RoleAnalyser", "activate", "(II)Z"⟩, prog_1_method_16_code, 5, (some .boolean), [])
theorem my_ra_activate : aw_my mm_ra_activate := ⟨Or.inl ⟨aw_m3 103 rfl rfl, rfl⟩, by decide +kernel, rfl⟩
def mm_lw_rest : am_M := ("RoleAnalyserLaw", ⟨"RoleAnalyserLaw", "rest", "(LRoleAnalyser;II[J)I"⟩, method_18_code, 5, (some .int), [(0, 17, 20, 22)])
theorem my_lw_rest : aw_my mm_lw_rest := ⟨Or.inr (aw_m3 108 rfl rfl), by decide +kernel, rfl⟩
def mm_ra_rest : am_M := ("RoleAnalyser", ⟨"RoleAnalyser", "rest", "(II)Z"⟩, prog_1_method_17_code, 4, (some .boolean), [])
theorem my_ra_rest : aw_my mm_ra_rest := ⟨Or.inl ⟨aw_m3 112 rfl rfl, rfl⟩, by decide +kernel, rfl⟩
def mm_lw_active : am_M := ("RoleAnalyserLaw", ⟨"RoleAnalyserLaw", "active", "(LRoleAnalyser;I[J)I"⟩, method_19_code, 4, (some .int), [(0, 9, 12, 22)])
theorem my_lw_active : aw_my mm_lw_active := ⟨Or.inr (aw_m3 115 rfl rfl), by decide +kernel, rfl⟩
def mm_ra_active : am_M := ("RoleAnalyser", ⟨"RoleAnalyser", "active", "(I)I"⟩, prog_1_method_18_code, 2, (some .int), [])
theorem my_ra_active : aw_my mm_ra_active := ⟨Or.inl ⟨aw_m3 119 rfl rfl, rfl⟩, by decide +kernel, rfl⟩
def mm_lw_may : am_M := ("RoleAnalyserLaw", ⟨"RoleAnalyserLaw", "may", "(LRoleAnalyser;II[J)I"⟩, method_20_code, 5, (some .int), [(0, 17, 20, 22)])
theorem my_lw_may : aw_my mm_lw_may := ⟨Or.inr (aw_m3 122 rfl rfl), by decide +kernel, rfl⟩
def mm_ra_may : am_M := ("RoleAnalyser", ⟨"RoleAnalyser", "may", "(II)Z"⟩, prog_1_method_19_code, 5, (some .boolean), [])
theorem my_ra_may : aw_my mm_ra_may := ⟨Or.inl ⟨aw_m3 126 rfl rfl, rfl⟩, by decide +kernel, rfl⟩
def mm_lw_distance : am_M := ("RoleAnalyserLaw", ⟨"RoleAnalyserLaw", "distance", "(LRoleAnalyser;II[J)I"⟩, method_21_code, 5, (some .int), [(0, 10, 13, 22), (0, 10, 17, 51)])
theorem my_lw_distance : aw_my mm_lw_distance := ⟨Or.inr (aw_m3 129 rfl rfl), by decide +kernel, rfl⟩
def mm_ra_distance : am_M := ("RoleAnalyser", ⟨"RoleAnalyser", "distance", "(II)I"⟩, prog_1_method_20_code, 4, (some .int), [])
theorem my_ra_distance : aw_my mm_ra_distance := ⟨Or.inl ⟨aw_m3 133 rfl rfl, rfl⟩, by decide +kernel, rfl⟩
def mm_ra_checkQuestion : am_M := ("RoleAnalyser", ⟨"RoleAnalyser", "checkQuestion", "(II)V"⟩, prog_1_method_30_code, 3, none, [])
theorem my_ra_checkQuestion : aw_my mm_ra_checkQuestion := ⟨Or.inl ⟨aw_m3 137 rfl rfl, rfl⟩, by decide +kernel, rfl⟩
def mm_se_nearestGoal : am_M := ("RoleAnalyser$Search", ⟨"RoleAnalyser$Search", "nearestGoal", "([IIII)I"⟩, prog_5_method_2_code, 7, (some .int), [])
theorem my_se_nearestGoal : aw_my mm_se_nearestGoal := ⟨Or.inl ⟨aw_m3 142 rfl rfl, rfl⟩, by decide +kernel, rfl⟩
def mm_se_begin : am_M := ("RoleAnalyser$Search", ⟨"RoleAnalyser$Search", "begin", "([I)V"⟩, prog_5_method_5_code, 4, none, [])
theorem my_se_begin : aw_my mm_se_begin := ⟨Or.inl ⟨aw_m3 146 rfl rfl, rfl⟩, by decide +kernel, rfl⟩
def mm_se_pairBit : am_M := ("RoleAnalyser$Search", ⟨"RoleAnalyser$Search", "pairBit", "(II)I"⟩, prog_5_method_13_code, 3, (some .int), [])
theorem my_se_pairBit : aw_my mm_se_pairBit := ⟨Or.inl ⟨aw_m3 150 rfl rfl, rfl⟩, by decide +kernel, rfl⟩
def mm_se_reach : am_M := ("RoleAnalyser$Search", ⟨"RoleAnalyser$Search", "reach", "(II)V"⟩, prog_5_method_8_code, 3, none, [])
theorem my_se_reach : aw_my mm_se_reach := ⟨Or.inl ⟨aw_m3 155 rfl rfl, rfl⟩, by decide +kernel, rfl⟩
def mm_se_authorizedIn : am_M := ("RoleAnalyser$Search", ⟨"RoleAnalyser$Search", "authorizedIn", "(II)I"⟩, prog_5_method_11_code, 3, (some .int), [])
theorem my_se_authorizedIn : aw_my mm_se_authorizedIn := ⟨Or.inl ⟨aw_m3 159 rfl rfl, rfl⟩, by decide +kernel, rfl⟩
def mm_se_assignedIn : am_M := ("RoleAnalyser$Search", ⟨"RoleAnalyser$Search", "assignedIn", "(II)I"⟩, prog_5_method_12_code, 3, (some .int), [])
theorem my_se_assignedIn : aw_my mm_se_assignedIn := ⟨Or.inl ⟨aw_m3 163 rfl rfl, rfl⟩, by decide +kernel, rfl⟩
def mm_se_takeSteps : am_M := ("RoleAnalyser$Search", ⟨"RoleAnalyser$Search", "takeSteps", "(I)V"⟩, prog_5_method_6_code, 8, none, [])
theorem my_se_takeSteps : aw_my mm_se_takeSteps := ⟨Or.inl ⟨aw_m3 168 rfl rfl, rfl⟩, by decide +kernel, rfl⟩
def mm_se_authorizedOfAll : am_M := ("RoleAnalyser$Search", ⟨"RoleAnalyser$Search", "authorizedOfAll", "(I)I"⟩, prog_5_method_10_code, 4, (some .int), [])
theorem my_se_authorizedOfAll : aw_my mm_se_authorizedOfAll := ⟨Or.inl ⟨aw_m3 172 rfl rfl, rfl⟩, by decide +kernel, rfl⟩
def mm_se_isStep : am_M := ("RoleAnalyser$Search", ⟨"RoleAnalyser$Search", "isStep", "(III)Z"⟩, prog_5_method_7_code, 4, (some .boolean), [])
theorem my_se_isStep : aw_my mm_se_isStep := ⟨Or.inl ⟨aw_m3 176 rfl rfl, rfl⟩, by decide +kernel, rfl⟩
def mm_se_stepsTo : am_M := ("RoleAnalyser$Search", ⟨"RoleAnalyser$Search", "stepsTo", "(I)I"⟩, prog_5_method_3_code, 4, (some .int), [])
theorem my_se_stepsTo : aw_my mm_se_stepsTo := ⟨Or.inl ⟨aw_m3 182 rfl rfl, rfl⟩, by decide +kernel, rfl⟩
def mm_se_stateBefore : am_M := ("RoleAnalyser$Search", ⟨"RoleAnalyser$Search", "stateBefore", "(I)I"⟩, prog_5_method_9_code, 3, (some .int), [])
theorem my_se_stateBefore : aw_my mm_se_stateBefore := ⟨Or.inl ⟨aw_m3 186 rfl rfl, rfl⟩, by decide +kernel, rfl⟩
def mm_lw_plan : am_M := ("RoleAnalyserLaw", ⟨"RoleAnalyserLaw", "plan", "(LRoleAnalyser;III[J)I"⟩, method_22_code, 6, (some .int), [(0, 12, 15, 22), (0, 12, 19, 51), (0, 12, 23, 13)])
theorem my_lw_plan : aw_my mm_lw_plan := ⟨Or.inr (aw_m3 189 rfl rfl), by decide +kernel, rfl⟩
def mm_ra_plan : am_M := ("RoleAnalyser", ⟨"RoleAnalyser", "plan", "(III)I"⟩, prog_1_method_21_code, 5, (some .int), [])
theorem my_ra_plan : aw_my mm_ra_plan := ⟨Or.inl ⟨aw_m3 193 rfl rfl, rfl⟩, by decide +kernel, rfl⟩
def mm_se_stepCode : am_M := ("RoleAnalyser$Search", ⟨"RoleAnalyser$Search", "stepCode", "(II)I"⟩, prog_5_method_4_code, 6, (some .int), [])
theorem my_se_stepCode : aw_my mm_se_stepCode := ⟨Or.inl ⟨aw_m3 198 rfl rfl, rfl⟩, by decide +kernel, rfl⟩
def mm_mo_init : am_M := ("RoleAnalyserModel", ⟨"RoleAnalyserModel", "<init>", "()V"⟩, prog_7_method_1_code, 1, none, [])
theorem my_mo_init : aw_my mm_mo_init := ⟨Or.inl ⟨aw_m3 204 rfl rfl, rfl⟩, by decide +kernel, rfl⟩
def mm_mo_thrown : am_M := ("RoleAnalyserModel", ⟨"RoleAnalyserModel", "thrown", "()I"⟩, prog_7_method_2_code, 1, (some .int), [])
theorem my_mo_thrown : aw_my mm_mo_thrown := ⟨Or.inl ⟨aw_m4 43 rfl rfl, rfl⟩, by decide +kernel, rfl⟩
def mm_mo_role : am_M := ("RoleAnalyserModel", ⟨"RoleAnalyserModel", "role", "()I"⟩, prog_7_method_13_code, 1, (some .int), [])
theorem my_mo_role : aw_my mm_mo_role := ⟨Or.inl ⟨aw_m4 47 rfl rfl, rfl⟩, by decide +kernel, rfl⟩
def mm_mo_when : am_M := ("RoleAnalyserModel", ⟨"RoleAnalyserModel", "when", "(ZI)Z"⟩, prog_7_method_3_code, 3, (some .boolean), [])
theorem my_mo_when : aw_my mm_mo_when := ⟨Or.inl ⟨aw_m4 51 rfl rfl, rfl⟩, by decide +kernel, rfl⟩
def mm_mo_user : am_M := ("RoleAnalyserModel", ⟨"RoleAnalyserModel", "user", "()I"⟩, prog_7_method_14_code, 1, (some .int), [])
theorem my_mo_user : aw_my mm_mo_user := ⟨Or.inl ⟨aw_m4 55 rfl rfl, rfl⟩, by decide +kernel, rfl⟩
def mm_mo_above : am_M := ("RoleAnalyserModel", ⟨"RoleAnalyserModel", "above", "(II)Z"⟩, prog_7_method_15_code, 5, (some .boolean), [])
theorem my_mo_above : aw_my mm_mo_above := ⟨Or.inl ⟨aw_m4 59 rfl rfl, rfl⟩, by decide +kernel, rfl⟩
def mm_mo_isRole : am_M := ("RoleAnalyserModel", ⟨"RoleAnalyserModel", "isRole", "(I)Z"⟩, prog_7_method_4_code, 2, (some .boolean), [])
theorem my_mo_isRole : aw_my mm_mo_isRole := ⟨Or.inl ⟨aw_m4 63 rfl rfl, rfl⟩, by decide +kernel, rfl⟩
def mm_mo_allStaticKept : am_M := ("RoleAnalyserModel", ⟨"RoleAnalyserModel", "allStaticKept", "()Z"⟩, prog_7_method_10_code, 3, (some .boolean), [])
theorem my_mo_allStaticKept : aw_my mm_mo_allStaticKept := ⟨Or.inl ⟨aw_m4 67 rfl rfl, rfl⟩, by decide +kernel, rfl⟩
def mm_mo_staticKept : am_M := ("RoleAnalyserModel", ⟨"RoleAnalyserModel", "staticKept", "(I)Z"⟩, prog_7_method_9_code, 5, (some .boolean), [])
theorem my_mo_staticKept : aw_my mm_mo_staticKept := ⟨Or.inl ⟨aw_m4 71 rfl rfl, rfl⟩, by decide +kernel, rfl⟩
def mm_mo_closed : am_M := ("RoleAnalyserModel", ⟨"RoleAnalyserModel", "closed", "(I)I"⟩, prog_7_method_8_code, 4, (some .int), [])
theorem my_mo_closed : aw_my mm_mo_closed := ⟨Or.inl ⟨aw_m4 75 rfl rfl, rfl⟩, by decide +kernel, rfl⟩
def mm_mo_count : am_M := ("RoleAnalyserModel", ⟨"RoleAnalyserModel", "count", "(I)I"⟩, prog_7_method_7_code, 3, (some .int), [])
theorem my_mo_count : aw_my mm_mo_count := ⟨Or.inl ⟨aw_m4 78 rfl rfl, rfl⟩, by decide +kernel, rfl⟩
def mm_mo_grant : am_M := ("RoleAnalyserModel", ⟨"RoleAnalyserModel", "grant", "(II)Z"⟩, prog_7_method_16_code, 4, (some .boolean), [])
theorem my_mo_grant : aw_my mm_mo_grant := ⟨Or.inl ⟨aw_m4 82 rfl rfl, rfl⟩, by decide +kernel, rfl⟩
def mm_mo_limit : am_M := ("RoleAnalyserModel", ⟨"RoleAnalyserModel", "limit", "(ZII)V"⟩, prog_7_method_17_code, 8, none, [])
theorem my_mo_limit : aw_my mm_mo_limit := ⟨Or.inl ⟨aw_m4 86 rfl rfl, rfl⟩, by decide +kernel, rfl⟩
def mm_mo_dynamicKept : am_M := ("RoleAnalyserModel", ⟨"RoleAnalyserModel", "dynamicKept", "(I)Z"⟩, prog_7_method_11_code, 4, (some .boolean), [])
theorem my_mo_dynamicKept : aw_my mm_mo_dynamicKept := ⟨Or.inl ⟨aw_m4 90 rfl rfl, rfl⟩, by decide +kernel, rfl⟩
def mm_mo_giveRule : am_M := ("RoleAnalyserModel", ⟨"RoleAnalyserModel", "giveRule", "(IIII)I"⟩, prog_7_method_20_code, 5, (some .int), [])
theorem my_mo_giveRule : aw_my mm_mo_giveRule := ⟨Or.inl ⟨aw_m4 94 rfl rfl, rfl⟩, by decide +kernel, rfl⟩
def mm_mo_isSet : am_M := ("RoleAnalyserModel", ⟨"RoleAnalyserModel", "isSet", "(I)Z"⟩, prog_7_method_19_code, 1, (some .boolean), [])
theorem my_mo_isSet : aw_my mm_mo_isSet := ⟨Or.inl ⟨aw_m4 97 rfl rfl, rfl⟩, by decide +kernel, rfl⟩
def mm_mo_addRule : am_M := ("RoleAnalyserModel", ⟨"RoleAnalyserModel", "addRule", "(ZIIII)I"⟩, prog_7_method_18_code, 6, (some .int), [])
theorem my_mo_addRule : aw_my mm_mo_addRule := ⟨Or.inl ⟨aw_m4 101 rfl rfl, rfl⟩, by decide +kernel, rfl⟩
def mm_mo_takeRule : am_M := ("RoleAnalyserModel", ⟨"RoleAnalyserModel", "takeRule", "(II)I"⟩, prog_7_method_21_code, 3, (some .int), [])
theorem my_mo_takeRule : aw_my mm_mo_takeRule := ⟨Or.inl ⟨aw_m4 105 rfl rfl, rfl⟩, by decide +kernel, rfl⟩
def mm_mo_assign : am_M := ("RoleAnalyserModel", ⟨"RoleAnalyserModel", "assign", "(II)Z"⟩, prog_7_method_25_code, 3, (some .boolean), [])
theorem my_mo_assign : aw_my mm_mo_assign := ⟨Or.inl ⟨aw_m4 109 rfl rfl, rfl⟩, by decide +kernel, rfl⟩
def mm_mo_isUser : am_M := ("RoleAnalyserModel", ⟨"RoleAnalyserModel", "isUser", "(I)Z"⟩, prog_7_method_5_code, 2, (some .boolean), [])
theorem my_mo_isUser : aw_my mm_mo_isUser := ⟨Or.inl ⟨aw_m4 113 rfl rfl, rfl⟩, by decide +kernel, rfl⟩
def mm_mo_put : am_M := ("RoleAnalyserModel", ⟨"RoleAnalyserModel", "put", "(III)Z"⟩, prog_7_method_23_code, 6, (some .boolean), [])
theorem my_mo_put : aw_my mm_mo_put := ⟨Or.inl ⟨aw_m4 117 rfl rfl, rfl⟩, by decide +kernel, rfl⟩
def mm_mo_remove : am_M := ("RoleAnalyserModel", ⟨"RoleAnalyserModel", "remove", "(II)Z"⟩, prog_7_method_26_code, 3, (some .boolean), [])
theorem my_mo_remove : aw_my mm_mo_remove := ⟨Or.inl ⟨aw_m4 121 rfl rfl, rfl⟩, by decide +kernel, rfl⟩
def mm_mo_drop : am_M := ("RoleAnalyserModel", ⟨"RoleAnalyserModel", "drop", "(II)Z"⟩, prog_7_method_24_code, 4, (some .boolean), [])
theorem my_mo_drop : aw_my mm_mo_drop := ⟨Or.inl ⟨aw_m4 125 rfl rfl, rfl⟩, by decide +kernel, rfl⟩
def mm_mo_cutSessions : am_M := ("RoleAnalyserModel", ⟨"RoleAnalyserModel", "cutSessions", "()V"⟩, prog_7_method_12_code, 2, none, [])
theorem my_mo_cutSessions : aw_my mm_mo_cutSessions := ⟨Or.inl ⟨aw_m4 129 rfl rfl, rfl⟩, by decide +kernel, rfl⟩
def mm_mo_give : am_M := ("RoleAnalyserModel", ⟨"RoleAnalyserModel", "give", "(III)Z"⟩, prog_7_method_27_code, 4, (some .boolean), [])
theorem my_mo_give : aw_my mm_mo_give := ⟨Or.inl ⟨aw_m4 133 rfl rfl, rfl⟩, by decide +kernel, rfl⟩
def mm_mo_lets : am_M := ("RoleAnalyserModel", ⟨"RoleAnalyserModel", "lets", "(ZIII)Z"⟩, prog_7_method_22_code, 8, (some .boolean), [])
theorem my_mo_lets : aw_my mm_mo_lets := ⟨Or.inl ⟨aw_m4 137 rfl rfl, rfl⟩, by decide +kernel, rfl⟩
def mm_mo_take : am_M := ("RoleAnalyserModel", ⟨"RoleAnalyserModel", "take", "(III)Z"⟩, prog_7_method_28_code, 4, (some .boolean), [])
theorem my_mo_take : aw_my mm_mo_take := ⟨Or.inl ⟨aw_m4 141 rfl rfl, rfl⟩, by decide +kernel, rfl⟩
def mm_mo_roles : am_M := ("RoleAnalyserModel", ⟨"RoleAnalyserModel", "roles", "(IZ)I"⟩, prog_7_method_29_code, 3, (some .int), [])
theorem my_mo_roles : aw_my mm_mo_roles := ⟨Or.inl ⟨aw_m4 145 rfl rfl, rfl⟩, by decide +kernel, rfl⟩
def mm_mo_open : am_M := ("RoleAnalyserModel", ⟨"RoleAnalyserModel", "open", "(I)I"⟩, prog_7_method_30_code, 3, (some .int), [])
theorem my_mo_open : aw_my mm_mo_open := ⟨Or.inl ⟨aw_m4 149 rfl rfl, rfl⟩, by decide +kernel, rfl⟩
def mm_mo_close : am_M := ("RoleAnalyserModel", ⟨"RoleAnalyserModel", "close", "(I)V"⟩, prog_7_method_31_code, 2, none, [])
theorem my_mo_close : aw_my mm_mo_close := ⟨Or.inl ⟨aw_m4 153 rfl rfl, rfl⟩, by decide +kernel, rfl⟩
def mm_mo_isSession : am_M := ("RoleAnalyserModel", ⟨"RoleAnalyserModel", "isSession", "(I)Z"⟩, prog_7_method_6_code, 2, (some .boolean), [])
theorem my_mo_isSession : aw_my mm_mo_isSession := ⟨Or.inl ⟨aw_m4 157 rfl rfl, rfl⟩, by decide +kernel, rfl⟩
def mm_mo_activate : am_M := ("RoleAnalyserModel", ⟨"RoleAnalyserModel", "activate", "(II)Z"⟩, prog_7_method_32_code, 5, (some .boolean), [])
theorem my_mo_activate : aw_my mm_mo_activate := ⟨Or.inl ⟨aw_m4 161 rfl rfl, rfl⟩, by decide +kernel, rfl⟩
def mm_mo_rest : am_M := ("RoleAnalyserModel", ⟨"RoleAnalyserModel", "rest", "(II)Z"⟩, prog_7_method_33_code, 4, (some .boolean), [])
theorem my_mo_rest : aw_my mm_mo_rest := ⟨Or.inl ⟨aw_m4 165 rfl rfl, rfl⟩, by decide +kernel, rfl⟩
def mm_mo_active : am_M := ("RoleAnalyserModel", ⟨"RoleAnalyserModel", "active", "(I)I"⟩, prog_7_method_34_code, 2, (some .int), [])
theorem my_mo_active : aw_my mm_mo_active := ⟨Or.inl ⟨aw_m4 169 rfl rfl, rfl⟩, by decide +kernel, rfl⟩
def mm_mo_may : am_M := ("RoleAnalyserModel", ⟨"RoleAnalyserModel", "may", "(II)Z"⟩, prog_7_method_35_code, 6, (some .boolean), [])
theorem my_mo_may : aw_my mm_mo_may := ⟨Or.inl ⟨aw_m4 173 rfl rfl, rfl⟩, by decide +kernel, rfl⟩
def mm_mo_distance : am_M := ("RoleAnalyserModel", ⟨"RoleAnalyserModel", "distance", "(II)I"⟩, prog_7_method_40_code, 3, (some .int), [])
theorem my_mo_distance : aw_my mm_mo_distance := ⟨Or.inl ⟨aw_m4 177 rfl rfl, rfl⟩, by decide +kernel, rfl⟩
def mm_mo_search : am_M := ("RoleAnalyserModel", ⟨"RoleAnalyserModel", "search", "(II)V"⟩, prog_7_method_39_code, 8, none, [])
theorem my_mo_search : aw_my mm_mo_search := ⟨Or.inl ⟨aw_m4 181 rfl rfl, rfl⟩, by decide +kernel, rfl⟩
def mm_mo_has : am_M := ("RoleAnalyserModel", ⟨"RoleAnalyserModel", "has", "(III)Z"⟩, prog_7_method_38_code, 4, (some .boolean), [])
theorem my_mo_has : aw_my mm_mo_has := ⟨Or.inl ⟨aw_m4 185 rfl rfl, rfl⟩, by decide +kernel, rfl⟩
def mm_mo_rolesIn : am_M := ("RoleAnalyserModel", ⟨"RoleAnalyserModel", "rolesIn", "(II)I"⟩, prog_7_method_36_code, 3, (some .int), [])
theorem my_mo_rolesIn : aw_my mm_mo_rolesIn := ⟨Or.inl ⟨aw_m4 189 rfl rfl, rfl⟩, by decide +kernel, rfl⟩
def mm_mo_stepTo : am_M := ("RoleAnalyserModel", ⟨"RoleAnalyserModel", "stepTo", "(IIIZ)I"⟩, prog_7_method_37_code, 8, (some .int), [])
theorem my_mo_stepTo : aw_my mm_mo_stepTo := ⟨Or.inl ⟨aw_m4 193 rfl rfl, rfl⟩, by decide +kernel, rfl⟩
def mm_mo_plan : am_M := ("RoleAnalyserModel", ⟨"RoleAnalyserModel", "plan", "(III)I"⟩, prog_7_method_42_code, 10, (some .int), [])
theorem my_mo_plan : aw_my mm_mo_plan := ⟨Or.inl ⟨aw_m4 197 rfl rfl, rfl⟩, by decide +kernel, rfl⟩
def mm_mo_mark : am_M := ("RoleAnalyserModel", ⟨"RoleAnalyserModel", "mark", "(II)V"⟩, prog_7_method_41_code, 7, none, [])
theorem my_mo_mark : aw_my mm_mo_mark := ⟨Or.inl ⟨aw_m4 201 rfl rfl, rfl⟩, by decide +kernel, rfl⟩
def mm_lw_law : am_M := ("RoleAnalyserLaw", x, code, maxLocals, ret, [])
def tp_P (w : Cond) : Prop := ax_isN w = true ∨ w ∈ aw_T ∨ (w ∈ aw_N ∧ w.onTables = true)
theorem tp_0 : ∀ w ∈ Bundle.throwableAtoms, tp_P w := List.forall_mem_cons.mpr ⟨(Or.inr (Or.inl (aw_m1 9 rfl rfl))), List.forall_mem_cons.mpr ⟨(Or.inr (Or.inl (aw_m1 165 rfl rfl))), List.forall_mem_cons.mpr ⟨(Or.inr (Or.inl (aw_m1 174 rfl rfl))), List.forall_mem_cons.mpr ⟨(Or.inr (Or.inl (aw_m1 179 rfl rfl))), List.forall_mem_cons.mpr ⟨(Or.inr (Or.inl (aw_m1 182 rfl rfl))), List.forall_mem_cons.mpr ⟨(Or.inr (Or.inl (aw_m1 184 rfl rfl))), List.forall_mem_cons.mpr ⟨(Or.inr (Or.inl (aw_m1 166 rfl rfl))), List.forall_mem_cons.mpr ⟨(Or.inr (Or.inl (aw_m1 167 rfl rfl))), List.forall_mem_cons.mpr ⟨(Or.inr (Or.inl (aw_m1 30 rfl rfl))), List.forall_mem_cons.mpr ⟨(Or.inr (Or.inl (aw_m1 31 rfl rfl))), List.forall_mem_cons.mpr ⟨(Or.inr (Or.inl (aw_m1 168 rfl rfl))), List.forall_mem_cons.mpr ⟨(Or.inr (Or.inl (aw_m1 173 rfl rfl))), List.forall_mem_cons.mpr ⟨(Or.inr (Or.inl (aw_m1 180 rfl rfl))), List.forall_mem_cons.mpr ⟨(Or.inr (Or.inl (aw_m1 200 rfl rfl))), List.forall_mem_cons.mpr ⟨(Or.inr (Or.inl (aw_m1 155 rfl rfl))), List.forall_mem_cons.mpr ⟨(Or.inr (Or.inl (aw_m1 201 rfl rfl))), List.forall_mem_cons.mpr ⟨(Or.inr (Or.inl (aw_m1 157 rfl rfl))), List.forall_mem_cons.mpr ⟨(Or.inr (Or.inl (aw_m1 202 rfl rfl))), List.forall_mem_cons.mpr ⟨(Or.inr (Or.inl (aw_m1 159 rfl rfl))), List.forall_mem_cons.mpr ⟨(Or.inr (Or.inl (aw_m1 169 rfl rfl))), List.forall_mem_cons.mpr ⟨(Or.inl (by decide +kernel)), List.forall_mem_cons.mpr ⟨(Or.inr (Or.inl (aw_m1 171 rfl rfl))), List.forall_mem_cons.mpr ⟨(Or.inl (by decide +kernel)), List.forall_mem_cons.mpr ⟨(Or.inr (Or.inl (aw_m1 161 rfl rfl))), fun _ h9 => absurd h9 List.not_mem_nil⟩⟩⟩⟩⟩⟩⟩⟩⟩⟩⟩⟩⟩⟩⟩⟩⟩⟩⟩⟩⟩⟩⟩⟩
theorem tp_1 : ∀ w ∈ Bundle.throwableSAtoms, tp_P w := List.forall_mem_cons.mpr ⟨(Or.inr (Or.inl (aw_m1 196 rfl rfl))), List.forall_mem_cons.mpr ⟨(Or.inr (Or.inl (aw_m1 197 rfl rfl))), List.forall_mem_cons.mpr ⟨(Or.inr (Or.inl (aw_m1 199 rfl rfl))), List.forall_mem_cons.mpr ⟨(Or.inr (Or.inl (aw_m1 161 rfl rfl))), fun _ h9 => absurd h9 List.not_mem_nil⟩⟩⟩⟩
theorem tp_c0 : ∀ w ∈ Bundle.chainSAtoms "java/lang/IllegalStateException" ["java/lang/RuntimeException", "java/lang/Exception"], tp_P w := List.forall_mem_cons.mpr ⟨(Or.inr (Or.inl (aw_m1 187 rfl rfl))), List.forall_mem_cons.mpr ⟨(Or.inr (Or.inl (aw_m1 188 rfl rfl))), List.forall_mem_cons.mpr ⟨(Or.inr (Or.inl (aw_m1 189 rfl rfl))), List.forall_mem_cons.mpr ⟨(Or.inr (Or.inl (aw_m1 190 rfl rfl))), List.forall_mem_cons.mpr ⟨(Or.inr (Or.inr ⟨List.mem_of_getElem? (i := 2) rfl, rfl⟩)), List.forall_mem_cons.mpr ⟨(Or.inr (Or.inl (aw_m1 190 rfl rfl))), List.forall_mem_cons.mpr ⟨(Or.inr (Or.inl (aw_m1 191 rfl rfl))), List.forall_mem_cons.mpr ⟨(Or.inr (Or.inl (aw_m1 192 rfl rfl))), List.forall_mem_cons.mpr ⟨(Or.inr (Or.inl (aw_m1 193 rfl rfl))), List.forall_mem_cons.mpr ⟨(Or.inr (Or.inr ⟨List.mem_of_getElem? (i := 4) rfl, rfl⟩)), List.forall_mem_cons.mpr ⟨(Or.inr (Or.inl (aw_m1 193 rfl rfl))), List.forall_mem_cons.mpr ⟨(Or.inr (Or.inl (aw_m1 194 rfl rfl))), List.forall_mem_cons.mpr ⟨(Or.inr (Or.inl (aw_m1 195 rfl rfl))), List.forall_mem_cons.mpr ⟨(Or.inr (Or.inl (aw_m1 196 rfl rfl))), List.forall_mem_cons.mpr ⟨(Or.inr (Or.inr ⟨List.mem_of_getElem? (i := 6) rfl, rfl⟩)), fun _ h9 => absurd h9 List.not_mem_nil⟩⟩⟩⟩⟩⟩⟩⟩⟩⟩⟩⟩⟩⟩⟩
theorem tp_e0 (own : String) (ic : Nat) (hm : Cond.methodLink own ic (Bundle.initS "java/lang/IllegalStateException") ∈ aw_T) : ∀ w ∈ Bundle.ownAtoms own ic "java/lang/IllegalStateException" ["java/lang/RuntimeException", "java/lang/Exception"], tp_P w := List.forall_mem_append.mpr ⟨List.forall_mem_append.mpr ⟨List.forall_mem_append.mpr ⟨tp_0, tp_1⟩, tp_c0⟩, List.forall_mem_cons.mpr ⟨(Or.inr (Or.inl hm)), List.forall_mem_cons.mpr ⟨(Or.inr (Or.inl (aw_m1 144 rfl rfl))), List.forall_mem_cons.mpr ⟨(Or.inr (Or.inr ⟨List.mem_of_getElem? (i := 0) rfl, rfl⟩)), List.forall_mem_cons.mpr ⟨(Or.inr (Or.inl (aw_m1 152 rfl rfl))), List.forall_mem_cons.mpr ⟨(Or.inr (Or.inl (aw_m1 153 rfl rfl))), List.forall_mem_cons.mpr ⟨(Or.inr (Or.inl (aw_m1 154 rfl rfl))), List.forall_mem_cons.mpr ⟨(Or.inr (Or.inl (aw_m1 156 rfl rfl))), List.forall_mem_cons.mpr ⟨(Or.inr (Or.inl (aw_m1 158 rfl rfl))), List.forall_mem_cons.mpr ⟨(Or.inr (Or.inl (aw_m1 160 rfl rfl))), List.forall_mem_cons.mpr ⟨(Or.inl (by decide +kernel)), List.forall_mem_cons.mpr ⟨(Or.inl (by decide +kernel)), List.forall_mem_cons.mpr ⟨(Or.inr (Or.inl (aw_m1 164 rfl rfl))), List.forall_mem_cons.mpr ⟨(Or.inr (Or.inl (aw_m1 163 rfl rfl))), List.forall_mem_cons.mpr ⟨(Or.inr (Or.inl (aw_m1 162 rfl rfl))), fun _ h9 => absurd h9 List.not_mem_nil⟩⟩⟩⟩⟩⟩⟩⟩⟩⟩⟩⟩⟩⟩⟩
theorem tp_c1 : ∀ w ∈ Bundle.chainSAtoms "java/lang/IndexOutOfBoundsException" ["java/lang/RuntimeException", "java/lang/Exception"], tp_P w := List.forall_mem_cons.mpr ⟨(Or.inr (Or.inl (aw_m2 4 rfl rfl))), List.forall_mem_cons.mpr ⟨(Or.inr (Or.inl (aw_m2 5 rfl rfl))), List.forall_mem_cons.mpr ⟨(Or.inr (Or.inl (aw_m2 6 rfl rfl))), List.forall_mem_cons.mpr ⟨(Or.inr (Or.inl (aw_m1 190 rfl rfl))), List.forall_mem_cons.mpr ⟨(Or.inr (Or.inr ⟨List.mem_of_getElem? (i := 2) rfl, rfl⟩)), List.forall_mem_cons.mpr ⟨(Or.inr (Or.inl (aw_m1 190 rfl rfl))), List.forall_mem_cons.mpr ⟨(Or.inr (Or.inl (aw_m1 191 rfl rfl))), List.forall_mem_cons.mpr ⟨(Or.inr (Or.inl (aw_m1 192 rfl rfl))), List.forall_mem_cons.mpr ⟨(Or.inr (Or.inl (aw_m1 193 rfl rfl))), List.forall_mem_cons.mpr ⟨(Or.inr (Or.inr ⟨List.mem_of_getElem? (i := 4) rfl, rfl⟩)), List.forall_mem_cons.mpr ⟨(Or.inr (Or.inl (aw_m1 193 rfl rfl))), List.forall_mem_cons.mpr ⟨(Or.inr (Or.inl (aw_m1 194 rfl rfl))), List.forall_mem_cons.mpr ⟨(Or.inr (Or.inl (aw_m1 195 rfl rfl))), List.forall_mem_cons.mpr ⟨(Or.inr (Or.inl (aw_m1 196 rfl rfl))), List.forall_mem_cons.mpr ⟨(Or.inr (Or.inr ⟨List.mem_of_getElem? (i := 6) rfl, rfl⟩)), fun _ h9 => absurd h9 List.not_mem_nil⟩⟩⟩⟩⟩⟩⟩⟩⟩⟩⟩⟩⟩⟩⟩
theorem tp_e1 (own : String) (ic : Nat) (hm : Cond.methodLink own ic (Bundle.initS "java/lang/IndexOutOfBoundsException") ∈ aw_T) : ∀ w ∈ Bundle.ownAtoms own ic "java/lang/IndexOutOfBoundsException" ["java/lang/RuntimeException", "java/lang/Exception"], tp_P w := List.forall_mem_append.mpr ⟨List.forall_mem_append.mpr ⟨List.forall_mem_append.mpr ⟨tp_0, tp_1⟩, tp_c1⟩, List.forall_mem_cons.mpr ⟨(Or.inr (Or.inl hm)), List.forall_mem_cons.mpr ⟨(Or.inr (Or.inl (aw_m1 234 rfl rfl))), List.forall_mem_cons.mpr ⟨(Or.inr (Or.inr ⟨List.mem_of_getElem? (i := 7) rfl, rfl⟩)), List.forall_mem_cons.mpr ⟨(Or.inr (Or.inl (aw_m1 236 rfl rfl))), List.forall_mem_cons.mpr ⟨(Or.inr (Or.inl (aw_m1 177 rfl rfl))), List.forall_mem_cons.mpr ⟨(Or.inr (Or.inl (aw_m1 237 rfl rfl))), List.forall_mem_cons.mpr ⟨(Or.inr (Or.inl (aw_m1 238 rfl rfl))), List.forall_mem_cons.mpr ⟨(Or.inr (Or.inl (aw_m1 239 rfl rfl))), List.forall_mem_cons.mpr ⟨(Or.inr (Or.inl (aw_m2 0 rfl rfl))), List.forall_mem_cons.mpr ⟨(Or.inl (by decide +kernel)), List.forall_mem_cons.mpr ⟨(Or.inl (by decide +kernel)), List.forall_mem_cons.mpr ⟨(Or.inr (Or.inl (aw_m1 164 rfl rfl))), List.forall_mem_cons.mpr ⟨(Or.inr (Or.inl (aw_m1 163 rfl rfl))), List.forall_mem_cons.mpr ⟨(Or.inr (Or.inl (aw_m2 1 rfl rfl))), fun _ h9 => absurd h9 List.not_mem_nil⟩⟩⟩⟩⟩⟩⟩⟩⟩⟩⟩⟩⟩⟩⟩
theorem tp_c2 : ∀ w ∈ Bundle.chainSAtoms "java/lang/IllegalArgumentException" ["java/lang/RuntimeException", "java/lang/Exception"], tp_P w := List.forall_mem_cons.mpr ⟨(Or.inr (Or.inl (aw_m2 27 rfl rfl))), List.forall_mem_cons.mpr ⟨(Or.inr (Or.inl (aw_m2 28 rfl rfl))), List.forall_mem_cons.mpr ⟨(Or.inr (Or.inl (aw_m2 29 rfl rfl))), List.forall_mem_cons.mpr ⟨(Or.inr (Or.inl (aw_m1 190 rfl rfl))), List.forall_mem_cons.mpr ⟨(Or.inr (Or.inr ⟨List.mem_of_getElem? (i := 2) rfl, rfl⟩)), List.forall_mem_cons.mpr ⟨(Or.inr (Or.inl (aw_m1 190 rfl rfl))), List.forall_mem_cons.mpr ⟨(Or.inr (Or.inl (aw_m1 191 rfl rfl))), List.forall_mem_cons.mpr ⟨(Or.inr (Or.inl (aw_m1 192 rfl rfl))), List.forall_mem_cons.mpr ⟨(Or.inr (Or.inl (aw_m1 193 rfl rfl))), List.forall_mem_cons.mpr ⟨(Or.inr (Or.inr ⟨List.mem_of_getElem? (i := 4) rfl, rfl⟩)), List.forall_mem_cons.mpr ⟨(Or.inr (Or.inl (aw_m1 193 rfl rfl))), List.forall_mem_cons.mpr ⟨(Or.inr (Or.inl (aw_m1 194 rfl rfl))), List.forall_mem_cons.mpr ⟨(Or.inr (Or.inl (aw_m1 195 rfl rfl))), List.forall_mem_cons.mpr ⟨(Or.inr (Or.inl (aw_m1 196 rfl rfl))), List.forall_mem_cons.mpr ⟨(Or.inr (Or.inr ⟨List.mem_of_getElem? (i := 6) rfl, rfl⟩)), fun _ h9 => absurd h9 List.not_mem_nil⟩⟩⟩⟩⟩⟩⟩⟩⟩⟩⟩⟩⟩⟩⟩
theorem tp_e2 (own : String) (ic : Nat) (hm : Cond.methodLink own ic (Bundle.initS "java/lang/IllegalArgumentException") ∈ aw_T) : ∀ w ∈ Bundle.ownAtoms own ic "java/lang/IllegalArgumentException" ["java/lang/RuntimeException", "java/lang/Exception"], tp_P w := List.forall_mem_append.mpr ⟨List.forall_mem_append.mpr ⟨List.forall_mem_append.mpr ⟨tp_0, tp_1⟩, tp_c2⟩, List.forall_mem_cons.mpr ⟨(Or.inr (Or.inl hm)), List.forall_mem_cons.mpr ⟨(Or.inr (Or.inl (aw_m2 17 rfl rfl))), List.forall_mem_cons.mpr ⟨(Or.inr (Or.inr ⟨List.mem_of_getElem? (i := 9) rfl, rfl⟩)), List.forall_mem_cons.mpr ⟨(Or.inr (Or.inl (aw_m2 19 rfl rfl))), List.forall_mem_cons.mpr ⟨(Or.inr (Or.inl (aw_m1 176 rfl rfl))), List.forall_mem_cons.mpr ⟨(Or.inr (Or.inl (aw_m2 20 rfl rfl))), List.forall_mem_cons.mpr ⟨(Or.inr (Or.inl (aw_m2 21 rfl rfl))), List.forall_mem_cons.mpr ⟨(Or.inr (Or.inl (aw_m2 22 rfl rfl))), List.forall_mem_cons.mpr ⟨(Or.inr (Or.inl (aw_m2 23 rfl rfl))), List.forall_mem_cons.mpr ⟨(Or.inl (by decide +kernel)), List.forall_mem_cons.mpr ⟨(Or.inl (by decide +kernel)), List.forall_mem_cons.mpr ⟨(Or.inr (Or.inl (aw_m1 164 rfl rfl))), List.forall_mem_cons.mpr ⟨(Or.inr (Or.inl (aw_m1 163 rfl rfl))), List.forall_mem_cons.mpr ⟨(Or.inr (Or.inl (aw_m2 24 rfl rfl))), fun _ h9 => absurd h9 List.not_mem_nil⟩⟩⟩⟩⟩⟩⟩⟩⟩⟩⟩⟩⟩⟩⟩
theorem tp_c3 : ∀ w ∈ Bundle.chainSAtoms "java/lang/UnsupportedOperationException" ["java/lang/RuntimeException", "java/lang/Exception"], tp_P w := List.forall_mem_cons.mpr ⟨(Or.inr (Or.inl (aw_m3 58 rfl rfl))), List.forall_mem_cons.mpr ⟨(Or.inr (Or.inl (aw_m3 59 rfl rfl))), List.forall_mem_cons.mpr ⟨(Or.inr (Or.inl (aw_m3 60 rfl rfl))), List.forall_mem_cons.mpr ⟨(Or.inr (Or.inl (aw_m1 190 rfl rfl))), List.forall_mem_cons.mpr ⟨(Or.inr (Or.inr ⟨List.mem_of_getElem? (i := 2) rfl, rfl⟩)), List.forall_mem_cons.mpr ⟨(Or.inr (Or.inl (aw_m1 190 rfl rfl))), List.forall_mem_cons.mpr ⟨(Or.inr (Or.inl (aw_m1 191 rfl rfl))), List.forall_mem_cons.mpr ⟨(Or.inr (Or.inl (aw_m1 192 rfl rfl))), List.forall_mem_cons.mpr ⟨(Or.inr (Or.inl (aw_m1 193 rfl rfl))), List.forall_mem_cons.mpr ⟨(Or.inr (Or.inr ⟨List.mem_of_getElem? (i := 4) rfl, rfl⟩)), List.forall_mem_cons.mpr ⟨(Or.inr (Or.inl (aw_m1 193 rfl rfl))), List.forall_mem_cons.mpr ⟨(Or.inr (Or.inl (aw_m1 194 rfl rfl))), List.forall_mem_cons.mpr ⟨(Or.inr (Or.inl (aw_m1 195 rfl rfl))), List.forall_mem_cons.mpr ⟨(Or.inr (Or.inl (aw_m1 196 rfl rfl))), List.forall_mem_cons.mpr ⟨(Or.inr (Or.inr ⟨List.mem_of_getElem? (i := 6) rfl, rfl⟩)), fun _ h9 => absurd h9 List.not_mem_nil⟩⟩⟩⟩⟩⟩⟩⟩⟩⟩⟩⟩⟩⟩⟩
theorem tp_e3 (own : String) (ic : Nat) (hm : Cond.methodLink own ic (Bundle.initS "java/lang/UnsupportedOperationException") ∈ aw_T) : ∀ w ∈ Bundle.ownAtoms own ic "java/lang/UnsupportedOperationException" ["java/lang/RuntimeException", "java/lang/Exception"], tp_P w := List.forall_mem_append.mpr ⟨List.forall_mem_append.mpr ⟨List.forall_mem_append.mpr ⟨tp_0, tp_1⟩, tp_c3⟩, List.forall_mem_cons.mpr ⟨(Or.inr (Or.inl hm)), List.forall_mem_cons.mpr ⟨(Or.inr (Or.inl (aw_m3 48 rfl rfl))), List.forall_mem_cons.mpr ⟨(Or.inr (Or.inr ⟨List.mem_of_getElem? (i := 11) rfl, rfl⟩)), List.forall_mem_cons.mpr ⟨(Or.inr (Or.inl (aw_m3 50 rfl rfl))), List.forall_mem_cons.mpr ⟨(Or.inr (Or.inl (aw_m1 178 rfl rfl))), List.forall_mem_cons.mpr ⟨(Or.inr (Or.inl (aw_m3 51 rfl rfl))), List.forall_mem_cons.mpr ⟨(Or.inr (Or.inl (aw_m3 52 rfl rfl))), List.forall_mem_cons.mpr ⟨(Or.inr (Or.inl (aw_m3 53 rfl rfl))), List.forall_mem_cons.mpr ⟨(Or.inr (Or.inl (aw_m3 54 rfl rfl))), List.forall_mem_cons.mpr ⟨(Or.inl (by decide +kernel)), List.forall_mem_cons.mpr ⟨(Or.inl (by decide +kernel)), List.forall_mem_cons.mpr ⟨(Or.inr (Or.inl (aw_m1 164 rfl rfl))), List.forall_mem_cons.mpr ⟨(Or.inr (Or.inl (aw_m1 163 rfl rfl))), List.forall_mem_cons.mpr ⟨(Or.inr (Or.inl (aw_m3 55 rfl rfl))), fun _ h9 => absurd h9 List.not_mem_nil⟩⟩⟩⟩⟩⟩⟩⟩⟩⟩⟩⟩⟩⟩⟩
theorem ob_ra_3 : Cond.methodLink "RoleAnalyser" 3 objectInit ∈ aw_T ∧ Cond.instanceMethod objectInit ∈ aw_T ∧ Cond.code objectInit ⟨#[0xb1]⟩ 1 none ∈ aw_T := ⟨(aw_m1 29 rfl rfl), (aw_m1 30 rfl rfl), (aw_m1 31 rfl rfl)⟩
theorem nl_ra_9 : aw_nl "RoleAnalyser" 9 1 5 := ⟨_, rfl, rfl, (aw_m1 32 rfl rfl), (aw_m1 33 rfl rfl), (aw_m1 2 rfl rfl)⟩
theorem ci_ra_11 : aw_ci "RoleAnalyser" 11 mm_po_init := ⟨(aw_m1 34 rfl rfl), (aw_m1 35 rfl rfl), rfl, rfl, rfl, (aw_m1 36 rfl rfl), by decide, by decide⟩
theorem fl_ra_12 : aw_fl "RoleAnalyser" 12 0 0 := ⟨_, "RoleAnalyser", rfl, by decide, (aw_m1 113 rfl rfl), Or.inl rfl⟩
theorem nl_ra_16 : aw_nl "RoleAnalyser" 16 2 5 := ⟨_, rfl, rfl, (aw_m1 88 rfl rfl), (aw_m1 89 rfl rfl), (aw_m1 6 rfl rfl)⟩
theorem ci_ra_18 : aw_ci "RoleAnalyser" 18 mm_se_init := ⟨(aw_m1 90 rfl rfl), (aw_m1 91 rfl rfl), rfl, rfl, rfl, (aw_m1 92 rfl rfl), by decide, by decide⟩
theorem fl_ra_21 : aw_fl "RoleAnalyser" 21 0 1 := ⟨_, "RoleAnalyser", rfl, by decide, (aw_m1 114 rfl rfl), Or.inl rfl⟩
theorem fl_ra_25 : aw_fl "RoleAnalyser" 25 0 2 := ⟨_, "RoleAnalyser", rfl, by decide, (aw_m1 115 rfl rfl), Or.inl rfl⟩
theorem fl_ra_29 : aw_fl "RoleAnalyser" 29 0 3 := ⟨_, "RoleAnalyser", rfl, by decide, (aw_m1 116 rfl rfl), Or.inl rfl⟩
theorem fl_ra_32 : aw_fl "RoleAnalyser" 32 0 4 := ⟨_, "RoleAnalyser", rfl, by decide, (aw_m1 117 rfl rfl), Or.inl rfl⟩
theorem fl_ra_35 : aw_fl "RoleAnalyser" 35 0 5 := ⟨_, "RoleAnalyser", rfl, by decide, (aw_m1 118 rfl rfl), Or.inl rfl⟩
theorem cs_ra_38 : aw_cs "RoleAnalyser" 38 mm_ar_fill := ⟨(aw_m1 110 rfl rfl), (aw_m1 111 rfl rfl), (aw_m1 7 rfl rfl), by decide, by decide⟩
theorem ob_po_3 : Cond.methodLink "RoleAnalyser$Policy" 3 objectInit ∈ aw_T ∧ Cond.instanceMethod objectInit ∈ aw_T ∧ Cond.code objectInit ⟨#[0xb1]⟩ 1 none ∈ aw_T := ⟨(aw_m1 37 rfl rfl), (aw_m1 30 rfl rfl), (aw_m1 31 rfl rfl)⟩
theorem fl_po_9 : aw_fl "RoleAnalyser$Policy" 9 1 1 := ⟨_, "RoleAnalyser$Policy", rfl, by decide, (aw_m1 67 rfl rfl), Or.inl rfl⟩
theorem nl_po_15 : aw_nl "RoleAnalyser$Policy" 15 6 3 := ⟨_, rfl, rfl, (aw_m1 38 rfl rfl), (aw_m1 39 rfl rfl), (aw_m1 5 rfl rfl)⟩
theorem ci_po_17 : aw_ci "RoleAnalyser$Policy" 17 mm_al_init := ⟨(aw_m1 40 rfl rfl), (aw_m1 41 rfl rfl), rfl, rfl, rfl, (aw_m1 42 rfl rfl), by decide, by decide⟩
theorem fl_po_18 : aw_fl "RoleAnalyser$Policy" 18 1 2 := ⟨_, "RoleAnalyser$Policy", rfl, by decide, (aw_m1 70 rfl rfl), Or.inl rfl⟩
theorem fl_po_22 : aw_fl "RoleAnalyser$Policy" 22 1 3 := ⟨_, "RoleAnalyser$Policy", rfl, by decide, (aw_m1 73 rfl rfl), Or.inl rfl⟩
theorem fl_po_25 : aw_fl "RoleAnalyser$Policy" 25 1 4 := ⟨_, "RoleAnalyser$Policy", rfl, by decide, (aw_m1 75 rfl rfl), Or.inl rfl⟩
theorem ci_al_1 : aw_ci "java/util/ArrayList" 1 mm_bl_init := ⟨(aw_m1 43 rfl rfl), (aw_m1 44 rfl rfl), rfl, rfl, rfl, (aw_m1 45 rfl rfl), by decide, by decide⟩
theorem fl_al_9 : aw_fl "java/util/ArrayList" 9 6 1 := ⟨_, "java/util/ArrayList", rfl, by decide, (aw_m1 52 rfl rfl), Or.inl rfl⟩
theorem ci_bl_1 : aw_ci "java/util/AbstractList" 1 mm_bc_init := ⟨(aw_m1 46 rfl rfl), (aw_m1 47 rfl rfl), rfl, rfl, rfl, (aw_m1 48 rfl rfl), by decide, by decide⟩
theorem fl_bl_7 : aw_fl "java/util/AbstractList" 7 6 0 := ⟨_, "java/util/AbstractList", rfl, by decide, (aw_m1 54 rfl rfl), Or.inl rfl⟩
theorem ob_bc_1 : Cond.methodLink "java/util/AbstractCollection" 1 objectInit ∈ aw_T ∧ Cond.instanceMethod objectInit ∈ aw_T ∧ Cond.code objectInit ⟨#[0xb1]⟩ 1 none ∈ aw_T := ⟨(aw_m1 49 rfl rfl), (aw_m1 30 rfl rfl), (aw_m1 31 rfl rfl)⟩
theorem ob_se_3 : Cond.methodLink "RoleAnalyser$Search" 3 objectInit ∈ aw_T ∧ Cond.instanceMethod objectInit ∈ aw_T ∧ Cond.code objectInit ⟨#[0xb1]⟩ 1 none ∈ aw_T := ⟨(aw_m1 93 rfl rfl), (aw_m1 30 rfl rfl), (aw_m1 31 rfl rfl)⟩
theorem fl_se_9 : aw_fl "RoleAnalyser$Search" 9 2 0 := ⟨_, "RoleAnalyser$Search", rfl, by decide, (aw_m1 94 rfl rfl), Or.inl rfl⟩
theorem fl_se_15 : aw_fl "RoleAnalyser$Search" 15 2 1 := ⟨_, "RoleAnalyser$Search", rfl, by decide, (aw_m1 95 rfl rfl), Or.inl rfl⟩
theorem fl_se_19 : aw_fl "RoleAnalyser$Search" 19 2 2 := ⟨_, "RoleAnalyser$Search", rfl, by decide, (aw_m1 96 rfl rfl), Or.inl rfl⟩
theorem cv_lw_7 : aw_cv "RoleAnalyserLaw" 7 mm_ra_role := ⟨(aw_m1 139 rfl rfl), (aw_m1 140 rfl rfl), (aw_m1 141 rfl rfl), by decide, by decide⟩
theorem fl_ra_44 : aw_fl "RoleAnalyser" 44 1 0 := ⟨_, "RoleAnalyser$Policy", rfl, by decide, (aw_m1 65 rfl rfl), Or.inl rfl⟩
theorem th_ra_48_50 : ax_thr "RoleAnalyser" 48 50 52 7 "java/lang/IllegalStateException" "there are 6 roles" ["java/lang/RuntimeException", "java/lang/Exception"] := ⟨by decide +kernel, by decide +kernel, by decide, (aw_m1 143 rfl rfl), (aw_m1 12 rfl rfl), List.mem_of_getElem? (i := 0) rfl, rfl, tp_e0 _ _ (aw_m1 186 rfl rfl)⟩
theorem cv_lw_15 : aw_cv "RoleAnalyserLaw" 15 mm_ra_user := ⟨(aw_m1 215 rfl rfl), (aw_m1 216 rfl rfl), (aw_m1 217 rfl rfl), by decide, by decide⟩
theorem fl_ra_55 : aw_fl "RoleAnalyser" 55 0 6 := ⟨_, "RoleAnalyser", rfl, by decide, (aw_m1 119 rfl rfl), Or.inl rfl⟩
theorem th_ra_48_58 : ax_thr "RoleAnalyser" 48 58 52 7 "java/lang/IllegalStateException" "there are 5 users" ["java/lang/RuntimeException", "java/lang/Exception"] := ⟨by decide +kernel, by decide +kernel, by decide, (aw_m1 143 rfl rfl), (aw_m1 12 rfl rfl), List.mem_of_getElem? (i := 1) rfl, rfl, tp_e0 _ _ (aw_m1 186 rfl rfl)⟩
theorem cv_lw_18 : aw_cv "RoleAnalyserLaw" 18 mm_ra_above := ⟨(aw_m1 225 rfl rfl), (aw_m1 226 rfl rfl), (aw_m1 227 rfl rfl), by decide, by decide⟩
theorem cv_ra_60 : aw_cv "RoleAnalyser" 60 mm_ra_checkRole := ⟨(aw_m1 229 rfl rfl), (aw_m1 231 rfl rfl), (aw_ms 1 rfl rfl), by decide, by decide⟩
theorem cv_ra_64 : aw_cv "RoleAnalyser" 64 mm_po_standsAbove := ⟨(aw_m2 9 rfl rfl), (aw_m2 10 rfl rfl), (aw_m2 11 rfl rfl), by decide, by decide⟩
theorem th_ra_68_70 : ax_thr "RoleAnalyser" 68 70 72 9 "java/lang/IllegalArgumentException" "a role would stand above itself" ["java/lang/RuntimeException", "java/lang/Exception"] := ⟨by decide +kernel, by decide +kernel, by decide, (aw_m2 16 rfl rfl), (aw_m1 14 rfl rfl), List.mem_of_getElem? (i := 3) rfl, rfl, tp_e2 _ _ (aw_m2 26 rfl rfl)⟩
theorem cv_ra_73 : aw_cv "RoleAnalyser" 73 mm_ra_authorizedRoles := ⟨(aw_m2 32 rfl rfl), (aw_m2 34 rfl rfl), (aw_ms 2 rfl rfl), by decide, by decide⟩
theorem cv_ra_77 : aw_cv "RoleAnalyser" 77 mm_po_widened := ⟨(aw_m2 36 rfl rfl), (aw_m2 37 rfl rfl), (aw_m2 38 rfl rfl), by decide, by decide⟩
theorem cv_ra_81 : aw_cv "RoleAnalyser" 81 mm_ra_checkStaticLimits := ⟨(aw_m2 40 rfl rfl), (aw_m2 42 rfl rfl), (aw_ms 3 rfl rfl), by decide, by decide⟩
theorem cv_ra_84 : aw_cv "RoleAnalyser" 84 mm_po_putAbove := ⟨(aw_m2 77 rfl rfl), (aw_m2 78 rfl rfl), (aw_m2 79 rfl rfl), by decide, by decide⟩
theorem th_ra_195_197 : ax_thr "RoleAnalyser" 195 197 199 8 "java/lang/IndexOutOfBoundsException" "no such role" ["java/lang/RuntimeException", "java/lang/Exception"] := ⟨by decide +kernel, by decide +kernel, by decide, (aw_m1 233 rfl rfl), (aw_m1 13 rfl rfl), List.mem_of_getElem? (i := 2) rfl, rfl, tp_e1 _ _ (aw_m2 3 rfl rfl)⟩
theorem cs_po_28 : aw_cn "RoleAnalyser$Policy" 28 "RoleAnalyser" mm_ra_has := ⟨List.mem_of_getElem? (i := 8) rfl, (aw_m2 14 rfl rfl), (aw_m1 1 rfl rfl), by decide, by decide⟩
theorem fl_ra_172 : aw_fl "RoleAnalyser" 172 1 1 := ⟨_, "RoleAnalyser$Policy", rfl, by decide, (aw_m1 69 rfl rfl), Or.inl rfl⟩
theorem fl_ra_103 : aw_fl "RoleAnalyser" 103 1 2 := ⟨_, "RoleAnalyser$Policy", rfl, by decide, (aw_m1 71 rfl rfl), Or.inl rfl⟩
theorem cs_ra_166 : aw_cs "RoleAnalyser" 166 mm_ra_areKept := ⟨(aw_m2 44 rfl rfl), (aw_m2 45 rfl rfl), (aw_m1 1 rfl rfl), by decide, by decide⟩
theorem th_ra_48_211 : ax_thr "RoleAnalyser" 48 211 52 7 "java/lang/IllegalStateException" "a static limit would not be kept" ["java/lang/RuntimeException", "java/lang/Exception"] := ⟨by decide +kernel, by decide +kernel, by decide, (aw_m1 143 rfl rfl), (aw_m1 12 rfl rfl), List.mem_of_getElem? (i := 4) rfl, rfl, tp_e0 _ _ (aw_m1 186 rfl rfl)⟩
theorem cv_ra_106 : aw_cv "RoleAnalyser" 106 mm_al_size := ⟨(aw_m2 47 rfl rfl), (aw_m2 48 rfl rfl), (aw_m2 49 rfl rfl), by decide, by decide⟩
theorem cv_ra_223 : aw_cv "RoleAnalyser" 223 mm_al_get := ⟨(aw_m2 51 rfl rfl), (aw_m2 52 rfl rfl), (aw_m2 53 rfl rfl), by decide, by decide⟩
theorem cv_ra_191 : aw_cv "RoleAnalyser" 191 mm_li_isKept := ⟨(aw_m2 66 rfl rfl), (aw_m2 67 rfl rfl), (aw_m2 68 rfl rfl), by decide, by decide⟩
theorem fl_al_48 : aw_fl "java/util/ArrayList" 48 6 2 := ⟨_, "java/util/ArrayList", rfl, by decide, (aw_m1 53 rfl rfl), Or.inl rfl⟩
theorem cs_al_118 : aw_cs "java/util/ArrayList" 118 mm_ot_checkIndex := ⟨(aw_m2 55 rfl rfl), (aw_m2 56 rfl rfl), (aw_m1 15 rfl rfl), by decide, by decide⟩
theorem cv_al_123 : aw_cv "java/util/ArrayList" 123 mm_al_elementData := ⟨(aw_m2 61 rfl rfl), (aw_m2 62 rfl rfl), (aw_m2 63 rfl rfl), by decide, by decide⟩
theorem cs_ot_105 : aw_cs "java/util/Objects" 105 mm_pc_checkIndex := ⟨(aw_m2 58 rfl rfl), (aw_m2 59 rfl rfl), (aw_m1 16 rfl rfl), by decide, by decide⟩
theorem fl_li_7 : aw_fl "RoleAnalyser$Limit" 7 3 0 := ⟨_, "RoleAnalyser$Limit", rfl, by decide, (aw_m2 112 rfl rfl), Or.inl rfl⟩
theorem cs_li_16 : aw_cs "RoleAnalyser$Limit" 16 mm_ig_bitCount := ⟨(aw_m2 70 rfl rfl), (aw_m2 71 rfl rfl), (aw_m1 17 rfl rfl), by decide, by decide⟩
theorem fl_li_13 : aw_fl "RoleAnalyser$Limit" 13 3 1 := ⟨_, "RoleAnalyser$Limit", rfl, by decide, (aw_m2 113 rfl rfl), Or.inl rfl⟩
theorem cv_po_32 : aw_cv "RoleAnalyser$Policy" 32 mm_po_widened := ⟨(aw_m2 81 rfl rfl), (aw_m2 37 rfl rfl), (aw_m2 38 rfl rfl), by decide, by decide⟩
theorem cv_lw_26 : aw_cv "RoleAnalyserLaw" 26 mm_ra_grant := ⟨(aw_m2 85 rfl rfl), (aw_m2 86 rfl rfl), (aw_m2 87 rfl rfl), by decide, by decide⟩
theorem cs_ra_88 : aw_cs "RoleAnalyser" 88 mm_ra_checkPermission := ⟨(aw_m2 89 rfl rfl), (aw_m2 90 rfl rfl), (aw_m1 1 rfl rfl), by decide, by decide⟩
theorem cs_ra_91 : aw_cs "RoleAnalyser" 91 mm_ra_has := ⟨(aw_m2 93 rfl rfl), (aw_m2 14 rfl rfl), (aw_m1 1 rfl rfl), by decide, by decide⟩
theorem th_ra_195_219 : ax_thr "RoleAnalyser" 195 219 199 8 "java/lang/IndexOutOfBoundsException" "no such permission" ["java/lang/RuntimeException", "java/lang/Exception"] := ⟨by decide +kernel, by decide +kernel, by decide, (aw_m1 233 rfl rfl), (aw_m1 13 rfl rfl), List.mem_of_getElem? (i := 5) rfl, rfl, tp_e1 _ _ (aw_m2 3 rfl rfl)⟩
theorem cv_lw_29 : aw_cv "RoleAnalyserLaw" 29 mm_ra_limit := ⟨(aw_m2 97 rfl rfl), (aw_m2 98 rfl rfl), (aw_m2 99 rfl rfl), by decide, by decide⟩
theorem th_ra_68_94 : ax_thr "RoleAnalyser" 68 94 72 9 "java/lang/IllegalArgumentException" "the number of a limit is below 2" ["java/lang/RuntimeException", "java/lang/Exception"] := ⟨by decide +kernel, by decide +kernel, by decide, (aw_m2 16 rfl rfl), (aw_m1 14 rfl rfl), List.mem_of_getElem? (i := 6) rfl, rfl, tp_e2 _ _ (aw_m2 26 rfl rfl)⟩
theorem cs_ra_96 : aw_cs "RoleAnalyser" 96 mm_ra_checkRoleSet := ⟨(aw_m2 102 rfl rfl), (aw_m2 103 rfl rfl), (aw_m1 1 rfl rfl), by decide, by decide⟩
theorem fl_ra_99 : aw_fl "RoleAnalyser" 99 1 3 := ⟨_, "RoleAnalyser$Policy", rfl, by decide, (aw_m1 74 rfl rfl), Or.inl rfl⟩
theorem th_ra_48_112 : ax_thr "RoleAnalyser" 48 112 52 7 "java/lang/IllegalStateException" "there are 4 limits of the kind" ["java/lang/RuntimeException", "java/lang/Exception"] := ⟨by decide +kernel, by decide +kernel, by decide, (aw_m1 143 rfl rfl), (aw_m1 12 rfl rfl), List.mem_of_getElem? (i := 8) rfl, rfl, tp_e0 _ _ (aw_m1 186 rfl rfl)⟩
theorem nl_ra_114 : aw_nl "RoleAnalyser" 114 3 2 := ⟨_, rfl, rfl, (aw_m2 65 rfl rfl), (aw_m2 107 rfl rfl), (aw_m1 18 rfl rfl)⟩
theorem ci_ra_116 : aw_ci "RoleAnalyser" 116 mm_li_init := ⟨(aw_m2 108 rfl rfl), (aw_m2 109 rfl rfl), rfl, rfl, rfl, (aw_m2 110 rfl rfl), by decide, by decide⟩
theorem cv_ra_118 : aw_cv "RoleAnalyser" 118 mm_ra_isKeptBySessions := ⟨(aw_m2 119 rfl rfl), (aw_m2 121 rfl rfl), (aw_ms 4 rfl rfl), by decide, by decide⟩
theorem cv_ra_122 : aw_cv "RoleAnalyser" 122 mm_ra_isKeptByUsers := ⟨(aw_m2 123 rfl rfl), (aw_m2 125 rfl rfl), (aw_ms 5 rfl rfl), by decide, by decide⟩
theorem th_ra_48_125 : ax_thr "RoleAnalyser" 48 125 52 7 "java/lang/IllegalStateException" "the limit is not kept" ["java/lang/RuntimeException", "java/lang/Exception"] := ⟨by decide +kernel, by decide +kernel, by decide, (aw_m1 143 rfl rfl), (aw_m1 12 rfl rfl), List.mem_of_getElem? (i := 9) rfl, rfl, tp_e0 _ _ (aw_m1 186 rfl rfl)⟩
theorem cv_ra_127 : aw_cv "RoleAnalyser" 127 mm_al_add1 := ⟨(aw_m2 128 rfl rfl), (aw_m2 129 rfl rfl), (aw_m2 130 rfl rfl), by decide, by decide⟩
theorem th_ra_68_221 : ax_thr "RoleAnalyser" 68 221 72 9 "java/lang/IllegalArgumentException" "a set of roles is not 0 .. 63" ["java/lang/RuntimeException", "java/lang/Exception"] := ⟨by decide +kernel, by decide +kernel, by decide, (aw_m2 16 rfl rfl), (aw_m1 14 rfl rfl), List.mem_of_getElem? (i := 7) rfl, rfl, tp_e2 _ _ (aw_m2 26 rfl rfl)⟩
theorem ob_li_1 : Cond.methodLink "RoleAnalyser$Limit" 1 objectInit ∈ aw_T ∧ Cond.instanceMethod objectInit ∈ aw_T ∧ Cond.code objectInit ⟨#[0xb1]⟩ 1 none ∈ aw_T := ⟨(aw_m2 111 rfl rfl), (aw_m1 30 rfl rfl), (aw_m1 31 rfl rfl)⟩
theorem fl_al_63 : aw_fl "java/util/ArrayList" 63 6 0 := ⟨_, "java/util/ArrayList", rfl, by decide, (aw_m1 55 rfl rfl), Or.inr (aw_m1 56 rfl rfl)⟩
theorem cv_al_131 : aw_cv "java/util/ArrayList" 131 mm_al_add2 := ⟨(aw_m2 132 rfl rfl), (aw_m2 134 rfl rfl), (aw_ms 6 rfl rfl), by decide, by decide⟩
theorem cv_al_129 : aw_cv "java/util/ArrayList" 129 mm_al_grow1 := ⟨(aw_m2 136 rfl rfl), (aw_m2 138 rfl rfl), (aw_ms 7 rfl rfl), by decide, by decide⟩
theorem cv_al_69 : aw_cv "java/util/ArrayList" 69 mm_al_grow2 := ⟨(aw_m2 140 rfl rfl), (aw_m2 142 rfl rfl), (aw_ms 8 rfl rfl), by decide, by decide⟩
theorem cs_al_73 : aw_cs "java/util/ArrayList" 73 mm_su_newLength := ⟨(aw_m2 144 rfl rfl), (aw_m2 145 rfl rfl), (aw_m1 19 rfl rfl), by decide, by decide⟩
theorem cs_al_66 : aw_cs "java/util/ArrayList" 66 mm_ar_copyOf1 := ⟨(aw_m2 154 rfl rfl), (aw_m2 155 rfl rfl), (aw_m1 7 rfl rfl), by decide, by decide⟩
theorem cs_al_79 : aw_cs "java/util/ArrayList" 79 mm_ma_max := ⟨(aw_m2 184 rfl rfl), (aw_m2 148 rfl rfl), (aw_m1 20 rfl rfl), by decide, by decide⟩
theorem cs_su_194 : aw_cs "jdk/internal/util/ArraysSupport" 194 mm_ma_max := ⟨(aw_m2 147 rfl rfl), (aw_m2 148 rfl rfl), (aw_m1 20 rfl rfl), by decide, by decide⟩
theorem cs_su_201 : aw_cs "jdk/internal/util/ArraysSupport" 201 mm_su_hugeLength := ⟨(aw_m2 151 rfl rfl), (aw_m2 152 rfl rfl), (aw_m1 19 rfl rfl), by decide, by decide⟩
theorem cs_ar_300 : aw_cs "java/util/Arrays" 300 mm_ar_copyOf2 := ⟨(aw_m2 172 rfl rfl), (aw_m2 173 rfl rfl), (aw_m1 7 rfl rfl), by decide, by decide⟩
theorem cs_ar_304 : aw_cs "java/util/Arrays" 304 mm_ma_min := ⟨(aw_m2 178 rfl rfl), (aw_m2 179 rfl rfl), (aw_m1 20 rfl rfl), by decide, by decide⟩
theorem cv_lw_33 : aw_cv "RoleAnalyserLaw" 33 mm_ra_giveRule := ⟨(aw_m2 189 rfl rfl), (aw_m2 190 rfl rfl), (aw_m2 191 rfl rfl), by decide, by decide⟩
theorem cv_ra_131 : aw_cv "RoleAnalyser" 131 mm_ra_checkRoomForRule := ⟨(aw_m2 193 rfl rfl), (aw_m2 195 rfl rfl), (aw_ms 9 rfl rfl), by decide, by decide⟩
theorem nl_ra_134 : aw_nl "RoleAnalyser" 134 4 5 := ⟨_, rfl, rfl, (aw_m2 198 rfl rfl), (aw_m2 199 rfl rfl), (aw_m1 22 rfl rfl)⟩
theorem ci_ra_136 : aw_ci "RoleAnalyser" 136 mm_ru_init := ⟨(aw_m2 200 rfl rfl), (aw_m2 201 rfl rfl), rfl, rfl, rfl, (aw_m2 202 rfl rfl), by decide, by decide⟩
theorem cv_ra_139 : aw_cv "RoleAnalyser" 139 mm_po_addRule := ⟨(aw_m2 220 rfl rfl), (aw_m2 221 rfl rfl), (aw_m2 222 rfl rfl), by decide, by decide⟩
theorem fl_ra_206 : aw_fl "RoleAnalyser" 206 1 4 := ⟨_, "RoleAnalyser$Policy", rfl, by decide, (aw_m1 76 rfl rfl), Or.inl rfl⟩
theorem th_ra_48_209 : ax_thr "RoleAnalyser" 48 209 52 7 "java/lang/IllegalStateException" "there are 8 rules" ["java/lang/RuntimeException", "java/lang/Exception"] := ⟨by decide +kernel, by decide +kernel, by decide, (aw_m1 143 rfl rfl), (aw_m1 12 rfl rfl), List.mem_of_getElem? (i := 10) rfl, rfl, tp_e0 _ _ (aw_m1 186 rfl rfl)⟩
theorem ob_ru_1 : Cond.methodLink "RoleAnalyser$Rule" 1 objectInit ∈ aw_T ∧ Cond.instanceMethod objectInit ∈ aw_T ∧ Cond.code objectInit ⟨#[0xb1]⟩ 1 none ∈ aw_T := ⟨(aw_m2 203 rfl rfl), (aw_m1 30 rfl rfl), (aw_m1 31 rfl rfl)⟩
theorem fl_ru_7 : aw_fl "RoleAnalyser$Rule" 7 4 0 := ⟨_, "RoleAnalyser$Rule", rfl, by decide, (aw_m2 204 rfl rfl), Or.inl rfl⟩
theorem fl_ru_13 : aw_fl "RoleAnalyser$Rule" 13 4 1 := ⟨_, "RoleAnalyser$Rule", rfl, by decide, (aw_m2 205 rfl rfl), Or.inl rfl⟩
theorem fl_ru_17 : aw_fl "RoleAnalyser$Rule" 17 4 2 := ⟨_, "RoleAnalyser$Rule", rfl, by decide, (aw_m2 206 rfl rfl), Or.inl rfl⟩
theorem fl_ru_20 : aw_fl "RoleAnalyser$Rule" 20 4 3 := ⟨_, "RoleAnalyser$Rule", rfl, by decide, (aw_m2 207 rfl rfl), Or.inl rfl⟩
theorem fl_ru_23 : aw_fl "RoleAnalyser$Rule" 23 4 4 := ⟨_, "RoleAnalyser$Rule", rfl, by decide, (aw_m2 208 rfl rfl), Or.inl rfl⟩
theorem cv_po_36 : aw_cv "RoleAnalyser$Policy" 36 mm_al_add1 := ⟨(aw_m2 224 rfl rfl), (aw_m2 129 rfl rfl), (aw_m2 130 rfl rfl), by decide, by decide⟩
theorem cv_po_40 : aw_cv "RoleAnalyser$Policy" 40 mm_al_size := ⟨(aw_m2 225 rfl rfl), (aw_m2 48 rfl rfl), (aw_m2 49 rfl rfl), by decide, by decide⟩
theorem cv_lw_37 : aw_cv "RoleAnalyserLaw" 37 mm_ra_takeRule := ⟨(aw_m2 229 rfl rfl), (aw_m2 230 rfl rfl), (aw_m2 231 rfl rfl), by decide, by decide⟩
theorem cv_lw_41 : aw_cv "RoleAnalyserLaw" 41 mm_ra_assign := ⟨(aw_m2 236 rfl rfl), (aw_m2 237 rfl rfl), (aw_m2 238 rfl rfl), by decide, by decide⟩
theorem cv_ra_143 : aw_cv "RoleAnalyser" 143 mm_ra_checkUser := ⟨(aw_m3 0 rfl rfl), (aw_m3 2 rfl rfl), (aw_ms 10 rfl rfl), by decide, by decide⟩
theorem cv_ra_146 : aw_cv "RoleAnalyser" 146 mm_ra_addAssignment := ⟨(aw_m3 5 rfl rfl), (aw_m3 7 rfl rfl), (aw_ms 11 rfl rfl), by decide, by decide⟩
theorem th_ra_195_200 : ax_thr "RoleAnalyser" 195 200 199 8 "java/lang/IndexOutOfBoundsException" "no such user" ["java/lang/RuntimeException", "java/lang/Exception"] := ⟨by decide +kernel, by decide +kernel, by decide, (aw_m1 233 rfl rfl), (aw_m1 13 rfl rfl), List.mem_of_getElem? (i := 11) rfl, rfl, tp_e1 _ _ (aw_m2 3 rfl rfl)⟩
theorem cv_lw_44 : aw_cv "RoleAnalyserLaw" 44 mm_ra_remove := ⟨(aw_m3 12 rfl rfl), (aw_m3 13 rfl rfl), (aw_m3 14 rfl rfl), by decide, by decide⟩
theorem cv_ra_149 : aw_cv "RoleAnalyser" 149 mm_ra_dropAssignment := ⟨(aw_m3 16 rfl rfl), (aw_m3 18 rfl rfl), (aw_ms 12 rfl rfl), by decide, by decide⟩
theorem cv_lw_47 : aw_cv "RoleAnalyserLaw" 47 mm_ra_give := ⟨(aw_m3 24 rfl rfl), (aw_m3 25 rfl rfl), (aw_m3 26 rfl rfl), by decide, by decide⟩
theorem cv_ra_152 : aw_cv "RoleAnalyser" 152 mm_ra_checkLeave := ⟨(aw_m3 28 rfl rfl), (aw_m3 30 rfl rfl), (aw_ms 13 rfl rfl), by decide, by decide⟩
theorem cv_ra_213 : aw_cv "RoleAnalyser" 213 mm_po_isAllowed := ⟨(aw_m3 32 rfl rfl), (aw_m3 33 rfl rfl), (aw_m3 34 rfl rfl), by decide, by decide⟩
theorem th_ra_161_217 : ax_thr "RoleAnalyser" 161 217 165 10 "java/lang/UnsupportedOperationException" "no rule allows it" ["java/lang/RuntimeException", "java/lang/Exception"] := ⟨by decide +kernel, by decide +kernel, by decide, (aw_m3 47 rfl rfl), (aw_m1 23 rfl rfl), List.mem_of_getElem? (i := 12) rfl, rfl, tp_e3 _ _ (aw_m3 57 rfl rfl)⟩
theorem cv_po_44 : aw_cv "RoleAnalyser$Policy" 44 mm_al_get := ⟨(aw_m3 36 rfl rfl), (aw_m2 52 rfl rfl), (aw_m2 53 rfl rfl), by decide, by decide⟩
theorem cv_po_50 : aw_cv "RoleAnalyser$Policy" 50 mm_ru_isFor := ⟨(aw_m3 38 rfl rfl), (aw_m3 39 rfl rfl), (aw_m3 40 rfl rfl), by decide, by decide⟩
theorem cv_po_54 : aw_cv "RoleAnalyser$Policy" 54 mm_ru_allows := ⟨(aw_m3 42 rfl rfl), (aw_m3 43 rfl rfl), (aw_m3 44 rfl rfl), by decide, by decide⟩
theorem cs_ru_26 : aw_cn "RoleAnalyser$Rule" 26 "RoleAnalyser" mm_ra_has := ⟨List.mem_of_getElem? (i := 10) rfl, (aw_m2 14 rfl rfl), (aw_m1 1 rfl rfl), by decide, by decide⟩
theorem cv_lw_53 : aw_cv "RoleAnalyserLaw" 53 mm_ra_take := ⟨(aw_m3 66 rfl rfl), (aw_m3 67 rfl rfl), (aw_m3 68 rfl rfl), by decide, by decide⟩
theorem cv_lw_56 : aw_cv "RoleAnalyserLaw" 56 mm_ra_roles := ⟨(aw_m3 73 rfl rfl), (aw_m3 74 rfl rfl), (aw_m3 75 rfl rfl), by decide, by decide⟩
theorem cv_lw_60 : aw_cv "RoleAnalyserLaw" 60 mm_ra_open := ⟨(aw_m3 80 rfl rfl), (aw_m3 81 rfl rfl), (aw_m3 82 rfl rfl), by decide, by decide⟩
theorem th_ra_48_156 : ax_thr "RoleAnalyser" 48 156 52 7 "java/lang/IllegalStateException" "4 sessions are open" ["java/lang/RuntimeException", "java/lang/Exception"] := ⟨by decide +kernel, by decide +kernel, by decide, (aw_m1 143 rfl rfl), (aw_m1 12 rfl rfl), List.mem_of_getElem? (i := 13) rfl, rfl, tp_e0 _ _ (aw_m1 186 rfl rfl)⟩
theorem cv_lw_64 : aw_cv "RoleAnalyserLaw" 64 mm_ra_close := ⟨(aw_m3 88 rfl rfl), (aw_m3 89 rfl rfl), (aw_m3 90 rfl rfl), by decide, by decide⟩
theorem cv_ra_158 : aw_cv "RoleAnalyser" 158 mm_ra_checkSession := ⟨(aw_m3 92 rfl rfl), (aw_m3 94 rfl rfl), (aw_ms 14 rfl rfl), by decide, by decide⟩
theorem th_ra_195_202 : ax_thr "RoleAnalyser" 195 202 199 8 "java/lang/IndexOutOfBoundsException" "no such session is open" ["java/lang/RuntimeException", "java/lang/Exception"] := ⟨by decide +kernel, by decide +kernel, by decide, (aw_m1 233 rfl rfl), (aw_m1 13 rfl rfl), List.mem_of_getElem? (i := 14) rfl, rfl, tp_e1 _ _ (aw_m2 3 rfl rfl)⟩
theorem cv_lw_68 : aw_cv "RoleAnalyserLaw" 68 mm_ra_activate := ⟨(aw_m3 100 rfl rfl), (aw_m3 101 rfl rfl), (aw_m3 102 rfl rfl), by decide, by decide⟩
theorem th_ra_161_163 : ax_thr "RoleAnalyser" 161 163 165 10 "java/lang/UnsupportedOperationException" "the user is not authorized for the role" ["java/lang/RuntimeException", "java/lang/Exception"] := ⟨by decide +kernel, by decide +kernel, by decide, (aw_m3 47 rfl rfl), (aw_m1 23 rfl rfl), List.mem_of_getElem? (i := 15) rfl, rfl, tp_e3 _ _ (aw_m3 57 rfl rfl)⟩
theorem th_ra_48_170 : ax_thr "RoleAnalyser" 48 170 52 7 "java/lang/IllegalStateException" "a dynamic limit would not be kept" ["java/lang/RuntimeException", "java/lang/Exception"] := ⟨by decide +kernel, by decide +kernel, by decide, (aw_m1 143 rfl rfl), (aw_m1 12 rfl rfl), List.mem_of_getElem? (i := 16) rfl, rfl, tp_e0 _ _ (aw_m1 186 rfl rfl)⟩
theorem cv_lw_71 : aw_cv "RoleAnalyserLaw" 71 mm_ra_rest := ⟨(aw_m3 109 rfl rfl), (aw_m3 110 rfl rfl), (aw_m3 111 rfl rfl), by decide, by decide⟩
theorem cv_lw_74 : aw_cv "RoleAnalyserLaw" 74 mm_ra_active := ⟨(aw_m3 116 rfl rfl), (aw_m3 117 rfl rfl), (aw_m3 118 rfl rfl), by decide, by decide⟩
theorem cv_lw_77 : aw_cv "RoleAnalyserLaw" 77 mm_ra_may := ⟨(aw_m3 123 rfl rfl), (aw_m3 124 rfl rfl), (aw_m3 125 rfl rfl), by decide, by decide⟩
theorem cv_lw_80 : aw_cv "RoleAnalyserLaw" 80 mm_ra_distance := ⟨(aw_m3 130 rfl rfl), (aw_m3 131 rfl rfl), (aw_m3 132 rfl rfl), by decide, by decide⟩
theorem cv_ra_175 : aw_cv "RoleAnalyser" 175 mm_ra_checkQuestion := ⟨(aw_m3 134 rfl rfl), (aw_m3 136 rfl rfl), (aw_ms 15 rfl rfl), by decide, by decide⟩
theorem cv_ra_178 : aw_cv "RoleAnalyser" 178 mm_se_nearestGoal := ⟨(aw_m3 139 rfl rfl), (aw_m3 140 rfl rfl), (aw_m3 141 rfl rfl), by decide, by decide⟩
theorem cv_ra_182 : aw_cv "RoleAnalyser" 182 mm_se_stepsTo := ⟨(aw_m3 179 rfl rfl), (aw_m3 180 rfl rfl), (aw_m3 181 rfl rfl), by decide, by decide⟩
theorem th_ra_161_204 : ax_thr "RoleAnalyser" 161 204 165 10 "java/lang/UnsupportedOperationException" "there are more than 12 pairs" ["java/lang/RuntimeException", "java/lang/Exception"] := ⟨by decide +kernel, by decide +kernel, by decide, (aw_m3 47 rfl rfl), (aw_m1 23 rfl rfl), List.mem_of_getElem? (i := 17) rfl, rfl, tp_e3 _ _ (aw_m3 57 rfl rfl)⟩
theorem fl_se_22 : aw_fl "RoleAnalyser$Search" 22 2 4 := ⟨_, "RoleAnalyser$Search", rfl, by decide, (aw_m1 98 rfl rfl), Or.inl rfl⟩
theorem cv_se_26 : aw_cv "RoleAnalyser$Search" 26 mm_se_begin := ⟨(aw_m3 143 rfl rfl), (aw_m3 145 rfl rfl), (aw_ms 16 rfl rfl), by decide, by decide⟩
theorem fl_se_30 : aw_fl "RoleAnalyser$Search" 30 2 3 := ⟨_, "RoleAnalyser$Search", rfl, by decide, (aw_m1 97 rfl rfl), Or.inl rfl⟩
theorem cv_se_33 : aw_cv "RoleAnalyser$Search" 33 mm_se_authorizedIn := ⟨(aw_m3 156 rfl rfl), (aw_m3 158 rfl rfl), (aw_ms 19 rfl rfl), by decide, by decide⟩
theorem cs_se_37 : aw_cn "RoleAnalyser$Search" 37 "RoleAnalyser" mm_ra_has := ⟨List.mem_of_getElem? (i := 12) rfl, (aw_m2 14 rfl rfl), (aw_m1 1 rfl rfl), by decide, by decide⟩
theorem cv_se_41 : aw_cv "RoleAnalyser$Search" 41 mm_se_takeSteps := ⟨(aw_m3 165 rfl rfl), (aw_m3 167 rfl rfl), (aw_ms 21 rfl rfl), by decide, by decide⟩
theorem cv_se_52 : aw_cv "RoleAnalyser$Search" 52 mm_se_pairBit := ⟨(aw_m3 147 rfl rfl), (aw_m3 149 rfl rfl), (aw_ms 17 rfl rfl), by decide, by decide⟩
theorem cs_se_55 : aw_cs "RoleAnalyser$Search" 55 mm_ar_fill := ⟨(aw_m3 151 rfl rfl), (aw_m1 111 rfl rfl), (aw_m1 7 rfl rfl), by decide, by decide⟩
theorem cv_se_61 : aw_cv "RoleAnalyser$Search" 61 mm_se_reach := ⟨(aw_m3 152 rfl rfl), (aw_m3 154 rfl rfl), (aw_ms 18 rfl rfl), by decide, by decide⟩
theorem fl_se_71 : aw_fl "RoleAnalyser$Search" 71 1 0 := ⟨_, "RoleAnalyser$Policy", rfl, by decide, (aw_m1 66 rfl rfl), Or.inl rfl⟩
theorem fl_se_80 : aw_fl "RoleAnalyser$Search" 80 1 1 := ⟨_, "RoleAnalyser$Policy", rfl, by decide, (aw_m1 68 rfl rfl), Or.inl rfl⟩
theorem cv_se_68 : aw_cv "RoleAnalyser$Search" 68 mm_se_assignedIn := ⟨(aw_m3 160 rfl rfl), (aw_m3 162 rfl rfl), (aw_ms 20 rfl rfl), by decide, by decide⟩
theorem cv_se_65 : aw_cv "RoleAnalyser$Search" 65 mm_se_authorizedOfAll := ⟨(aw_m3 169 rfl rfl), (aw_m3 171 rfl rfl), (aw_ms 22 rfl rfl), by decide, by decide⟩
theorem cv_se_76 : aw_cv "RoleAnalyser$Search" 76 mm_se_isStep := ⟨(aw_m3 173 rfl rfl), (aw_m3 175 rfl rfl), (aw_ms 23 rfl rfl), by decide, by decide⟩
theorem cv_se_83 : aw_cv "RoleAnalyser$Search" 83 mm_po_isAllowed := ⟨(aw_m3 177 rfl rfl), (aw_m3 33 rfl rfl), (aw_m3 34 rfl rfl), by decide, by decide⟩
theorem fl_se_87 : aw_fl "RoleAnalyser$Search" 87 1 2 := ⟨_, "RoleAnalyser$Policy", rfl, by decide, (aw_m1 72 rfl rfl), Or.inl rfl⟩
theorem cs_se_91 : aw_cn "RoleAnalyser$Search" 91 "RoleAnalyser" mm_ra_areKept := ⟨List.mem_of_getElem? (i := 13) rfl, (aw_m2 45 rfl rfl), (aw_m1 1 rfl rfl), by decide, by decide⟩
theorem cv_se_45 : aw_cv "RoleAnalyser$Search" 45 mm_se_stateBefore := ⟨(aw_m3 183 rfl rfl), (aw_m3 185 rfl rfl), (aw_ms 24 rfl rfl), by decide, by decide⟩
theorem cv_lw_83 : aw_cv "RoleAnalyserLaw" 83 mm_ra_plan := ⟨(aw_m3 190 rfl rfl), (aw_m3 191 rfl rfl), (aw_m3 192 rfl rfl), by decide, by decide⟩
theorem th_ra_48_185 : ax_thr "RoleAnalyser" 48 185 52 7 "java/lang/IllegalStateException" "no steps lead there" ["java/lang/RuntimeException", "java/lang/Exception"] := ⟨by decide +kernel, by decide +kernel, by decide, (aw_m1 143 rfl rfl), (aw_m1 12 rfl rfl), List.mem_of_getElem? (i := 18) rfl, rfl, tp_e0 _ _ (aw_m1 186 rfl rfl)⟩
theorem cv_ra_187 : aw_cv "RoleAnalyser" 187 mm_se_stepCode := ⟨(aw_m3 195 rfl rfl), (aw_m3 196 rfl rfl), (aw_m3 197 rfl rfl), by decide, by decide⟩
theorem cv_se_49 : aw_cv "RoleAnalyser$Search" 49 mm_se_stepsTo := ⟨(aw_m3 199 rfl rfl), (aw_m3 180 rfl rfl), (aw_m3 181 rfl rfl), by decide, by decide⟩
theorem ob_mo_1 : Cond.methodLink "RoleAnalyserModel" 1 objectInit ∈ aw_T ∧ Cond.instanceMethod objectInit ∈ aw_T ∧ Cond.code objectInit ⟨#[0xb1]⟩ 1 none ∈ aw_T := ⟨(aw_m3 205 rfl rfl), (aw_m1 30 rfl rfl), (aw_m1 31 rfl rfl)⟩
theorem fl_mo_7 : aw_fl "RoleAnalyserModel" 7 5 3 := ⟨_, "RoleAnalyserModel", rfl, by decide, (aw_m3 209 rfl rfl), Or.inl rfl⟩
theorem fl_mo_13 : aw_fl "RoleAnalyserModel" 13 5 4 := ⟨_, "RoleAnalyserModel", rfl, by decide, (aw_m3 210 rfl rfl), Or.inl rfl⟩
theorem fl_mo_16 : aw_fl "RoleAnalyserModel" 16 5 5 := ⟨_, "RoleAnalyserModel", rfl, by decide, (aw_m3 211 rfl rfl), Or.inl rfl⟩
theorem fl_mo_19 : aw_fl "RoleAnalyserModel" 19 5 6 := ⟨_, "RoleAnalyserModel", rfl, by decide, (aw_m3 212 rfl rfl), Or.inl rfl⟩
theorem fl_mo_22 : aw_fl "RoleAnalyserModel" 22 5 7 := ⟨_, "RoleAnalyserModel", rfl, by decide, (aw_m3 213 rfl rfl), Or.inl rfl⟩
theorem fl_mo_25 : aw_fl "RoleAnalyserModel" 25 5 8 := ⟨_, "RoleAnalyserModel", rfl, by decide, (aw_m3 214 rfl rfl), Or.inl rfl⟩
theorem fl_mo_28 : aw_fl "RoleAnalyserModel" 28 5 9 := ⟨_, "RoleAnalyserModel", rfl, by decide, (aw_m3 215 rfl rfl), Or.inl rfl⟩
theorem fl_mo_31 : aw_fl "RoleAnalyserModel" 31 5 10 := ⟨_, "RoleAnalyserModel", rfl, by decide, (aw_m3 216 rfl rfl), Or.inl rfl⟩
theorem fl_mo_35 : aw_fl "RoleAnalyserModel" 35 5 11 := ⟨_, "RoleAnalyserModel", rfl, by decide, (aw_m3 217 rfl rfl), Or.inl rfl⟩
theorem fl_mo_38 : aw_fl "RoleAnalyserModel" 38 5 12 := ⟨_, "RoleAnalyserModel", rfl, by decide, (aw_m3 218 rfl rfl), Or.inl rfl⟩
theorem fl_mo_41 : aw_fl "RoleAnalyserModel" 41 5 14 := ⟨_, "RoleAnalyserModel", rfl, by decide, (aw_m3 220 rfl rfl), Or.inl rfl⟩
theorem fl_mo_44 : aw_fl "RoleAnalyserModel" 44 5 15 := ⟨_, "RoleAnalyserModel", rfl, by decide, (aw_m3 221 rfl rfl), Or.inl rfl⟩
theorem fl_mo_47 : aw_fl "RoleAnalyserModel" 47 5 16 := ⟨_, "RoleAnalyserModel", rfl, by decide, (aw_m3 222 rfl rfl), Or.inl rfl⟩
theorem fl_mo_50 : aw_fl "RoleAnalyserModel" 50 5 17 := ⟨_, "RoleAnalyserModel", rfl, by decide, (aw_m3 223 rfl rfl), Or.inl rfl⟩
theorem fl_mo_53 : aw_fl "RoleAnalyserModel" 53 5 18 := ⟨_, "RoleAnalyserModel", rfl, by decide, (aw_m3 224 rfl rfl), Or.inl rfl⟩
theorem fl_mo_56 : aw_fl "RoleAnalyserModel" 56 5 19 := ⟨_, "RoleAnalyserModel", rfl, by decide, (aw_m3 225 rfl rfl), Or.inl rfl⟩
theorem fl_mo_59 : aw_fl "RoleAnalyserModel" 59 5 20 := ⟨_, "RoleAnalyserModel", rfl, by decide, (aw_m3 226 rfl rfl), Or.inl rfl⟩
theorem fl_mo_62 : aw_fl "RoleAnalyserModel" 62 5 21 := ⟨_, "RoleAnalyserModel", rfl, by decide, (aw_m3 227 rfl rfl), Or.inl rfl⟩
theorem fl_mo_65 : aw_fl "RoleAnalyserModel" 65 5 0 := ⟨_, "RoleAnalyserModel", rfl, by decide, (aw_m3 206 rfl rfl), Or.inl rfl⟩
theorem fl_mo_69 : aw_fl "RoleAnalyserModel" 69 5 1 := ⟨_, "RoleAnalyserModel", rfl, by decide, (aw_m3 207 rfl rfl), Or.inl rfl⟩
theorem cv_mo_86 : aw_cv "RoleAnalyserModel" 86 mm_mo_when := ⟨(aw_m4 48 rfl rfl), (aw_m4 50 rfl rfl), (aw_ms 25 rfl rfl), by decide, by decide⟩
theorem fl_mo_72 : aw_fl "RoleAnalyserModel" 72 5 2 := ⟨_, "RoleAnalyserModel", rfl, by decide, (aw_m3 208 rfl rfl), Or.inl rfl⟩
theorem cv_mo_90 : aw_cv "RoleAnalyserModel" 90 mm_mo_isRole := ⟨(aw_m4 60 rfl rfl), (aw_m4 62 rfl rfl), (aw_ms 26 rfl rfl), by decide, by decide⟩
theorem cv_mo_93 : aw_cv "RoleAnalyserModel" 93 mm_mo_allStaticKept := ⟨(aw_m4 64 rfl rfl), (aw_m4 66 rfl rfl), (aw_ms 27 rfl rfl), by decide, by decide⟩
theorem cv_mo_82 : aw_cv "RoleAnalyserModel" 82 mm_mo_staticKept := ⟨(aw_m4 68 rfl rfl), (aw_m4 70 rfl rfl), (aw_ms 28 rfl rfl), by decide, by decide⟩
theorem cv_mo_75 : aw_cv "RoleAnalyserModel" 75 mm_mo_closed := ⟨(aw_m4 72 rfl rfl), (aw_m4 74 rfl rfl), (aw_ms 29 rfl rfl), by decide, by decide⟩
theorem cs_mo_79 : aw_cs "RoleAnalyserModel" 79 mm_mo_count := ⟨(aw_m4 76 rfl rfl), (aw_m4 77 rfl rfl), (aw_m1 8 rfl rfl), by decide, by decide⟩
theorem cv_mo_97 : aw_cv "RoleAnalyserModel" 97 mm_mo_dynamicKept := ⟨(aw_m4 87 rfl rfl), (aw_m4 89 rfl rfl), (aw_ms 30 rfl rfl), by decide, by decide⟩
theorem cs_mo_103 : aw_cs "RoleAnalyserModel" 103 mm_mo_isSet := ⟨(aw_m4 95 rfl rfl), (aw_m4 96 rfl rfl), (aw_m1 8 rfl rfl), by decide, by decide⟩
theorem fl_mo_100 : aw_fl "RoleAnalyserModel" 100 5 13 := ⟨_, "RoleAnalyserModel", rfl, by decide, (aw_m3 219 rfl rfl), Or.inl rfl⟩
theorem cv_mo_106 : aw_cv "RoleAnalyserModel" 106 mm_mo_addRule := ⟨(aw_m4 98 rfl rfl), (aw_m4 100 rfl rfl), (aw_ms 31 rfl rfl), by decide, by decide⟩
theorem cv_mo_113 : aw_cv "RoleAnalyserModel" 113 mm_mo_isUser := ⟨(aw_m4 110 rfl rfl), (aw_m4 112 rfl rfl), (aw_ms 32 rfl rfl), by decide, by decide⟩
theorem cv_mo_116 : aw_cv "RoleAnalyserModel" 116 mm_mo_put := ⟨(aw_m4 114 rfl rfl), (aw_m4 116 rfl rfl), (aw_ms 33 rfl rfl), by decide, by decide⟩
theorem cv_mo_120 : aw_cv "RoleAnalyserModel" 120 mm_mo_drop := ⟨(aw_m4 122 rfl rfl), (aw_m4 124 rfl rfl), (aw_ms 34 rfl rfl), by decide, by decide⟩
theorem cv_mo_110 : aw_cv "RoleAnalyserModel" 110 mm_mo_cutSessions := ⟨(aw_m4 126 rfl rfl), (aw_m4 128 rfl rfl), (aw_ms 35 rfl rfl), by decide, by decide⟩
theorem cv_mo_124 : aw_cv "RoleAnalyserModel" 124 mm_mo_lets := ⟨(aw_m4 134 rfl rfl), (aw_m4 136 rfl rfl), (aw_ms 36 rfl rfl), by decide, by decide⟩
theorem cv_mo_128 : aw_cv "RoleAnalyserModel" 128 mm_mo_isSession := ⟨(aw_m4 154 rfl rfl), (aw_m4 156 rfl rfl), (aw_ms 37 rfl rfl), by decide, by decide⟩
theorem cv_mo_148 : aw_cv "RoleAnalyserModel" 148 mm_mo_search := ⟨(aw_m4 178 rfl rfl), (aw_m4 180 rfl rfl), (aw_ms 38 rfl rfl), by decide, by decide⟩
theorem fl_mo_138 : aw_fl "RoleAnalyserModel" 138 5 23 := ⟨_, "RoleAnalyserModel", rfl, by decide, (aw_m3 229 rfl rfl), Or.inl rfl⟩
theorem fl_mo_135 : aw_fl "RoleAnalyserModel" 135 5 22 := ⟨_, "RoleAnalyserModel", rfl, by decide, (aw_m3 228 rfl rfl), Or.inl rfl⟩
theorem cv_mo_141 : aw_cv "RoleAnalyserModel" 141 mm_mo_has := ⟨(aw_m4 182 rfl rfl), (aw_m4 184 rfl rfl), (aw_ms 39 rfl rfl), by decide, by decide⟩
theorem cv_mo_144 : aw_cv "RoleAnalyserModel" 144 mm_mo_stepTo := ⟨(aw_m4 190 rfl rfl), (aw_m4 192 rfl rfl), (aw_ms 41 rfl rfl), by decide, by decide⟩
theorem cv_mo_131 : aw_cv "RoleAnalyserModel" 131 mm_mo_rolesIn := ⟨(aw_m4 186 rfl rfl), (aw_m4 188 rfl rfl), (aw_ms 40 rfl rfl), by decide, by decide⟩
theorem cv_mo_152 : aw_cv "RoleAnalyserModel" 152 mm_mo_mark := ⟨(aw_m4 198 rfl rfl), (aw_m4 200 rfl rfl), (aw_ms 42 rfl rfl), by decide, by decide⟩
theorem nl_lw_8 : aw_nl "RoleAnalyserLaw" 8 0 7 := ⟨_, rfl, rfl, (aw_m1 24 rfl rfl), (aw_m1 25 rfl rfl), (aw_m1 1 rfl rfl)⟩
theorem ci_lw_87 : aw_ci "RoleAnalyserLaw" 87 mm_ra_init := ⟨(aw_m1 26 rfl rfl), (aw_m1 27 rfl rfl), rfl, rfl, rfl, (aw_m1 28 rfl rfl), by decide, by decide⟩
theorem nl_lw_88 : aw_nl "RoleAnalyserLaw" 88 5 24 := ⟨_, rfl, rfl, (aw_m3 200 rfl rfl), (aw_m3 201 rfl rfl), (aw_m1 8 rfl rfl)⟩
theorem ci_lw_90 : aw_ci "RoleAnalyserLaw" 90 mm_mo_init := ⟨(aw_m3 202 rfl rfl), (aw_m3 203 rfl rfl), rfl, rfl, rfl, (aw_m3 204 rfl rfl), by decide, by decide⟩
theorem cs_lw_91 : aw_cs "RoleAnalyserLaw" 91 mm_lw_role := ⟨(aw_m1 135 rfl rfl), (aw_m1 136 rfl rfl), (aw_m1 0 rfl rfl), by decide, by decide⟩
theorem cv_lw_96 : aw_cv "RoleAnalyserLaw" 96 mm_mo_role := ⟨(aw_m4 44 rfl rfl), (aw_m4 45 rfl rfl), (aw_m4 46 rfl rfl), by decide, by decide⟩
theorem cv_lw_97 : aw_cv "RoleAnalyserLaw" 97 mm_mo_thrown := ⟨(aw_m4 40 rfl rfl), (aw_m4 41 rfl rfl), (aw_m4 42 rfl rfl), by decide, by decide⟩
theorem cs_lw_100 : aw_cs "RoleAnalyserLaw" 100 mm_lw_user := ⟨(aw_m1 212 rfl rfl), (aw_m1 213 rfl rfl), (aw_m1 0 rfl rfl), by decide, by decide⟩
theorem cv_lw_102 : aw_cv "RoleAnalyserLaw" 102 mm_mo_user := ⟨(aw_m4 52 rfl rfl), (aw_m4 53 rfl rfl), (aw_m4 54 rfl rfl), by decide, by decide⟩
theorem cs_lw_103 : aw_cs "RoleAnalyserLaw" 103 mm_lw_above := ⟨(aw_m1 220 rfl rfl), (aw_m1 221 rfl rfl), (aw_m1 0 rfl rfl), by decide, by decide⟩
theorem cv_lw_106 : aw_cv "RoleAnalyserLaw" 106 mm_mo_above := ⟨(aw_m4 56 rfl rfl), (aw_m4 57 rfl rfl), (aw_m4 58 rfl rfl), by decide, by decide⟩
theorem cs_lw_107 : aw_cs "RoleAnalyserLaw" 107 mm_lw_grant := ⟨(aw_m2 82 rfl rfl), (aw_m2 83 rfl rfl), (aw_m1 0 rfl rfl), by decide, by decide⟩
theorem cv_lw_109 : aw_cv "RoleAnalyserLaw" 109 mm_mo_grant := ⟨(aw_m4 79 rfl rfl), (aw_m4 80 rfl rfl), (aw_m4 81 rfl rfl), by decide, by decide⟩
theorem cs_lw_110 : aw_cs "RoleAnalyserLaw" 110 mm_lw_limit := ⟨(aw_m2 94 rfl rfl), (aw_m2 95 rfl rfl), (aw_m1 0 rfl rfl), by decide, by decide⟩
theorem cv_lw_113 : aw_cv "RoleAnalyserLaw" 113 mm_mo_limit := ⟨(aw_m4 83 rfl rfl), (aw_m4 84 rfl rfl), (aw_m4 85 rfl rfl), by decide, by decide⟩
theorem cs_lw_114 : aw_cs "RoleAnalyserLaw" 114 mm_lw_giveRule := ⟨(aw_m2 186 rfl rfl), (aw_m2 187 rfl rfl), (aw_m1 0 rfl rfl), by decide, by decide⟩
theorem cv_lw_117 : aw_cv "RoleAnalyserLaw" 117 mm_mo_giveRule := ⟨(aw_m4 91 rfl rfl), (aw_m4 92 rfl rfl), (aw_m4 93 rfl rfl), by decide, by decide⟩
theorem cs_lw_118 : aw_cs "RoleAnalyserLaw" 118 mm_lw_takeRule := ⟨(aw_m2 226 rfl rfl), (aw_m2 227 rfl rfl), (aw_m1 0 rfl rfl), by decide, by decide⟩
theorem cv_lw_120 : aw_cv "RoleAnalyserLaw" 120 mm_mo_takeRule := ⟨(aw_m4 102 rfl rfl), (aw_m4 103 rfl rfl), (aw_m4 104 rfl rfl), by decide, by decide⟩
theorem cs_lw_121 : aw_cs "RoleAnalyserLaw" 121 mm_lw_assign := ⟨(aw_m2 233 rfl rfl), (aw_m2 234 rfl rfl), (aw_m1 0 rfl rfl), by decide, by decide⟩
theorem cv_lw_123 : aw_cv "RoleAnalyserLaw" 123 mm_mo_assign := ⟨(aw_m4 106 rfl rfl), (aw_m4 107 rfl rfl), (aw_m4 108 rfl rfl), by decide, by decide⟩
theorem cs_lw_124 : aw_cs "RoleAnalyserLaw" 124 mm_lw_remove := ⟨(aw_m3 9 rfl rfl), (aw_m3 10 rfl rfl), (aw_m1 0 rfl rfl), by decide, by decide⟩
theorem cv_lw_126 : aw_cv "RoleAnalyserLaw" 126 mm_mo_remove := ⟨(aw_m4 118 rfl rfl), (aw_m4 119 rfl rfl), (aw_m4 120 rfl rfl), by decide, by decide⟩
theorem cs_lw_127 : aw_cs "RoleAnalyserLaw" 127 mm_lw_give := ⟨(aw_m3 20 rfl rfl), (aw_m3 21 rfl rfl), (aw_m1 0 rfl rfl), by decide, by decide⟩
theorem cv_lw_130 : aw_cv "RoleAnalyserLaw" 130 mm_mo_give := ⟨(aw_m4 130 rfl rfl), (aw_m4 131 rfl rfl), (aw_m4 132 rfl rfl), by decide, by decide⟩
theorem cs_lw_131 : aw_cs "RoleAnalyserLaw" 131 mm_lw_take := ⟨(aw_m3 63 rfl rfl), (aw_m3 64 rfl rfl), (aw_m1 0 rfl rfl), by decide, by decide⟩
theorem cv_lw_133 : aw_cv "RoleAnalyserLaw" 133 mm_mo_take := ⟨(aw_m4 138 rfl rfl), (aw_m4 139 rfl rfl), (aw_m4 140 rfl rfl), by decide, by decide⟩
theorem cs_lw_134 : aw_cs "RoleAnalyserLaw" 134 mm_lw_roles := ⟨(aw_m3 70 rfl rfl), (aw_m3 71 rfl rfl), (aw_m1 0 rfl rfl), by decide, by decide⟩
theorem cv_lw_137 : aw_cv "RoleAnalyserLaw" 137 mm_mo_roles := ⟨(aw_m4 142 rfl rfl), (aw_m4 143 rfl rfl), (aw_m4 144 rfl rfl), by decide, by decide⟩
theorem cs_lw_138 : aw_cs "RoleAnalyserLaw" 138 mm_lw_open := ⟨(aw_m3 77 rfl rfl), (aw_m3 78 rfl rfl), (aw_m1 0 rfl rfl), by decide, by decide⟩
theorem cv_lw_141 : aw_cv "RoleAnalyserLaw" 141 mm_mo_open := ⟨(aw_m4 146 rfl rfl), (aw_m4 147 rfl rfl), (aw_m4 148 rfl rfl), by decide, by decide⟩
theorem cs_lw_142 : aw_cs "RoleAnalyserLaw" 142 mm_lw_close := ⟨(aw_m3 85 rfl rfl), (aw_m3 86 rfl rfl), (aw_m1 0 rfl rfl), by decide, by decide⟩
theorem cv_lw_145 : aw_cv "RoleAnalyserLaw" 145 mm_mo_close := ⟨(aw_m4 150 rfl rfl), (aw_m4 151 rfl rfl), (aw_m4 152 rfl rfl), by decide, by decide⟩
theorem cs_lw_146 : aw_cs "RoleAnalyserLaw" 146 mm_lw_activate := ⟨(aw_m3 97 rfl rfl), (aw_m3 98 rfl rfl), (aw_m1 0 rfl rfl), by decide, by decide⟩
theorem cv_lw_148 : aw_cv "RoleAnalyserLaw" 148 mm_mo_activate := ⟨(aw_m4 158 rfl rfl), (aw_m4 159 rfl rfl), (aw_m4 160 rfl rfl), by decide, by decide⟩
theorem cs_lw_149 : aw_cs "RoleAnalyserLaw" 149 mm_lw_rest := ⟨(aw_m3 106 rfl rfl), (aw_m3 107 rfl rfl), (aw_m1 0 rfl rfl), by decide, by decide⟩
theorem cv_lw_151 : aw_cv "RoleAnalyserLaw" 151 mm_mo_rest := ⟨(aw_m4 162 rfl rfl), (aw_m4 163 rfl rfl), (aw_m4 164 rfl rfl), by decide, by decide⟩
theorem cs_lw_152 : aw_cs "RoleAnalyserLaw" 152 mm_lw_active := ⟨(aw_m3 113 rfl rfl), (aw_m3 114 rfl rfl), (aw_m1 0 rfl rfl), by decide, by decide⟩
theorem cv_lw_154 : aw_cv "RoleAnalyserLaw" 154 mm_mo_active := ⟨(aw_m4 166 rfl rfl), (aw_m4 167 rfl rfl), (aw_m4 168 rfl rfl), by decide, by decide⟩
theorem cs_lw_155 : aw_cs "RoleAnalyserLaw" 155 mm_lw_may := ⟨(aw_m3 120 rfl rfl), (aw_m3 121 rfl rfl), (aw_m1 0 rfl rfl), by decide, by decide⟩
theorem cv_lw_157 : aw_cv "RoleAnalyserLaw" 157 mm_mo_may := ⟨(aw_m4 170 rfl rfl), (aw_m4 171 rfl rfl), (aw_m4 172 rfl rfl), by decide, by decide⟩
theorem cs_lw_158 : aw_cs "RoleAnalyserLaw" 158 mm_lw_distance := ⟨(aw_m3 127 rfl rfl), (aw_m3 128 rfl rfl), (aw_m1 0 rfl rfl), by decide, by decide⟩
theorem cv_lw_160 : aw_cv "RoleAnalyserLaw" 160 mm_mo_distance := ⟨(aw_m4 174 rfl rfl), (aw_m4 175 rfl rfl), (aw_m4 176 rfl rfl), by decide, by decide⟩
theorem cs_lw_161 : aw_cs "RoleAnalyserLaw" 161 mm_lw_plan := ⟨(aw_m3 187 rfl rfl), (aw_m3 188 rfl rfl), (aw_m1 0 rfl rfl), by decide, by decide⟩
theorem cv_lw_163 : aw_cv "RoleAnalyserLaw" 163 mm_mo_plan := ⟨(aw_m4 194 rfl rfl), (aw_m4 195 rfl rfl), (aw_m4 196 rfl rfl), by decide, by decide⟩
theorem ac_int : Cond.arrayClass .int ∈ aw_T := aw_m1 64 rfl rfl
theorem ac_bool : Cond.arrayClass .boolean ∈ aw_T := aw_m4 39 rfl rfl
theorem ac_long : Cond.arrayClass .long ∈ aw_T := aw_m4 202 rfl rfl
theorem np_ra_init : aw_np mm_ra_init 0 := by unfold aw_np; decide +kernel
theorem np_po_init : aw_np mm_po_init 0 := by unfold aw_np; decide +kernel
theorem np_al_init : aw_np mm_al_init 0 := by unfold aw_np; decide +kernel
theorem np_bl_init : aw_np mm_bl_init 0 := by unfold aw_np; decide +kernel
theorem np_bc_init : aw_np mm_bc_init 0 := by unfold aw_np; decide +kernel
theorem np_se_init : aw_np mm_se_init 1 := by unfold aw_np; decide +kernel
theorem np_ar_fill : aw_np mm_ar_fill 2 := by unfold aw_np; decide +kernel
theorem np_lw_role : aw_np mm_lw_role 2 := by unfold aw_np; decide +kernel
theorem np_ra_role : aw_np mm_ra_role 0 := by unfold aw_np; decide +kernel
theorem np_lw_user : aw_np mm_lw_user 2 := by unfold aw_np; decide +kernel
theorem np_ra_user : aw_np mm_ra_user 0 := by unfold aw_np; decide +kernel
theorem np_lw_above : aw_np mm_lw_above 4 := by unfold aw_np; decide +kernel
theorem np_ra_above : aw_np mm_ra_above 2 := by unfold aw_np; decide +kernel
theorem np_ra_checkRole : aw_np mm_ra_checkRole 1 := by unfold aw_np; decide +kernel
theorem np_po_standsAbove : aw_np mm_po_standsAbove 2 := by unfold aw_np; decide +kernel
theorem np_ra_has : aw_np mm_ra_has 2 := by unfold aw_np; decide +kernel
theorem np_ra_authorizedRoles : aw_np mm_ra_authorizedRoles 1 := by unfold aw_np; decide +kernel
theorem np_po_widened : aw_np mm_po_widened 3 := by unfold aw_np; decide +kernel
theorem np_ra_checkStaticLimits : aw_np mm_ra_checkStaticLimits 1 := by unfold aw_np; decide +kernel
theorem np_ra_areKept : aw_np mm_ra_areKept 2 := by unfold aw_np; decide +kernel
theorem np_al_size : aw_np mm_al_size 0 := by unfold aw_np; decide +kernel
theorem np_al_get : aw_np mm_al_get 1 := by unfold aw_np; decide +kernel
theorem np_ot_checkIndex : aw_np mm_ot_checkIndex 2 := by unfold aw_np; decide +kernel
theorem np_pc_checkIndex : aw_np mm_pc_checkIndex 3 := by unfold aw_np; decide +kernel
theorem np_al_elementData : aw_np mm_al_elementData 1 := by unfold aw_np; decide +kernel
theorem np_li_isKept : aw_np mm_li_isKept 1 := by unfold aw_np; decide +kernel
theorem np_ig_bitCount : aw_np mm_ig_bitCount 1 := by unfold aw_np; decide +kernel
theorem np_po_putAbove : aw_np mm_po_putAbove 2 := by unfold aw_np; decide +kernel
theorem np_lw_grant : aw_np mm_lw_grant 4 := by unfold aw_np; decide +kernel
theorem np_ra_grant : aw_np mm_ra_grant 2 := by unfold aw_np; decide +kernel
theorem np_ra_checkPermission : aw_np mm_ra_checkPermission 1 := by unfold aw_np; decide +kernel
theorem np_lw_limit : aw_np mm_lw_limit 4 := by unfold aw_np; decide +kernel
theorem np_ra_limit : aw_np mm_ra_limit 3 := by unfold aw_np; decide +kernel
theorem np_ra_checkRoleSet : aw_np mm_ra_checkRoleSet 1 := by unfold aw_np; decide +kernel
theorem np_li_init : aw_np mm_li_init 2 := by unfold aw_np; decide +kernel
theorem np_ra_isKeptBySessions : aw_np mm_ra_isKeptBySessions 1 := by unfold aw_np; decide +kernel
theorem np_ra_isKeptByUsers : aw_np mm_ra_isKeptByUsers 1 := by unfold aw_np; decide +kernel
theorem np_al_add1 : aw_np mm_al_add1 1 := by unfold aw_np; decide +kernel
theorem np_al_add2 : aw_np mm_al_add2 3 := by unfold aw_np; decide +kernel
theorem np_al_grow1 : aw_np mm_al_grow1 0 := by unfold aw_np; decide +kernel
theorem np_al_grow2 : aw_np mm_al_grow2 1 := by unfold aw_np; decide +kernel
theorem np_su_newLength : aw_np mm_su_newLength 3 := by unfold aw_np; decide +kernel
theorem np_ma_max : aw_np mm_ma_max 2 := by unfold aw_np; decide +kernel
theorem np_su_hugeLength : aw_np mm_su_hugeLength 2 := by unfold aw_np; decide +kernel
theorem np_ar_copyOf1 : aw_np mm_ar_copyOf1 2 := by unfold aw_np; decide +kernel
theorem np_ar_copyOf2 : aw_np mm_ar_copyOf2 3 := by unfold aw_np; decide +kernel
theorem np_ma_min : aw_np mm_ma_min 2 := by unfold aw_np; decide +kernel
theorem np_lw_giveRule : aw_np mm_lw_giveRule 6 := by unfold aw_np; decide +kernel
theorem np_ra_giveRule : aw_np mm_ra_giveRule 4 := by unfold aw_np; decide +kernel
theorem np_ra_checkRoomForRule : aw_np mm_ra_checkRoomForRule 0 := by unfold aw_np; decide +kernel
theorem np_ru_init : aw_np mm_ru_init 5 := by unfold aw_np; decide +kernel
theorem np_po_addRule : aw_np mm_po_addRule 1 := by unfold aw_np; decide +kernel
theorem np_lw_takeRule : aw_np mm_lw_takeRule 4 := by unfold aw_np; decide +kernel
theorem np_ra_takeRule : aw_np mm_ra_takeRule 2 := by unfold aw_np; decide +kernel
theorem np_lw_assign : aw_np mm_lw_assign 4 := by unfold aw_np; decide +kernel
theorem np_ra_assign : aw_np mm_ra_assign 2 := by unfold aw_np; decide +kernel
theorem np_ra_checkUser : aw_np mm_ra_checkUser 1 := by unfold aw_np; decide +kernel
theorem np_ra_addAssignment : aw_np mm_ra_addAssignment 2 := by unfold aw_np; decide +kernel
theorem np_lw_remove : aw_np mm_lw_remove 4 := by unfold aw_np; decide +kernel
theorem np_ra_remove : aw_np mm_ra_remove 2 := by unfold aw_np; decide +kernel
theorem np_ra_dropAssignment : aw_np mm_ra_dropAssignment 2 := by unfold aw_np; decide +kernel
theorem np_lw_give : aw_np mm_lw_give 5 := by unfold aw_np; decide +kernel
theorem np_ra_give : aw_np mm_ra_give 3 := by unfold aw_np; decide +kernel
theorem np_ra_checkLeave : aw_np mm_ra_checkLeave 4 := by unfold aw_np; decide +kernel
theorem np_po_isAllowed : aw_np mm_po_isAllowed 4 := by unfold aw_np; decide +kernel
theorem np_ru_isFor : aw_np mm_ru_isFor 2 := by unfold aw_np; decide +kernel
theorem np_ru_allows : aw_np mm_ru_allows 2 := by unfold aw_np; decide +kernel
theorem np_lw_take : aw_np mm_lw_take 5 := by unfold aw_np; decide +kernel
theorem np_ra_take : aw_np mm_ra_take 3 := by unfold aw_np; decide +kernel
theorem np_lw_roles : aw_np mm_lw_roles 4 := by unfold aw_np; decide +kernel
theorem np_ra_roles : aw_np mm_ra_roles 2 := by unfold aw_np; decide +kernel
theorem np_lw_open : aw_np mm_lw_open 3 := by unfold aw_np; decide +kernel
theorem np_ra_open : aw_np mm_ra_open 1 := by unfold aw_np; decide +kernel
theorem np_lw_close : aw_np mm_lw_close 2 := by unfold aw_np; decide +kernel
theorem np_ra_close : aw_np mm_ra_close 1 := by unfold aw_np; decide +kernel
theorem np_ra_checkSession : aw_np mm_ra_checkSession 1 := by unfold aw_np; decide +kernel
theorem np_lw_activate : aw_np mm_lw_activate 4 := by unfold aw_np; decide +kernel
theorem np_ra_activate : aw_np mm_ra_activate 2 := by unfold aw_np; decide +kernel
theorem np_lw_rest : aw_np mm_lw_rest 4 := by unfold aw_np; decide +kernel
theorem np_ra_rest : aw_np mm_ra_rest 2 := by unfold aw_np; decide +kernel
theorem np_lw_active : aw_np mm_lw_active 3 := by unfold aw_np; decide +kernel
theorem np_ra_active : aw_np mm_ra_active 1 := by unfold aw_np; decide +kernel
theorem np_lw_may : aw_np mm_lw_may 4 := by unfold aw_np; decide +kernel
theorem np_ra_may : aw_np mm_ra_may 2 := by unfold aw_np; decide +kernel
theorem np_lw_distance : aw_np mm_lw_distance 4 := by unfold aw_np; decide +kernel
theorem np_ra_distance : aw_np mm_ra_distance 2 := by unfold aw_np; decide +kernel
theorem np_ra_checkQuestion : aw_np mm_ra_checkQuestion 2 := by unfold aw_np; decide +kernel
theorem np_se_nearestGoal : aw_np mm_se_nearestGoal 4 := by unfold aw_np; decide +kernel
theorem np_se_begin : aw_np mm_se_begin 1 := by unfold aw_np; decide +kernel
theorem np_se_pairBit : aw_np mm_se_pairBit 2 := by unfold aw_np; decide +kernel
theorem np_se_reach : aw_np mm_se_reach 2 := by unfold aw_np; decide +kernel
theorem np_se_authorizedIn : aw_np mm_se_authorizedIn 2 := by unfold aw_np; decide +kernel
theorem np_se_assignedIn : aw_np mm_se_assignedIn 2 := by unfold aw_np; decide +kernel
theorem np_se_takeSteps : aw_np mm_se_takeSteps 1 := by unfold aw_np; decide +kernel
theorem np_se_authorizedOfAll : aw_np mm_se_authorizedOfAll 1 := by unfold aw_np; decide +kernel
theorem np_se_isStep : aw_np mm_se_isStep 3 := by unfold aw_np; decide +kernel
theorem np_se_stepsTo : aw_np mm_se_stepsTo 1 := by unfold aw_np; decide +kernel
theorem np_se_stateBefore : aw_np mm_se_stateBefore 1 := by unfold aw_np; decide +kernel
theorem np_lw_plan : aw_np mm_lw_plan 5 := by unfold aw_np; decide +kernel
theorem np_ra_plan : aw_np mm_ra_plan 3 := by unfold aw_np; decide +kernel
theorem np_se_stepCode : aw_np mm_se_stepCode 2 := by unfold aw_np; decide +kernel
theorem np_mo_init : aw_np mm_mo_init 0 := by unfold aw_np; decide +kernel
theorem np_mo_thrown : aw_np mm_mo_thrown 0 := by unfold aw_np; decide +kernel
theorem np_mo_role : aw_np mm_mo_role 0 := by unfold aw_np; decide +kernel
theorem np_mo_when : aw_np mm_mo_when 2 := by unfold aw_np; decide +kernel
theorem np_mo_user : aw_np mm_mo_user 0 := by unfold aw_np; decide +kernel
theorem np_mo_above : aw_np mm_mo_above 2 := by unfold aw_np; decide +kernel
theorem np_mo_isRole : aw_np mm_mo_isRole 1 := by unfold aw_np; decide +kernel
theorem np_mo_allStaticKept : aw_np mm_mo_allStaticKept 0 := by unfold aw_np; decide +kernel
theorem np_mo_staticKept : aw_np mm_mo_staticKept 1 := by unfold aw_np; decide +kernel
theorem np_mo_closed : aw_np mm_mo_closed 1 := by unfold aw_np; decide +kernel
theorem np_mo_count : aw_np mm_mo_count 1 := by unfold aw_np; decide +kernel
theorem np_mo_grant : aw_np mm_mo_grant 2 := by unfold aw_np; decide +kernel
theorem np_mo_limit : aw_np mm_mo_limit 3 := by unfold aw_np; decide +kernel
theorem np_mo_dynamicKept : aw_np mm_mo_dynamicKept 1 := by unfold aw_np; decide +kernel
theorem np_mo_giveRule : aw_np mm_mo_giveRule 4 := by unfold aw_np; decide +kernel
theorem np_mo_isSet : aw_np mm_mo_isSet 1 := by unfold aw_np; decide +kernel
theorem np_mo_addRule : aw_np mm_mo_addRule 5 := by unfold aw_np; decide +kernel
theorem np_mo_takeRule : aw_np mm_mo_takeRule 2 := by unfold aw_np; decide +kernel
theorem np_mo_assign : aw_np mm_mo_assign 2 := by unfold aw_np; decide +kernel
theorem np_mo_isUser : aw_np mm_mo_isUser 1 := by unfold aw_np; decide +kernel
theorem np_mo_put : aw_np mm_mo_put 3 := by unfold aw_np; decide +kernel
theorem np_mo_remove : aw_np mm_mo_remove 2 := by unfold aw_np; decide +kernel
theorem np_mo_drop : aw_np mm_mo_drop 2 := by unfold aw_np; decide +kernel
theorem np_mo_cutSessions : aw_np mm_mo_cutSessions 0 := by unfold aw_np; decide +kernel
theorem np_mo_give : aw_np mm_mo_give 3 := by unfold aw_np; decide +kernel
theorem np_mo_lets : aw_np mm_mo_lets 4 := by unfold aw_np; decide +kernel
theorem np_mo_take : aw_np mm_mo_take 3 := by unfold aw_np; decide +kernel
theorem np_mo_roles : aw_np mm_mo_roles 2 := by unfold aw_np; decide +kernel
theorem np_mo_open : aw_np mm_mo_open 1 := by unfold aw_np; decide +kernel
theorem np_mo_close : aw_np mm_mo_close 1 := by unfold aw_np; decide +kernel
theorem np_mo_isSession : aw_np mm_mo_isSession 1 := by unfold aw_np; decide +kernel
theorem np_mo_activate : aw_np mm_mo_activate 2 := by unfold aw_np; decide +kernel
theorem np_mo_rest : aw_np mm_mo_rest 2 := by unfold aw_np; decide +kernel
theorem np_mo_active : aw_np mm_mo_active 1 := by unfold aw_np; decide +kernel
theorem np_mo_may : aw_np mm_mo_may 2 := by unfold aw_np; decide +kernel
theorem np_mo_distance : aw_np mm_mo_distance 2 := by unfold aw_np; decide +kernel
theorem np_mo_search : aw_np mm_mo_search 2 := by unfold aw_np; decide +kernel
theorem np_mo_has : aw_np mm_mo_has 3 := by unfold aw_np; decide +kernel
theorem np_mo_rolesIn : aw_np mm_mo_rolesIn 2 := by unfold aw_np; decide +kernel
theorem np_mo_stepTo : aw_np mm_mo_stepTo 4 := by unfold aw_np; decide +kernel
theorem np_mo_plan : aw_np mm_mo_plan 3 := by unfold aw_np; decide +kernel
theorem np_mo_mark : aw_np mm_mo_mark 2 := by unfold aw_np; decide +kernel
theorem ff_ra_0 : aw_ff "RoleAnalyser" 0 0 := fun r h => by cases h; exact ⟨rfl, rfl⟩
theorem ff_ra_1 : aw_ff "RoleAnalyser" 0 1 := fun r h => by cases h; exact ⟨rfl, rfl⟩
theorem ff_ra_2 : aw_ff "RoleAnalyser" 0 2 := fun r h => by cases h; exact ⟨rfl, rfl⟩
theorem ff_ra_3 : aw_ff "RoleAnalyser" 0 3 := fun r h => by cases h; exact ⟨rfl, rfl⟩
theorem ff_ra_4 : aw_ff "RoleAnalyser" 0 4 := fun r h => by cases h; exact ⟨rfl, rfl⟩
theorem ff_ra_5 : aw_ff "RoleAnalyser" 0 5 := fun r h => by cases h; exact ⟨rfl, rfl⟩
theorem nf_ra_6 : aw_nf 0 6 := fun r h => by cases h; rfl
theorem nf_po_0 : aw_nf 1 0 := fun r h => by cases h; rfl
theorem ff_po_1 : aw_ff "RoleAnalyser$Policy" 1 1 := fun r h => by cases h; exact ⟨rfl, rfl⟩
theorem ff_po_2 : aw_ff "RoleAnalyser$Policy" 1 2 := fun r h => by cases h; exact ⟨rfl, rfl⟩
theorem ff_po_3 : aw_ff "RoleAnalyser$Policy" 1 3 := fun r h => by cases h; exact ⟨rfl, rfl⟩
theorem ff_po_4 : aw_ff "RoleAnalyser$Policy" 1 4 := fun r h => by cases h; exact ⟨rfl, rfl⟩
theorem ff_se_0 : aw_ff "RoleAnalyser$Search" 2 0 := fun r h => by cases h; exact ⟨rfl, rfl⟩
theorem ff_se_1 : aw_ff "RoleAnalyser$Search" 2 1 := fun r h => by cases h; exact ⟨rfl, rfl⟩
theorem ff_se_2 : aw_ff "RoleAnalyser$Search" 2 2 := fun r h => by cases h; exact ⟨rfl, rfl⟩
theorem nf_se_3 : aw_nf 2 3 := fun r h => by cases h; rfl
theorem nf_se_4 : aw_nf 2 4 := fun r h => by cases h; rfl
theorem ff_li_0 : aw_ff "RoleAnalyser$Limit" 3 0 := fun r h => by cases h; exact ⟨rfl, rfl⟩
theorem ff_li_1 : aw_ff "RoleAnalyser$Limit" 3 1 := fun r h => by cases h; exact ⟨rfl, rfl⟩
theorem ff_ru_0 : aw_ff "RoleAnalyser$Rule" 4 0 := fun r h => by cases h; exact ⟨rfl, rfl⟩
theorem ff_ru_1 : aw_ff "RoleAnalyser$Rule" 4 1 := fun r h => by cases h; exact ⟨rfl, rfl⟩
theorem ff_ru_2 : aw_ff "RoleAnalyser$Rule" 4 2 := fun r h => by cases h; exact ⟨rfl, rfl⟩
theorem ff_ru_3 : aw_ff "RoleAnalyser$Rule" 4 3 := fun r h => by cases h; exact ⟨rfl, rfl⟩
theorem ff_ru_4 : aw_ff "RoleAnalyser$Rule" 4 4 := fun r h => by cases h; exact ⟨rfl, rfl⟩
theorem nf_mo_0 : aw_nf 5 0 := fun r h => by cases h; rfl
theorem nf_mo_1 : aw_nf 5 1 := fun r h => by cases h; rfl
theorem nf_mo_2 : aw_nf 5 2 := fun r h => by cases h; rfl
theorem ff_mo_3 : aw_ff "RoleAnalyserModel" 5 3 := fun r h => by cases h; exact ⟨rfl, rfl⟩
theorem ff_mo_4 : aw_ff "RoleAnalyserModel" 5 4 := fun r h => by cases h; exact ⟨rfl, rfl⟩
theorem ff_mo_5 : aw_ff "RoleAnalyserModel" 5 5 := fun r h => by cases h; exact ⟨rfl, rfl⟩
theorem ff_mo_6 : aw_ff "RoleAnalyserModel" 5 6 := fun r h => by cases h; exact ⟨rfl, rfl⟩
theorem ff_mo_7 : aw_ff "RoleAnalyserModel" 5 7 := fun r h => by cases h; exact ⟨rfl, rfl⟩
theorem ff_mo_8 : aw_ff "RoleAnalyserModel" 5 8 := fun r h => by cases h; exact ⟨rfl, rfl⟩
theorem ff_mo_9 : aw_ff "RoleAnalyserModel" 5 9 := fun r h => by cases h; exact ⟨rfl, rfl⟩
theorem ff_mo_10 : aw_ff "RoleAnalyserModel" 5 10 := fun r h => by cases h; exact ⟨rfl, rfl⟩
theorem ff_mo_11 : aw_ff "RoleAnalyserModel" 5 11 := fun r h => by cases h; exact ⟨rfl, rfl⟩
theorem ff_mo_12 : aw_ff "RoleAnalyserModel" 5 12 := fun r h => by cases h; exact ⟨rfl, rfl⟩
theorem nf_mo_13 : aw_nf 5 13 := fun r h => by cases h; rfl
theorem ff_mo_14 : aw_ff "RoleAnalyserModel" 5 14 := fun r h => by cases h; exact ⟨rfl, rfl⟩
theorem ff_mo_15 : aw_ff "RoleAnalyserModel" 5 15 := fun r h => by cases h; exact ⟨rfl, rfl⟩
theorem ff_mo_16 : aw_ff "RoleAnalyserModel" 5 16 := fun r h => by cases h; exact ⟨rfl, rfl⟩
theorem ff_mo_17 : aw_ff "RoleAnalyserModel" 5 17 := fun r h => by cases h; exact ⟨rfl, rfl⟩
theorem ff_mo_18 : aw_ff "RoleAnalyserModel" 5 18 := fun r h => by cases h; exact ⟨rfl, rfl⟩
theorem ff_mo_19 : aw_ff "RoleAnalyserModel" 5 19 := fun r h => by cases h; exact ⟨rfl, rfl⟩
theorem ff_mo_20 : aw_ff "RoleAnalyserModel" 5 20 := fun r h => by cases h; exact ⟨rfl, rfl⟩
theorem ff_mo_21 : aw_ff "RoleAnalyserModel" 5 21 := fun r h => by cases h; exact ⟨rfl, rfl⟩
theorem nf_mo_22 : aw_nf 5 22 := fun r h => by cases h; rfl
theorem nf_mo_23 : aw_nf 5 23 := fun r h => by cases h; rfl
theorem nf_al_0 : aw_nf 6 0 := fun r h => by cases h; rfl
theorem nf_al_1 : aw_nf 6 1 := fun r h => by cases h; rfl
theorem nf_al_2 : aw_nf 6 2 := fun r h => by cases h; rfl
