section
-- ===== PART A: goes FIRST, ahead of the names: the tables' words, and 'selects' of the private methods out of them =====
/-- a private method of a class that the tables say can be made, by its rows of tables_1 -/
def lw_okq (q : MethodName × Nat) : Prop := (q.1.cls ≠ "java/lang/invoke/MethodHandle" ∧ q.1.cls ≠ "java/lang/invoke/VarHandle") ∧ Cond.instantiable q.1.cls q.2 ∈ tables_1 ∧ Cond.privateMethod q.1 ∈ tables_1 ∧ Cond.instanceMethod q.1 ∈ tables_1
theorem lw_p0 : lw_okq (⟨"java/lang/Throwable", "fillInStackTrace", "(I)Ljava/lang/Throwable;"⟩, 6) := ⟨⟨by decide +kernel, by decide +kernel⟩, List.mem_of_getElem? (i := 183) (by decide +kernel), List.mem_of_getElem? (i := 181) (by decide +kernel), List.mem_of_getElem? (i := 182) (by decide +kernel)⟩
theorem lw_p1 : lw_okq (⟨"RoleAnalyser", "checkRole", "(I)V"⟩, 7) := ⟨⟨by decide +kernel, by decide +kernel⟩, List.mem_of_getElem? (i := 25) (by decide +kernel), List.mem_of_getElem? (i := 230) (by decide +kernel), List.mem_of_getElem? (i := 231) (by decide +kernel)⟩
theorem lw_p2 : lw_okq (⟨"RoleAnalyser", "authorizedRoles", "(I)I"⟩, 7) := ⟨⟨by decide +kernel, by decide +kernel⟩, List.mem_of_getElem? (i := 25) (by decide +kernel), List.mem_of_getElem? (i := 273) (by decide +kernel), List.mem_of_getElem? (i := 274) (by decide +kernel)⟩
theorem lw_p3 : lw_okq (⟨"RoleAnalyser", "checkStaticLimits", "(I)V"⟩, 7) := ⟨⟨by decide +kernel, by decide +kernel⟩, List.mem_of_getElem? (i := 25) (by decide +kernel), List.mem_of_getElem? (i := 281) (by decide +kernel), List.mem_of_getElem? (i := 282) (by decide +kernel)⟩
theorem lw_p4 : lw_okq (⟨"RoleAnalyser", "isKeptBySessions", "(LRoleAnalyser$Limit;)Z"⟩, 7) := ⟨⟨by decide +kernel, by decide +kernel⟩, List.mem_of_getElem? (i := 25) (by decide +kernel), List.mem_of_getElem? (i := 360) (by decide +kernel), List.mem_of_getElem? (i := 361) (by decide +kernel)⟩
theorem lw_p5 : lw_okq (⟨"RoleAnalyser", "isKeptByUsers", "(LRoleAnalyser$Limit;)Z"⟩, 7) := ⟨⟨by decide +kernel, by decide +kernel⟩, List.mem_of_getElem? (i := 25) (by decide +kernel), List.mem_of_getElem? (i := 364) (by decide +kernel), List.mem_of_getElem? (i := 365) (by decide +kernel)⟩
theorem lw_p6 : lw_okq (⟨"java/util/ArrayList", "add", "(Ljava/lang/Object;[Ljava/lang/Object;I)V"⟩, 3) := ⟨⟨by decide +kernel, by decide +kernel⟩, List.mem_of_getElem? (i := 39) (by decide +kernel), List.mem_of_getElem? (i := 373) (by decide +kernel), List.mem_of_getElem? (i := 374) (by decide +kernel)⟩
theorem lw_p7 : lw_okq (⟨"java/util/ArrayList", "grow", "()[Ljava/lang/Object;"⟩, 3) := ⟨⟨by decide +kernel, by decide +kernel⟩, List.mem_of_getElem? (i := 39) (by decide +kernel), List.mem_of_getElem? (i := 377) (by decide +kernel), List.mem_of_getElem? (i := 378) (by decide +kernel)⟩
theorem lw_p8 : lw_okq (⟨"java/util/ArrayList", "grow", "(I)[Ljava/lang/Object;"⟩, 3) := ⟨⟨by decide +kernel, by decide +kernel⟩, List.mem_of_getElem? (i := 39) (by decide +kernel), List.mem_of_getElem? (i := 381) (by decide +kernel), List.mem_of_getElem? (i := 382) (by decide +kernel)⟩
theorem lw_p9 : lw_okq (⟨"RoleAnalyser", "checkRoomForRule", "()V"⟩, 7) := ⟨⟨by decide +kernel, by decide +kernel⟩, List.mem_of_getElem? (i := 25) (by decide +kernel), List.mem_of_getElem? (i := 434) (by decide +kernel), List.mem_of_getElem? (i := 435) (by decide +kernel)⟩
theorem lw_p10 : lw_okq (⟨"RoleAnalyser", "checkUser", "(I)V"⟩, 7) := ⟨⟨by decide +kernel, by decide +kernel⟩, List.mem_of_getElem? (i := 25) (by decide +kernel), List.mem_of_getElem? (i := 481) (by decide +kernel), List.mem_of_getElem? (i := 482) (by decide +kernel)⟩
theorem lw_p11 : lw_okq (⟨"RoleAnalyser", "addAssignment", "(II)Z"⟩, 7) := ⟨⟨by decide +kernel, by decide +kernel⟩, List.mem_of_getElem? (i := 25) (by decide +kernel), List.mem_of_getElem? (i := 486) (by decide +kernel), List.mem_of_getElem? (i := 487) (by decide +kernel)⟩
theorem lw_p12 : lw_okq (⟨"RoleAnalyser", "dropAssignment", "(II)Z"⟩, 7) := ⟨⟨by decide +kernel, by decide +kernel⟩, List.mem_of_getElem? (i := 25) (by decide +kernel), List.mem_of_getElem? (i := 497) (by decide +kernel), List.mem_of_getElem? (i := 498) (by decide +kernel)⟩
theorem lw_p13 : lw_okq (⟨"RoleAnalyser", "checkLeave", "(ZIII)V"⟩, 7) := ⟨⟨by decide +kernel, by decide +kernel⟩, List.mem_of_getElem? (i := 25) (by decide +kernel), List.mem_of_getElem? (i := 509) (by decide +kernel), List.mem_of_getElem? (i := 510) (by decide +kernel)⟩
theorem lw_p14 : lw_okq (⟨"RoleAnalyser", "checkSession", "(I)V"⟩, 7) := ⟨⟨by decide +kernel, by decide +kernel⟩, List.mem_of_getElem? (i := 25) (by decide +kernel), List.mem_of_getElem? (i := 573) (by decide +kernel), List.mem_of_getElem? (i := 574) (by decide +kernel)⟩
theorem lw_p15 : lw_okq (⟨"RoleAnalyser", "checkQuestion", "(II)V"⟩, 7) := ⟨⟨by decide +kernel, by decide +kernel⟩, List.mem_of_getElem? (i := 25) (by decide +kernel), List.mem_of_getElem? (i := 615) (by decide +kernel), List.mem_of_getElem? (i := 616) (by decide +kernel)⟩
def lw_privs_1 : List (MethodName × Nat) := [(⟨"java/lang/Throwable", "fillInStackTrace", "(I)Ljava/lang/Throwable;"⟩, 6), (⟨"RoleAnalyser", "checkRole", "(I)V"⟩, 7), (⟨"RoleAnalyser", "authorizedRoles", "(I)I"⟩, 7), (⟨"RoleAnalyser", "checkStaticLimits", "(I)V"⟩, 7), (⟨"RoleAnalyser", "isKeptBySessions", "(LRoleAnalyser$Limit;)Z"⟩, 7), (⟨"RoleAnalyser", "isKeptByUsers", "(LRoleAnalyser$Limit;)Z"⟩, 7), (⟨"java/util/ArrayList", "add", "(Ljava/lang/Object;[Ljava/lang/Object;I)V"⟩, 3), (⟨"java/util/ArrayList", "grow", "()[Ljava/lang/Object;"⟩, 3), (⟨"java/util/ArrayList", "grow", "(I)[Ljava/lang/Object;"⟩, 3), (⟨"RoleAnalyser", "checkRoomForRule", "()V"⟩, 7), (⟨"RoleAnalyser", "checkUser", "(I)V"⟩, 7), (⟨"RoleAnalyser", "addAssignment", "(II)Z"⟩, 7), (⟨"RoleAnalyser", "dropAssignment", "(II)Z"⟩, 7), (⟨"RoleAnalyser", "checkLeave", "(ZIII)V"⟩, 7), (⟨"RoleAnalyser", "checkSession", "(I)V"⟩, 7), (⟨"RoleAnalyser", "checkQuestion", "(II)V"⟩, 7)]
theorem lw_r1 : ∀ q ∈ lw_privs_1, lw_okq q := List.forall_mem_cons.mpr ⟨lw_p0, List.forall_mem_cons.mpr ⟨lw_p1, List.forall_mem_cons.mpr ⟨lw_p2, List.forall_mem_cons.mpr ⟨lw_p3, List.forall_mem_cons.mpr ⟨lw_p4, List.forall_mem_cons.mpr ⟨lw_p5, List.forall_mem_cons.mpr ⟨lw_p6, List.forall_mem_cons.mpr ⟨lw_p7, List.forall_mem_cons.mpr ⟨lw_p8, List.forall_mem_cons.mpr ⟨lw_p9, List.forall_mem_cons.mpr ⟨lw_p10, List.forall_mem_cons.mpr ⟨lw_p11, List.forall_mem_cons.mpr ⟨lw_p12, List.forall_mem_cons.mpr ⟨lw_p13, List.forall_mem_cons.mpr ⟨lw_p14, List.forall_mem_cons.mpr ⟨lw_p15, fun _ h => absurd h List.not_mem_nil⟩⟩⟩⟩⟩⟩⟩⟩⟩⟩⟩⟩⟩⟩⟩⟩
theorem lw_p16 : lw_okq (⟨"RoleAnalyser$Search", "begin", "([I)V"⟩, 5) := ⟨⟨by decide +kernel, by decide +kernel⟩, List.mem_of_getElem? (i := 89) (by decide +kernel), List.mem_of_getElem? (i := 624) (by decide +kernel), List.mem_of_getElem? (i := 625) (by decide +kernel)⟩
theorem lw_p17 : lw_okq (⟨"RoleAnalyser$Search", "pairBit", "(II)I"⟩, 5) := ⟨⟨by decide +kernel, by decide +kernel⟩, List.mem_of_getElem? (i := 89) (by decide +kernel), List.mem_of_getElem? (i := 628) (by decide +kernel), List.mem_of_getElem? (i := 629) (by decide +kernel)⟩
theorem lw_p18 : lw_okq (⟨"RoleAnalyser$Search", "reach", "(II)V"⟩, 5) := ⟨⟨by decide +kernel, by decide +kernel⟩, List.mem_of_getElem? (i := 89) (by decide +kernel), List.mem_of_getElem? (i := 633) (by decide +kernel), List.mem_of_getElem? (i := 634) (by decide +kernel)⟩
theorem lw_p19 : lw_okq (⟨"RoleAnalyser$Search", "authorizedIn", "(II)I"⟩, 5) := ⟨⟨by decide +kernel, by decide +kernel⟩, List.mem_of_getElem? (i := 89) (by decide +kernel), List.mem_of_getElem? (i := 637) (by decide +kernel), List.mem_of_getElem? (i := 638) (by decide +kernel)⟩
theorem lw_p20 : lw_okq (⟨"RoleAnalyser$Search", "assignedIn", "(II)I"⟩, 5) := ⟨⟨by decide +kernel, by decide +kernel⟩, List.mem_of_getElem? (i := 89) (by decide +kernel), List.mem_of_getElem? (i := 641) (by decide +kernel), List.mem_of_getElem? (i := 642) (by decide +kernel)⟩
theorem lw_p21 : lw_okq (⟨"RoleAnalyser$Search", "takeSteps", "(I)V"⟩, 5) := ⟨⟨by decide +kernel, by decide +kernel⟩, List.mem_of_getElem? (i := 89) (by decide +kernel), List.mem_of_getElem? (i := 646) (by decide +kernel), List.mem_of_getElem? (i := 647) (by decide +kernel)⟩
theorem lw_p22 : lw_okq (⟨"RoleAnalyser$Search", "authorizedOfAll", "(I)I"⟩, 5) := ⟨⟨by decide +kernel, by decide +kernel⟩, List.mem_of_getElem? (i := 89) (by decide +kernel), List.mem_of_getElem? (i := 650) (by decide +kernel), List.mem_of_getElem? (i := 651) (by decide +kernel)⟩
theorem lw_p23 : lw_okq (⟨"RoleAnalyser$Search", "isStep", "(III)Z"⟩, 5) := ⟨⟨by decide +kernel, by decide +kernel⟩, List.mem_of_getElem? (i := 89) (by decide +kernel), List.mem_of_getElem? (i := 654) (by decide +kernel), List.mem_of_getElem? (i := 655) (by decide +kernel)⟩
theorem lw_p24 : lw_okq (⟨"RoleAnalyser$Search", "stateBefore", "(I)I"⟩, 5) := ⟨⟨by decide +kernel, by decide +kernel⟩, List.mem_of_getElem? (i := 89) (by decide +kernel), List.mem_of_getElem? (i := 664) (by decide +kernel), List.mem_of_getElem? (i := 665) (by decide +kernel)⟩
theorem lw_p25 : lw_okq (⟨"RoleAnalyserModel", "when", "(ZI)Z"⟩, 24) := ⟨⟨by decide +kernel, by decide +kernel⟩, List.mem_of_getElem? (i := 681) (by decide +kernel), List.mem_of_getElem? (i := 769) (by decide +kernel), List.mem_of_getElem? (i := 770) (by decide +kernel)⟩
theorem lw_p26 : lw_okq (⟨"RoleAnalyserModel", "isRole", "(I)Z"⟩, 24) := ⟨⟨by decide +kernel, by decide +kernel⟩, List.mem_of_getElem? (i := 681) (by decide +kernel), List.mem_of_getElem? (i := 781) (by decide +kernel), List.mem_of_getElem? (i := 782) (by decide +kernel)⟩
theorem lw_p27 : lw_okq (⟨"RoleAnalyserModel", "allStaticKept", "()Z"⟩, 24) := ⟨⟨by decide +kernel, by decide +kernel⟩, List.mem_of_getElem? (i := 681) (by decide +kernel), List.mem_of_getElem? (i := 785) (by decide +kernel), List.mem_of_getElem? (i := 786) (by decide +kernel)⟩
theorem lw_p28 : lw_okq (⟨"RoleAnalyserModel", "staticKept", "(I)Z"⟩, 24) := ⟨⟨by decide +kernel, by decide +kernel⟩, List.mem_of_getElem? (i := 681) (by decide +kernel), List.mem_of_getElem? (i := 789) (by decide +kernel), List.mem_of_getElem? (i := 790) (by decide +kernel)⟩
theorem lw_p29 : lw_okq (⟨"RoleAnalyserModel", "closed", "(I)I"⟩, 24) := ⟨⟨by decide +kernel, by decide +kernel⟩, List.mem_of_getElem? (i := 681) (by decide +kernel), List.mem_of_getElem? (i := 793) (by decide +kernel), List.mem_of_getElem? (i := 794) (by decide +kernel)⟩
theorem lw_p30 : lw_okq (⟨"RoleAnalyserModel", "dynamicKept", "(I)Z"⟩, 24) := ⟨⟨by decide +kernel, by decide +kernel⟩, List.mem_of_getElem? (i := 681) (by decide +kernel), List.mem_of_getElem? (i := 808) (by decide +kernel), List.mem_of_getElem? (i := 809) (by decide +kernel)⟩
theorem lw_p31 : lw_okq (⟨"RoleAnalyserModel", "addRule", "(ZIIII)I"⟩, 24) := ⟨⟨by decide +kernel, by decide +kernel⟩, List.mem_of_getElem? (i := 681) (by decide +kernel), List.mem_of_getElem? (i := 819) (by decide +kernel), List.mem_of_getElem? (i := 820) (by decide +kernel)⟩
def lw_privs_2 : List (MethodName × Nat) := [(⟨"RoleAnalyser$Search", "begin", "([I)V"⟩, 5), (⟨"RoleAnalyser$Search", "pairBit", "(II)I"⟩, 5), (⟨"RoleAnalyser$Search", "reach", "(II)V"⟩, 5), (⟨"RoleAnalyser$Search", "authorizedIn", "(II)I"⟩, 5), (⟨"RoleAnalyser$Search", "assignedIn", "(II)I"⟩, 5), (⟨"RoleAnalyser$Search", "takeSteps", "(I)V"⟩, 5), (⟨"RoleAnalyser$Search", "authorizedOfAll", "(I)I"⟩, 5), (⟨"RoleAnalyser$Search", "isStep", "(III)Z"⟩, 5), (⟨"RoleAnalyser$Search", "stateBefore", "(I)I"⟩, 5), (⟨"RoleAnalyserModel", "when", "(ZI)Z"⟩, 24), (⟨"RoleAnalyserModel", "isRole", "(I)Z"⟩, 24), (⟨"RoleAnalyserModel", "allStaticKept", "()Z"⟩, 24), (⟨"RoleAnalyserModel", "staticKept", "(I)Z"⟩, 24), (⟨"RoleAnalyserModel", "closed", "(I)I"⟩, 24), (⟨"RoleAnalyserModel", "dynamicKept", "(I)Z"⟩, 24), (⟨"RoleAnalyserModel", "addRule", "(ZIIII)I"⟩, 24)]
theorem lw_r2 : ∀ q ∈ lw_privs_2, lw_okq q := List.forall_mem_cons.mpr ⟨lw_p16, List.forall_mem_cons.mpr ⟨lw_p17, List.forall_mem_cons.mpr ⟨lw_p18, List.forall_mem_cons.mpr ⟨lw_p19, List.forall_mem_cons.mpr ⟨lw_p20, List.forall_mem_cons.mpr ⟨lw_p21, List.forall_mem_cons.mpr ⟨lw_p22, List.forall_mem_cons.mpr ⟨lw_p23, List.forall_mem_cons.mpr ⟨lw_p24, List.forall_mem_cons.mpr ⟨lw_p25, List.forall_mem_cons.mpr ⟨lw_p26, List.forall_mem_cons.mpr ⟨lw_p27, List.forall_mem_cons.mpr ⟨lw_p28, List.forall_mem_cons.mpr ⟨lw_p29, List.forall_mem_cons.mpr ⟨lw_p30, List.forall_mem_cons.mpr ⟨lw_p31, fun _ h => absurd h List.not_mem_nil⟩⟩⟩⟩⟩⟩⟩⟩⟩⟩⟩⟩⟩⟩⟩⟩
theorem lw_p32 : lw_okq (⟨"RoleAnalyserModel", "isUser", "(I)Z"⟩, 24) := ⟨⟨by decide +kernel, by decide +kernel⟩, List.mem_of_getElem? (i := 681) (by decide +kernel), List.mem_of_getElem? (i := 831) (by decide +kernel), List.mem_of_getElem? (i := 832) (by decide +kernel)⟩
theorem lw_p33 : lw_okq (⟨"RoleAnalyserModel", "put", "(III)Z"⟩, 24) := ⟨⟨by decide +kernel, by decide +kernel⟩, List.mem_of_getElem? (i := 681) (by decide +kernel), List.mem_of_getElem? (i := 835) (by decide +kernel), List.mem_of_getElem? (i := 836) (by decide +kernel)⟩
theorem lw_p34 : lw_okq (⟨"RoleAnalyserModel", "drop", "(II)Z"⟩, 24) := ⟨⟨by decide +kernel, by decide +kernel⟩, List.mem_of_getElem? (i := 681) (by decide +kernel), List.mem_of_getElem? (i := 843) (by decide +kernel), List.mem_of_getElem? (i := 844) (by decide +kernel)⟩
theorem lw_p35 : lw_okq (⟨"RoleAnalyserModel", "cutSessions", "()V"⟩, 24) := ⟨⟨by decide +kernel, by decide +kernel⟩, List.mem_of_getElem? (i := 681) (by decide +kernel), List.mem_of_getElem? (i := 847) (by decide +kernel), List.mem_of_getElem? (i := 848) (by decide +kernel)⟩
theorem lw_p36 : lw_okq (⟨"RoleAnalyserModel", "lets", "(ZIII)Z"⟩, 24) := ⟨⟨by decide +kernel, by decide +kernel⟩, List.mem_of_getElem? (i := 681) (by decide +kernel), List.mem_of_getElem? (i := 855) (by decide +kernel), List.mem_of_getElem? (i := 856) (by decide +kernel)⟩
theorem lw_p37 : lw_okq (⟨"RoleAnalyserModel", "isSession", "(I)Z"⟩, 24) := ⟨⟨by decide +kernel, by decide +kernel⟩, List.mem_of_getElem? (i := 681) (by decide +kernel), List.mem_of_getElem? (i := 875) (by decide +kernel), List.mem_of_getElem? (i := 876) (by decide +kernel)⟩
theorem lw_p38 : lw_okq (⟨"RoleAnalyserModel", "search", "(II)V"⟩, 24) := ⟨⟨by decide +kernel, by decide +kernel⟩, List.mem_of_getElem? (i := 681) (by decide +kernel), List.mem_of_getElem? (i := 899) (by decide +kernel), List.mem_of_getElem? (i := 900) (by decide +kernel)⟩
theorem lw_p39 : lw_okq (⟨"RoleAnalyserModel", "has", "(III)Z"⟩, 24) := ⟨⟨by decide +kernel, by decide +kernel⟩, List.mem_of_getElem? (i := 681) (by decide +kernel), List.mem_of_getElem? (i := 903) (by decide +kernel), List.mem_of_getElem? (i := 904) (by decide +kernel)⟩
theorem lw_p40 : lw_okq (⟨"RoleAnalyserModel", "rolesIn", "(II)I"⟩, 24) := ⟨⟨by decide +kernel, by decide +kernel⟩, List.mem_of_getElem? (i := 681) (by decide +kernel), List.mem_of_getElem? (i := 907) (by decide +kernel), List.mem_of_getElem? (i := 908) (by decide +kernel)⟩
theorem lw_p41 : lw_okq (⟨"RoleAnalyserModel", "stepTo", "(IIIZ)I"⟩, 24) := ⟨⟨by decide +kernel, by decide +kernel⟩, List.mem_of_getElem? (i := 681) (by decide +kernel), List.mem_of_getElem? (i := 911) (by decide +kernel), List.mem_of_getElem? (i := 912) (by decide +kernel)⟩
theorem lw_p42 : lw_okq (⟨"RoleAnalyserModel", "mark", "(II)V"⟩, 24) := ⟨⟨by decide +kernel, by decide +kernel⟩, List.mem_of_getElem? (i := 681) (by decide +kernel), List.mem_of_getElem? (i := 919) (by decide +kernel), List.mem_of_getElem? (i := 920) (by decide +kernel)⟩
def lw_privs_3 : List (MethodName × Nat) := [(⟨"RoleAnalyserModel", "isUser", "(I)Z"⟩, 24), (⟨"RoleAnalyserModel", "put", "(III)Z"⟩, 24), (⟨"RoleAnalyserModel", "drop", "(II)Z"⟩, 24), (⟨"RoleAnalyserModel", "cutSessions", "()V"⟩, 24), (⟨"RoleAnalyserModel", "lets", "(ZIII)Z"⟩, 24), (⟨"RoleAnalyserModel", "isSession", "(I)Z"⟩, 24), (⟨"RoleAnalyserModel", "search", "(II)V"⟩, 24), (⟨"RoleAnalyserModel", "has", "(III)Z"⟩, 24), (⟨"RoleAnalyserModel", "rolesIn", "(II)I"⟩, 24), (⟨"RoleAnalyserModel", "stepTo", "(IIIZ)I"⟩, 24), (⟨"RoleAnalyserModel", "mark", "(II)V"⟩, 24)]
theorem lw_r3 : ∀ q ∈ lw_privs_3, lw_okq q := List.forall_mem_cons.mpr ⟨lw_p32, List.forall_mem_cons.mpr ⟨lw_p33, List.forall_mem_cons.mpr ⟨lw_p34, List.forall_mem_cons.mpr ⟨lw_p35, List.forall_mem_cons.mpr ⟨lw_p36, List.forall_mem_cons.mpr ⟨lw_p37, List.forall_mem_cons.mpr ⟨lw_p38, List.forall_mem_cons.mpr ⟨lw_p39, List.forall_mem_cons.mpr ⟨lw_p40, List.forall_mem_cons.mpr ⟨lw_p41, List.forall_mem_cons.mpr ⟨lw_p42, fun _ h => absurd h List.not_mem_nil⟩⟩⟩⟩⟩⟩⟩⟩⟩⟩⟩
def lw_privs : List (MethodName × Nat) := lw_privs_1 ++ (lw_privs_2 ++ (lw_privs_3))
def lw_tbl : List Cond := k2_sels lw_privs ++ tables_1
theorem lw_privs_ok : ∀ q ∈ lw_privs, lw_okq q := by
  show ∀ q ∈ lw_privs_1 ++ (lw_privs_2 ++ (lw_privs_3)), lw_okq q
  exact List.forall_mem_append.mpr ⟨lw_r1, List.forall_mem_append.mpr ⟨lw_r2, lw_r3⟩⟩
end
section
/-! ===== names: printed by wip/whole/names.py out of the tables and of javap's listing ===== -/
def aw_T : List Cond := lw_tbl.filter goodWord
theorem aw_good : ∀ w ∈ aw_T, (w.onTables && w.keeps) = true ∨ ∃ ty, w = .arrayClass ty := fun w hw => good_of_word (List.mem_filter.mp hw).2
theorem aw_m1 {w : Cond} (i : Nat) (h : tables_1_1[i]? = some w) (hg : goodWord w = true) : w ∈ aw_T := List.mem_filter.mpr ⟨List.mem_append_right _ (List.mem_append_left _ (List.mem_of_getElem? h)), hg⟩
theorem aw_m2 {w : Cond} (i : Nat) (h : tables_1_2[i]? = some w) (hg : goodWord w = true) : w ∈ aw_T := List.mem_filter.mpr ⟨List.mem_append_right _ (List.mem_append_right _ (List.mem_append_left _ (List.mem_of_getElem? h))), hg⟩
theorem aw_m3 {w : Cond} (i : Nat) (h : tables_1_3[i]? = some w) (hg : goodWord w = true) : w ∈ aw_T := List.mem_filter.mpr ⟨List.mem_append_right _ (List.mem_append_right _ (List.mem_append_right _ (List.mem_append_left _ (List.mem_of_getElem? h)))), hg⟩
theorem aw_m4 {w : Cond} (i : Nat) (h : tables_1_4[i]? = some w) (hg : goodWord w = true) : w ∈ aw_T := List.mem_filter.mpr ⟨List.mem_append_right _ (List.mem_append_right _ (List.mem_append_right _ (List.mem_append_right _ (List.mem_of_getElem? h)))), hg⟩
theorem aw_ms {w : Cond} (i : Nat) (h : (k2_sels lw_privs)[i]? = some w) (hg : goodWord w = true) : w ∈ aw_T := List.mem_filter.mpr ⟨List.mem_append_left _ (List.mem_of_getElem? h), hg⟩
def aw_N : List Cond := [(Cond.castable "java/lang/IllegalStateException" "java/lang/IllegalStateException"), (Cond.declares ({ cls := "java/lang/RuntimeException", name := "<init>", desc := "()V" } : MethodName)), (Cond.declares ({ cls := "java/lang/RuntimeException", name := "<init>", desc := "(Ljava/lang/String;)V" } : MethodName)), (Cond.declares ({ cls := "java/lang/Exception", name := "<init>", desc := "()V" } : MethodName)), (Cond.declares ({ cls := "java/lang/Exception", name := "<init>", desc := "(Ljava/lang/String;)V" } : MethodName)), (Cond.declares ({ cls := "java/lang/Throwable", name := "<init>", desc := "()V" } : MethodName)), (Cond.declares ({ cls := "java/lang/Throwable", name := "<init>", desc := "(Ljava/lang/String;)V" } : MethodName)), (Cond.castable "java/lang/IndexOutOfBoundsException" "java/lang/IndexOutOfBoundsException"), (Cond.methodLinkNest "RoleAnalyser$Policy" (28 : Nat) ({ cls := "RoleAnalyser", name := "has", desc := "(II)Z" } : MethodName) "RoleAnalyser"), (Cond.castable "java/lang/IllegalArgumentException" "java/lang/IllegalArgumentException"), (Cond.methodLinkNest "RoleAnalyser$Rule" (26 : Nat) ({ cls := "RoleAnalyser", name := "has", desc := "(II)Z" } : MethodName) "RoleAnalyser"), (Cond.castable "java/lang/UnsupportedOperationException" "java/lang/UnsupportedOperationException"), (Cond.methodLinkNest "RoleAnalyser$Search" (37 : Nat) ({ cls := "RoleAnalyser", name := "has", desc := "(II)Z" } : MethodName) "RoleAnalyser"), (Cond.methodLinkNest "RoleAnalyser$Search" (91 : Nat) ({ cls := "RoleAnalyser", name := "areKept", desc := "(Ljava/util/ArrayList;I)Z" } : MethodName) "RoleAnalyser"), (Cond.castable "RoleAnalyser$Limit" "RoleAnalyser$Limit"), (Cond.castable "RoleAnalyser$Rule" "RoleAnalyser$Rule"), (Cond.declares ({ cls := "java/lang/Object", name := "getClass", desc := "()Ljava/lang/Class;" } : MethodName)), (Cond.castable "RoleAnalyser" "java/lang/Object"), (Cond.castable "RoleAnalyser$Policy" "java/lang/Object"), (Cond.castable "RoleAnalyser$Search" "java/lang/Object"), (Cond.castable "RoleAnalyserModel" "java/lang/Object"), (Cond.castable "RoleAnalyser$Limit" "java/lang/Object"), (Cond.castable "RoleAnalyser$Rule" "java/lang/Object"), (Cond.castable "java/lang/String" "java/lang/Object")]
theorem aw_Nwarm (w : Cond) (hw : w ∈ aw_N) {s U : State} (hW : s.WarmedH U.vm) (h : va_Nw w s) : va_Nw w U := by
  simp only [aw_N, List.mem_cons, List.not_mem_nil, or_false] at hw
  rcases hw with rfl | rfl | rfl | rfl | rfl | rfl | rfl | rfl | rfl | rfl | rfl | rfl | rfl | rfl | rfl | rfl | rfl | rfl | rfl | rfl | rfl | rfl | rfl | rfl
  all_goals first | exact va_Nw.warmC hW h | exact va_Nw.warmM hW h | exact va_Nw.warmD hW h
def aw_NC : List (String × String) := [("java/lang/IndexOutOfBoundsException", "java/lang/IllegalStateException"), ("java/lang/IllegalArgumentException", "java/lang/IllegalStateException"), ("java/lang/UnsupportedOperationException", "java/lang/IllegalStateException"), ("java/lang/IllegalStateException", "java/lang/IndexOutOfBoundsException"), ("java/lang/IllegalArgumentException", "java/lang/IndexOutOfBoundsException"), ("java/lang/UnsupportedOperationException", "java/lang/IndexOutOfBoundsException"), ("java/lang/IllegalStateException", "java/lang/IllegalArgumentException"), ("java/lang/IndexOutOfBoundsException", "java/lang/IllegalArgumentException"), ("java/lang/UnsupportedOperationException", "java/lang/IllegalArgumentException"), ("java/lang/IllegalStateException", "java/lang/UnsupportedOperationException"), ("java/lang/IndexOutOfBoundsException", "java/lang/UnsupportedOperationException"), ("java/lang/IllegalArgumentException", "java/lang/UnsupportedOperationException")]
def aw_SR : List (String × Nat × String) := [("RoleAnalyser", 50, "there are 6 roles"), ("RoleAnalyser", 58, "there are 5 users"), ("RoleAnalyser", 197, "no such role"), ("RoleAnalyser", 70, "a role would stand above itself"), ("RoleAnalyser", 211, "a static limit would not be kept"), ("RoleAnalyser", 219, "no such permission"), ("RoleAnalyser", 94, "the number of a limit is below 2"), ("RoleAnalyser", 221, "a set of roles is not 0 .. 63"), ("RoleAnalyser", 112, "there are 4 limits of the kind"), ("RoleAnalyser", 125, "the limit is not kept"), ("RoleAnalyser", 209, "there are 8 rules"), ("RoleAnalyser", 200, "no such user"), ("RoleAnalyser", 217, "no rule allows it"), ("RoleAnalyser", 156, "4 sessions are open"), ("RoleAnalyser", 202, "no such session is open"), ("RoleAnalyser", 163, "the user is not authorized for the role"), ("RoleAnalyser", 170, "a dynamic limit would not be kept"), ("RoleAnalyser", 204, "there are more than 12 pairs"), ("RoleAnalyser", 185, "no steps lead there")]
def ct_ra : u_T := fun k => match k with
  | 0 => ("RoleAnalyser", "policy", "LRoleAnalyser$Policy;", true)
  | 1 => ("RoleAnalyser", "search", "LRoleAnalyser$Search;", true)
  | 2 => ("RoleAnalyser", "assigned", "[I", true)
  | 3 => ("RoleAnalyser", "granted", "[I", true)
  | 4 => ("RoleAnalyser", "sessionUser", "[I", true)
  | 5 => ("RoleAnalyser", "sessionActive", "[I", true)
  | _ => ("RoleAnalyser", "userCount", "I", false)
def cy_ra : Nat → FieldType := fun k => match k with
  | 0 => .object "RoleAnalyser$Policy"
  | 1 => .object "RoleAnalyser$Search"
  | 2 => .array .int
  | 3 => .array .int
  | 4 => .array .int
  | 5 => .array .int
  | _ => .int
def ct_po : u_T := fun k => match k with
  | 0 => ("RoleAnalyser$Policy", "roleCount", "I", false)
  | 1 => ("RoleAnalyser$Policy", "authorizedBy", "[I", true)
  | 2 => ("RoleAnalyser$Policy", "staticLimits", "Ljava/util/ArrayList;", true)
  | 3 => ("RoleAnalyser$Policy", "dynamicLimits", "Ljava/util/ArrayList;", true)
  | _ => ("RoleAnalyser$Policy", "rules", "Ljava/util/ArrayList;", true)
def cy_po : Nat → FieldType := fun k => match k with
  | 0 => .int
  | 1 => .array .int
  | 2 => .object "java/util/ArrayList"
  | 3 => .object "java/util/ArrayList"
  | _ => .object "java/util/ArrayList"
def ct_se : u_T := fun k => match k with
  | 0 => ("RoleAnalyser$Search", "policy", "LRoleAnalyser$Policy;", true)
  | 1 => ("RoleAnalyser$Search", "found", "[I", true)
  | 2 => ("RoleAnalyser$Search", "lastStep", "[I", true)
  | 3 => ("RoleAnalyser$Search", "foundCount", "I", false)
  | _ => ("RoleAnalyser$Search", "users", "I", false)
def cy_se : Nat → FieldType := fun k => match k with
  | 0 => .object "RoleAnalyser$Policy"
  | 1 => .array .int
  | 2 => .array .int
  | 3 => .int
  | _ => .int
def ct_li : u_T := fun k => match k with
  | 0 => ("RoleAnalyser$Limit", "set", "I", true)
  | _ => ("RoleAnalyser$Limit", "number", "I", true)
def cy_li : Nat → FieldType := fun k => match k with
  | 0 => .int
  | _ => .int
def ct_ru : u_T := fun k => match k with
  | 0 => ("RoleAnalyser$Rule", "gives", "Z", true)
  | 1 => ("RoleAnalyser$Rule", "administratorRole", "I", true)
  | 2 => ("RoleAnalyser$Rule", "needed", "I", true)
  | 3 => ("RoleAnalyser$Rule", "unwanted", "I", true)
  | _ => ("RoleAnalyser$Rule", "movedRole", "I", true)
def cy_ru : Nat → FieldType := fun k => match k with
  | 0 => .boolean
  | 1 => .int
  | 2 => .int
  | 3 => .int
  | _ => .int
def ct_mo : u_T := fun k => match k with
  | 0 => ("RoleAnalyserModel", "fault", "I", false)
  | 1 => ("RoleAnalyserModel", "roleCount", "I", false)
  | 2 => ("RoleAnalyserModel", "userCount", "I", false)
  | 3 => ("RoleAnalyserModel", "below", "[I", true)
  | 4 => ("RoleAnalyserModel", "granted", "[I", true)
  | 5 => ("RoleAnalyserModel", "trial", "[I", true)
  | 6 => ("RoleAnalyserModel", "assigned", "[I", true)
  | 7 => ("RoleAnalyserModel", "limits", "[I", true)
  | 8 => ("RoleAnalyserModel", "limitSet", "[I", true)
  | 9 => ("RoleAnalyserModel", "limitMany", "[I", true)
  | 10 => ("RoleAnalyserModel", "isOpen", "[Z", true)
  | 11 => ("RoleAnalyserModel", "owner", "[I", true)
  | 12 => ("RoleAnalyserModel", "activeIn", "[I", true)
  | 13 => ("RoleAnalyserModel", "rules", "I", false)
  | 14 => ("RoleAnalyserModel", "gives", "[Z", true)
  | 15 => ("RoleAnalyserModel", "admin", "[I", true)
  | 16 => ("RoleAnalyserModel", "needed", "[I", true)
  | 17 => ("RoleAnalyserModel", "unwanted", "[I", true)
  | 18 => ("RoleAnalyserModel", "about", "[I", true)
  | 19 => ("RoleAnalyserModel", "reached", "[I", true)
  | 20 => ("RoleAnalyserModel", "leads", "[Z", true)
  | 21 => ("RoleAnalyserModel", "queue", "[I", true)
  | 22 => ("RoleAnalyserModel", "queued", "I", false)
  | _ => ("RoleAnalyserModel", "nearest", "I", false)
def cy_mo : Nat → FieldType := fun k => match k with
  | 0 => .int
  | 1 => .int
  | 2 => .int
  | 3 => .array .int
  | 4 => .array .int
  | 5 => .array .int
  | 6 => .array .int
  | 7 => .array .int
  | 8 => .array .int
  | 9 => .array .int
  | 10 => .array .boolean
  | 11 => .array .int
  | 12 => .array .int
  | 13 => .int
  | 14 => .array .boolean
  | 15 => .array .int
  | 16 => .array .int
  | 17 => .array .int
  | 18 => .array .int
  | 19 => .array .int
  | 20 => .array .boolean
  | 21 => .array .int
  | 22 => .int
  | _ => .int
def ct_al : u_T := fun k => match k with
  | 0 => ("java/util/AbstractList", "modCount", "I", false)
  | 1 => ("java/util/ArrayList", "elementData", "[Ljava/lang/Object;", false)
  | _ => ("java/util/ArrayList", "size", "I", false)
def cy_al : Nat → FieldType := fun k => match k with
  | 0 => .int
  | 1 => .array (.object "java/lang/Object")
  | _ => .int
def am_cl : List vw_C := [("RoleAnalyser", ct_ra, 7), ("RoleAnalyser$Policy", ct_po, 5), ("RoleAnalyser$Search", ct_se, 5), ("RoleAnalyser$Limit", ct_li, 2), ("RoleAnalyser$Rule", ct_ru, 5), ("RoleAnalyserModel", ct_mo, 24), ("java/util/ArrayList", ct_al, 3), ("java/lang/IllegalStateException", fun _ => ("", "", "", false), 0), ("java/lang/IndexOutOfBoundsException", fun _ => ("", "", "", false), 0), ("java/lang/IllegalArgumentException", fun _ => ("", "", "", false), 0), ("java/lang/UnsupportedOperationException", fun _ => ("", "", "", false), 0)]
def am_ty (ci k : Nat) : FieldType := match ci with
  | 0 => cy_ra k
  | 1 => cy_po k
  | 2 => cy_se k
  | 3 => cy_li k
  | 4 => cy_ru k
  | 5 => cy_mo k
  | 6 => cy_al k
  | _ => .int
theorem ok_ra : (∀ w ∈ u_ws "RoleAnalyser" ct_ra 7, w ∈ aw_T) ∧ (∀ k, k < 7 → parseFieldDescriptor (ct_ra k).2.2.1 = some (cy_ra k)) ∧ (∀ a, a < 7 → ∀ b, b < 7 → a ≠ b → (ct_ra a).2.1 ≠ (ct_ra b).2.1) := by
  refine ⟨?_, by decide +kernel, by decide +kernel⟩
  show ∀ w ∈ [(Cond.laysFinal "RoleAnalyser" "RoleAnalyser" "policy" "LRoleAnalyser$Policy;"), (Cond.laysFinal "RoleAnalyser" "RoleAnalyser" "search" "LRoleAnalyser$Search;"), (Cond.laysFinal "RoleAnalyser" "RoleAnalyser" "assigned" "[I"), (Cond.laysFinal "RoleAnalyser" "RoleAnalyser" "granted" "[I"), (Cond.laysFinal "RoleAnalyser" "RoleAnalyser" "sessionUser" "[I"), (Cond.laysFinal "RoleAnalyser" "RoleAnalyser" "sessionActive" "[I"), (Cond.lays "RoleAnalyser" "RoleAnalyser" "userCount" "I")], w ∈ aw_T
  intro w hw
  simp only [List.mem_cons, List.not_mem_nil, or_false] at hw
  rcases hw with rfl | rfl | rfl | rfl | rfl | rfl | rfl
  · exact aw_m1 120 rfl rfl
  · exact aw_m1 122 rfl rfl
  · exact aw_m1 124 rfl rfl
  · exact aw_m1 126 rfl rfl
  · exact aw_m1 128 rfl rfl
  · exact aw_m1 130 rfl rfl
  · exact aw_m1 132 rfl rfl
theorem ok_po : (∀ w ∈ u_ws "RoleAnalyser$Policy" ct_po 5, w ∈ aw_T) ∧ (∀ k, k < 5 → parseFieldDescriptor (ct_po k).2.2.1 = some (cy_po k)) ∧ (∀ a, a < 5 → ∀ b, b < 5 → a ≠ b → (ct_po a).2.1 ≠ (ct_po b).2.1) := by
  refine ⟨?_, by decide +kernel, by decide +kernel⟩
  show ∀ w ∈ [(Cond.lays "RoleAnalyser$Policy" "RoleAnalyser$Policy" "roleCount" "I"), (Cond.laysFinal "RoleAnalyser$Policy" "RoleAnalyser$Policy" "authorizedBy" "[I"), (Cond.laysFinal "RoleAnalyser$Policy" "RoleAnalyser$Policy" "staticLimits" "Ljava/util/ArrayList;"), (Cond.laysFinal "RoleAnalyser$Policy" "RoleAnalyser$Policy" "dynamicLimits" "Ljava/util/ArrayList;"), (Cond.laysFinal "RoleAnalyser$Policy" "RoleAnalyser$Policy" "rules" "Ljava/util/ArrayList;")], w ∈ aw_T
  intro w hw
  simp only [List.mem_cons, List.not_mem_nil, or_false] at hw
  rcases hw with rfl | rfl | rfl | rfl | rfl
  · exact aw_m1 77 rfl rfl
  · exact aw_m1 79 rfl rfl
  · exact aw_m1 81 rfl rfl
  · exact aw_m1 83 rfl rfl
  · exact aw_m1 85 rfl rfl
theorem ok_se : (∀ w ∈ u_ws "RoleAnalyser$Search" ct_se 5, w ∈ aw_T) ∧ (∀ k, k < 5 → parseFieldDescriptor (ct_se k).2.2.1 = some (cy_se k)) ∧ (∀ a, a < 5 → ∀ b, b < 5 → a ≠ b → (ct_se a).2.1 ≠ (ct_se b).2.1) := by
  refine ⟨?_, by decide +kernel, by decide +kernel⟩
  show ∀ w ∈ [(Cond.laysFinal "RoleAnalyser$Search" "RoleAnalyser$Search" "policy" "LRoleAnalyser$Policy;"), (Cond.laysFinal "RoleAnalyser$Search" "RoleAnalyser$Search" "found" "[I"), (Cond.laysFinal "RoleAnalyser$Search" "RoleAnalyser$Search" "lastStep" "[I"), (Cond.lays "RoleAnalyser$Search" "RoleAnalyser$Search" "foundCount" "I"), (Cond.lays "RoleAnalyser$Search" "RoleAnalyser$Search" "users" "I")], w ∈ aw_T
  intro w hw
  simp only [List.mem_cons, List.not_mem_nil, or_false] at hw
  rcases hw with rfl | rfl | rfl | rfl | rfl
  · exact aw_m1 99 rfl rfl
  · exact aw_m1 101 rfl rfl
  · exact aw_m1 103 rfl rfl
  · exact aw_m1 105 rfl rfl
  · exact aw_m1 107 rfl rfl
theorem ok_li : (∀ w ∈ u_ws "RoleAnalyser$Limit" ct_li 2, w ∈ aw_T) ∧ (∀ k, k < 2 → parseFieldDescriptor (ct_li k).2.2.1 = some (cy_li k)) ∧ (∀ a, a < 2 → ∀ b, b < 2 → a ≠ b → (ct_li a).2.1 ≠ (ct_li b).2.1) := by
  refine ⟨?_, by decide +kernel, by decide +kernel⟩
  show ∀ w ∈ [(Cond.laysFinal "RoleAnalyser$Limit" "RoleAnalyser$Limit" "set" "I"), (Cond.laysFinal "RoleAnalyser$Limit" "RoleAnalyser$Limit" "number" "I")], w ∈ aw_T
  intro w hw
  simp only [List.mem_cons, List.not_mem_nil, or_false] at hw
  rcases hw with rfl | rfl
  · exact aw_m2 114 rfl rfl
  · exact aw_m2 116 rfl rfl
theorem ok_ru : (∀ w ∈ u_ws "RoleAnalyser$Rule" ct_ru 5, w ∈ aw_T) ∧ (∀ k, k < 5 → parseFieldDescriptor (ct_ru k).2.2.1 = some (cy_ru k)) ∧ (∀ a, a < 5 → ∀ b, b < 5 → a ≠ b → (ct_ru a).2.1 ≠ (ct_ru b).2.1) := by
  refine ⟨?_, by decide +kernel, by decide +kernel⟩
  show ∀ w ∈ [(Cond.laysFinal "RoleAnalyser$Rule" "RoleAnalyser$Rule" "gives" "Z"), (Cond.laysFinal "RoleAnalyser$Rule" "RoleAnalyser$Rule" "administratorRole" "I"), (Cond.laysFinal "RoleAnalyser$Rule" "RoleAnalyser$Rule" "needed" "I"), (Cond.laysFinal "RoleAnalyser$Rule" "RoleAnalyser$Rule" "unwanted" "I"), (Cond.laysFinal "RoleAnalyser$Rule" "RoleAnalyser$Rule" "movedRole" "I")], w ∈ aw_T
  intro w hw
  simp only [List.mem_cons, List.not_mem_nil, or_false] at hw
  rcases hw with rfl | rfl | rfl | rfl | rfl
  · exact aw_m2 209 rfl rfl
  · exact aw_m2 211 rfl rfl
  · exact aw_m2 213 rfl rfl
  · exact aw_m2 215 rfl rfl
  · exact aw_m2 217 rfl rfl
theorem ok_mo : (∀ w ∈ u_ws "RoleAnalyserModel" ct_mo 24, w ∈ aw_T) ∧ (∀ k, k < 24 → parseFieldDescriptor (ct_mo k).2.2.1 = some (cy_mo k)) ∧ (∀ a, a < 24 → ∀ b, b < 24 → a ≠ b → (ct_mo a).2.1 ≠ (ct_mo b).2.1) := by
  refine ⟨?_, by decide +kernel, by decide +kernel⟩
  show ∀ w ∈ [(Cond.lays "RoleAnalyserModel" "RoleAnalyserModel" "fault" "I"), (Cond.lays "RoleAnalyserModel" "RoleAnalyserModel" "roleCount" "I"), (Cond.lays "RoleAnalyserModel" "RoleAnalyserModel" "userCount" "I"), (Cond.laysFinal "RoleAnalyserModel" "RoleAnalyserModel" "below" "[I"), (Cond.laysFinal "RoleAnalyserModel" "RoleAnalyserModel" "granted" "[I"), (Cond.laysFinal "RoleAnalyserModel" "RoleAnalyserModel" "trial" "[I"), (Cond.laysFinal "RoleAnalyserModel" "RoleAnalyserModel" "assigned" "[I"), (Cond.laysFinal "RoleAnalyserModel" "RoleAnalyserModel" "limits" "[I"), (Cond.laysFinal "RoleAnalyserModel" "RoleAnalyserModel" "limitSet" "[I"), (Cond.laysFinal "RoleAnalyserModel" "RoleAnalyserModel" "limitMany" "[I"), (Cond.laysFinal "RoleAnalyserModel" "RoleAnalyserModel" "isOpen" "[Z"), (Cond.laysFinal "RoleAnalyserModel" "RoleAnalyserModel" "owner" "[I"), (Cond.laysFinal "RoleAnalyserModel" "RoleAnalyserModel" "activeIn" "[I"), (Cond.lays "RoleAnalyserModel" "RoleAnalyserModel" "rules" "I"), (Cond.laysFinal "RoleAnalyserModel" "RoleAnalyserModel" "gives" "[Z"), (Cond.laysFinal "RoleAnalyserModel" "RoleAnalyserModel" "admin" "[I"), (Cond.laysFinal "RoleAnalyserModel" "RoleAnalyserModel" "needed" "[I"), (Cond.laysFinal "RoleAnalyserModel" "RoleAnalyserModel" "unwanted" "[I"), (Cond.laysFinal "RoleAnalyserModel" "RoleAnalyserModel" "about" "[I"), (Cond.laysFinal "RoleAnalyserModel" "RoleAnalyserModel" "reached" "[I"), (Cond.laysFinal "RoleAnalyserModel" "RoleAnalyserModel" "leads" "[Z"), (Cond.laysFinal "RoleAnalyserModel" "RoleAnalyserModel" "queue" "[I"), (Cond.lays "RoleAnalyserModel" "RoleAnalyserModel" "queued" "I"), (Cond.lays "RoleAnalyserModel" "RoleAnalyserModel" "nearest" "I")], w ∈ aw_T
  intro w hw
  simp only [List.mem_cons, List.not_mem_nil, or_false] at hw
  rcases hw with rfl | rfl | rfl | rfl | rfl | rfl | rfl | rfl | rfl | rfl | rfl | rfl | rfl | rfl | rfl | rfl | rfl | rfl | rfl | rfl | rfl | rfl | rfl | rfl
  · exact aw_m3 230 rfl rfl
  · exact aw_m3 232 rfl rfl
  · exact aw_m3 234 rfl rfl
  · exact aw_m3 236 rfl rfl
  · exact aw_m3 238 rfl rfl
  · exact aw_m4 0 rfl rfl
  · exact aw_m4 2 rfl rfl
  · exact aw_m4 4 rfl rfl
  · exact aw_m4 6 rfl rfl
  · exact aw_m4 8 rfl rfl
  · exact aw_m4 10 rfl rfl
  · exact aw_m4 12 rfl rfl
  · exact aw_m4 14 rfl rfl
  · exact aw_m4 16 rfl rfl
  · exact aw_m4 18 rfl rfl
  · exact aw_m4 20 rfl rfl
  · exact aw_m4 22 rfl rfl
  · exact aw_m4 24 rfl rfl
  · exact aw_m4 26 rfl rfl
  · exact aw_m4 28 rfl rfl
  · exact aw_m4 30 rfl rfl
  · exact aw_m4 32 rfl rfl
  · exact aw_m4 34 rfl rfl
  · exact aw_m4 36 rfl rfl
theorem ok_al : (∀ w ∈ u_ws "java/util/ArrayList" ct_al 3, w ∈ aw_T) ∧ (∀ k, k < 3 → parseFieldDescriptor (ct_al k).2.2.1 = some (cy_al k)) ∧ (∀ a, a < 3 → ∀ b, b < 3 → a ≠ b → (ct_al a).2.1 ≠ (ct_al b).2.1) := by
  refine ⟨?_, by decide +kernel, by decide +kernel⟩
  show ∀ w ∈ [(Cond.lays "java/util/ArrayList" "java/util/AbstractList" "modCount" "I"), (Cond.lays "java/util/ArrayList" "java/util/ArrayList" "elementData" "[Ljava/lang/Object;"), (Cond.lays "java/util/ArrayList" "java/util/ArrayList" "size" "I")], w ∈ aw_T
  intro w hw
  simp only [List.mem_cons, List.not_mem_nil, or_false] at hw
  rcases hw with rfl | rfl | rfl
  · exact aw_m1 61 rfl rfl
  · exact aw_m1 57 rfl rfl
  · exact aw_m1 59 rfl rfl
theorem am_ok : ∀ (ci : Nat) (r : vw_C), am_cl[ci]? = some r → (∀ w ∈ u_ws r.1 r.2.1 r.2.2, w ∈ aw_T) ∧ (∀ k, k < r.2.2 → parseFieldDescriptor (r.2.1 k).2.2.1 = some (am_ty ci k)) ∧ (∀ a, a < r.2.2 → ∀ b, b < r.2.2 → a ≠ b → (r.2.1 a).2.1 ≠ (r.2.1 b).2.1)
  | 0, _, h => by cases h; exact ok_ra
  | 1, _, h => by cases h; exact ok_po
  | 2, _, h => by cases h; exact ok_se
  | 3, _, h => by cases h; exact ok_li
  | 4, _, h => by cases h; exact ok_ru
  | 5, _, h => by cases h; exact ok_mo
  | 6, _, h => by cases h; exact ok_al
  | 7, _, h => by cases h; exact ⟨fun w hw => absurd hw List.not_mem_nil, fun k hk => absurd hk (Nat.not_lt_zero k), fun a ha => absurd ha (Nat.not_lt_zero a)⟩
  | 8, _, h => by cases h; exact ⟨fun w hw => absurd hw List.not_mem_nil, fun k hk => absurd hk (Nat.not_lt_zero k), fun a ha => absurd ha (Nat.not_lt_zero a)⟩
  | 9, _, h => by cases h; exact ⟨fun w hw => absurd hw List.not_mem_nil, fun k hk => absurd hk (Nat.not_lt_zero k), fun a ha => absurd ha (Nat.not_lt_zero a)⟩
  | 10, _, h => by cases h; exact ⟨fun w hw => absurd hw List.not_mem_nil, fun k hk => absurd hk (Nat.not_lt_zero k), fun a ha => absurd ha (Nat.not_lt_zero a)⟩
  | n + 11, _, h => by cases h
end
section
/-! ===== the abstract heap: a list of cells, the k-th of them at the address G.1 + k; all that the run has made since its start ===== -/
abbrev ag_T : Type := Nat × va_G × (Nat → ClassId) × (Nat × Nat × (Nat → Int32)) × Nat
def ah_ws (G : ag_T) : Nat → List va_E → va_W
  | _, [] => []
  | k, e :: t => (G.1 + k, e) :: ah_ws G (k + 1) t
theorem ah_get (G : ag_T) : ∀ (h : List va_E) (k i : Nat), (ah_ws G k h)[i]? = (h[i]?).map (fun e => (G.1 + (k + i), e))
  | [], k, i => by simp [ah_ws]
  | e :: t, k, 0 => by simp [ah_ws]
  | e :: t, k, i + 1 => by
    have h1 := ah_get G t (k + 1) i
    rw [show k + 1 + i = k + (i + 1) by omega] at h1
    simpa [ah_ws] using h1
theorem ah_at {G : ag_T} {h : List va_E} {i : Nat} {e : va_E} (hi : h[i]? = some e) : (ah_ws G 0 h)[i]? = some (G.1 + i, e) := by
  rw [ah_get, hi]
  simp
theorem ah_len (G : ag_T) : ∀ (h : List va_E) (k : Nat), (ah_ws G k h).length = h.length
  | [], _ => rfl
  | _ :: t, k => by simp [ah_ws, ah_len G t (k + 1)]
theorem ah_set (G : ag_T) : ∀ (h : List va_E) (k i : Nat) (e : va_E), (ah_ws G k h).set i (G.1 + (k + i), e) = ah_ws G k (h.set i e)
  | [], _, _, _ => by simp [ah_ws]
  | a :: t, k, 0, e => by simp [ah_ws]
  | a :: t, k, i + 1, e => by
    have h1 := ah_set G t (k + 1) i e
    rw [show k + 1 + i = k + (i + 1) by omega] at h1
    simp [ah_ws, h1]
theorem ah_set0 (G : ag_T) (h : List va_E) (i : Nat) (e : va_E) : (ah_ws G 0 h).set i (G.1 + i, e) = ah_ws G 0 (h.set i e) := by
  have h1 := ah_set G h 0 i e
  rw [Nat.zero_add] at h1
  exact h1
theorem ah_app (G : ag_T) : ∀ (h : List va_E) (k : Nat) (e : va_E), ah_ws G k (h ++ [e]) = ah_ws G k h ++ [(G.1 + (k + h.length), e)]
  | [], k, e => by simp [ah_ws]
  | a :: t, k, e => by
    have h1 := ah_app G t (k + 1) e
    rw [show k + 1 + t.length = k + (t.length + 1) by omega] at h1
    simp [ah_ws, h1]
theorem ah_app0 (G : ag_T) (h : List va_E) (e : va_E) : ah_ws G 0 (h ++ [e]) = ah_ws G 0 h ++ [(G.1 + h.length, e)] := by
  have h1 := ah_app G h 0 e
  rw [Nat.zero_add] at h1
  exact h1
/-- what a method may change: what was made since the start -/
def aw_A (G : ag_T) : Nat → Prop := fun q => G.1 ≤ q
theorem ah_D (G : ag_T) (h : List va_E) : va_D (aw_A G) (ah_ws G 0 h) := by
  have key : ∀ (k : Nat) (q : Nat × va_E), (ah_ws G 0 h)[k]? = some q → q.1 = G.1 + k := by
    intro k q hk
    rw [ah_get] at hk
    cases he : h[k]? with
    | none => rw [he] at hk; cases hk
    | some e =>
      rw [he] at hk
      rw [← Option.some.inj hk]
      simp
  refine ⟨fun i j x y hi hj hxy => ?_, fun k q hk => ?_⟩
  · have h1 := key i x hi
    have h2 := key j y hj
    omega
  · rw [key k q hk]
    exact Nat.le_add_right _ _
/-- the heap H holds the list h -/
def ah_R (G : ag_T) (h : List va_E) (H : Heap) : Prop := va_P G.2.1 am_cl (ah_ws G 0 h) H ∧ H.size = G.1 + h.length
theorem ah_R.cell {G : ag_T} {h : List va_E} {H : Heap} (r : ah_R G h H) {i : Nat} {e : va_E} (hi : h[i]? = some e) : va_at G.2.1 am_cl (G.1 + i, e) H := r.1 i _ (ah_at hi)
theorem ah_R.set {G : ag_T} {h : List va_E} {H H1 : Heap} (r : ah_R G h H) {i : Nat} {e0 e : va_E} (hi : h[i]? = some e0) (hz : H1.size = H.size) (ho : ∀ q : Nat, q ≠ G.1 + i → H1[q]? = H[q]?) (he : va_at G.2.1 am_cl (G.1 + i, e) H1) : ah_R G (h.set i e) H1 := by
  refine ⟨?_, by rw [hz, r.2, List.length_set]⟩
  rw [← ah_set0]
  exact va_P.set r.1 (ah_D G h) (ah_at hi) he ho
theorem ah_R.push {G : ag_T} {h : List va_E} {H H1 : Heap} (r : ah_R G h H) {e : va_E} (hz : H1.size = H.size + 1) (ho : ∀ q : Nat, q < H.size → H1[q]? = H[q]?) (he : va_at G.2.1 am_cl (G.1 + h.length, e) H1) : ah_R G (h ++ [e]) H1 := by
  refine ⟨?_, by rw [hz, r.2, List.length_append]; rfl⟩
  rw [ah_app0]
  refine va_P.app (r.1.kept fun k q hk => ho _ (r.1 k q hk).lt) (fun k q hk => ?_)
  have hk1 : k < 1 := (List.getElem?_eq_some_iff.mp hk).1
  rw [show k = 0 by omega] at hk
  rw [← Option.some.inj hk]
  exact he
end
section
/-! ===== what stood before the run and stays: the script, the statics of Throwable and of ArrayList ===== -/
/-- a static field that holds null or a reference, its statics' cell in H -/
def ax_S (C n d : String) (A : Nat → Prop) (U : State) (H : Heap) : Prop :=
  ∃ (c : ClassId) (k : Class) (i : Nat) (f : Field) (a : Nat) (cell : Cell) (v : Value), U.vm.findClass C = some c ∧ U.fieldFound? C n d = some (c, k, i, f) ∧ f.isStatic = true ∧ k.statics = some a ∧ k.staticTypes[f.slot]? = some f.type ∧ H[a]? = some cell ∧ cell.vm.isStatics = true ∧ cell.cls = c ∧ f.slot < cell.slots.size ∧ cell.slots[f.slot]? = some v ∧ v.isRef = true ∧ ¬ A a
theorem ax_S.moved {C n d : String} {A : Nat → Prop} {u U : State} {H : Heap} (hvm : u.vm.Alike U.vm) (h : ax_S C n d A u H) : ax_S C n d A U H := by
  obtain ⟨c, k, i, f, a, cell, v, h1, h2, h3, h4, h5, h6⟩ := h
  obtain ⟨k', hi', he⟩ := State.fieldFound?_setVm hvm h2
  exact ⟨c, k', i, f, a, cell, v, by rw [hvm.findClass]; exact h1, hi', h3, by rw [he]; exact h4, by rw [he]; exact h5, h6⟩
theorem ax_S.kept {C n d : String} {A : Nat → Prop} {U : State} {H H1 : Heap} (h : ax_S C n d A U H) (hq : ∀ a : Nat, a < H.size → ¬ A a → H1[a]? = H[a]?) : ax_S C n d A U H1 := by
  obtain ⟨c, k, i, f, a, cell, v, h1, h2, h3, h4, h5, h6, h7, h8, h9, h10, h11, h12⟩ := h
  exact ⟨c, k, i, f, a, cell, v, h1, h2, h3, h4, h5, by rw [hq a (Array.getElem?_eq_some_iff.mp h6).1 h12]; exact h6, h7, h8, h9, h10, h11, h12⟩
theorem ax_S.lays {C n d : String} {A : Nat → Prop} {s : State} {args : Array Value} (h : ax_S C n d A s s.heap) : (Cond.laysStatic C n d).before args s = true := by
  obtain ⟨c, k, i, f, a, cell, v, h1, h2, h3, h4, h5, h6, h7, h8, h9, h10, h11, h12⟩ := h
  exact Cond.laysStatic_of h1 h2 h3 h4 h6 h7 h8 h9 h5
theorem ax_S.ref {C n d : String} {A : Nat → Prop} {s : State} {args : Array Value} (h : ax_S C n d A s s.heap) : (Cond.isRef (.static C n d)).before args s = true := by
  obtain ⟨c, k, i, f, a, cell, v, h1, h2, h3, h4, h5, h6, h7, h8, h9, h10, h11, h12⟩ := h
  have he : (Term.static C n d).eval args s none [] s = some v := by
    simp [Term.eval, State.fieldNamed?, h2, h3, h4, h6, h7, h10]
  simp only [Cond.before, Cond.holds, Cond.value, he]
  cases v <;> simp_all [Value.isRef]
theorem ax_S.of {C n d : String} {A : Nat → Prop} {s : State} {args : Array Value} (hl : (Cond.laysStatic C n d).before args s = true) (hr : (Cond.isRef (.static C n d)).before args s = true) (hA : ∀ a : Nat, a < s.heap.size → ¬ A a) : ax_S C n d A s s.heap := by
  obtain ⟨c, k, i, f, a, cell, h1, h2, h3, h4, h6, h7, h8, h9, h5⟩ := Cond.laysStatic_spec hl
  obtain ⟨v, hv⟩ : ∃ v, cell.slots[f.slot]? = some v := ⟨_, Array.getElem?_eq_getElem h9⟩
  have he : (Term.static C n d).eval args s none [] s = some v := by
    simp [Term.eval, State.fieldNamed?, h2, h3, h4, h6, h7, hv]
  refine ⟨c, k, i, f, a, cell, v, h1, h2, h3, h4, h5, h6, h7, h8, h9, hv, ?_, hA a (Array.getElem?_eq_some_iff.mp h6).1⟩
  simp only [Cond.before, Cond.holds, Cond.value, he] at hr
  cases v <;> simp_all [Value.isRef]
/-- an empty array of references that stood before -/
def ax_E (e0 : Nat) (A : Nat → Prop) (U : State) (H : Heap) : Prop := ∃ (cell : Cell) (ty : FieldType), H[e0]? = some cell ∧ U.isArrayOf cell ty ∧ cell.slots.size = 0 ∧ ¬ A e0
def aw_O (G : ag_T) (U : State) (H : Heap) : Prop :=
  va_X G.2.2.2.1.1 G.2.2.2.1.2.1 G.2.2.2.1.2.2 U H ∧ G.2.2.2.1.1 < G.1 ∧ ax_S Bundle.tN "UNASSIGNED_STACK" Bundle.steD (aw_A G) U H ∧ ax_S Bundle.tN "SUPPRESSED_SENTINEL" Bundle.listD (aw_A G) U H ∧
    va_Z "java/util/ArrayList" "DEFAULTCAPACITY_EMPTY_ELEMENTDATA" "[Ljava/lang/Object;" (.ref G.2.2.2.2) (aw_A G) U H ∧ ax_E G.2.2.2.2 (aw_A G) U H
theorem aw_O.moved {G : ag_T} {u U : State} {H : Heap} (hW : u.WarmedH U.vm) (h : aw_O G u H) : aw_O G U H := by
  obtain ⟨h1, h2, h3, h4, h5, cell, ty, e1, e2, e3⟩ := h
  exact ⟨h1.moved hW.alike, h2, h3.moved hW.alike, h4.moved hW.alike, h5.moved hW.alike, cell, ty, e1, State.isArrayOf_alike hW.alike e2, e3⟩
theorem aw_O.kept {G : ag_T} {U : State} {H H1 : Heap} (h : aw_O G U H) (hq : ∀ a : Nat, a < H.size → ¬ aw_A G a → H1[a]? = H[a]?) : aw_O G U H1 := by
  obtain ⟨h1, h2, h3, h4, h5, cell, ty, e1, e2, e3, e4⟩ := h
  obtain ⟨scr, g1, g2⟩ := id h1
  exact ⟨h1.kept (hq _ (Array.getElem?_eq_some_iff.mp g1).1 (Nat.not_le.mpr h2)), h2, h3.kept hq, h4.kept hq, h5.kept hq, cell, ty, by rw [hq _ (Array.getElem?_eq_some_iff.mp e1).1 e4]; exact e1, e2, e3, e4⟩
end
section
/-! ===== the abstract walk: aw_w says of a method's frame at pc, with known locals lv, stack st, over the abstract heap h, that it comes to the method's end with Q ===== -/
abbrev am_M : Type := String × MethodName × ByteArray × Nat × Option FieldType × List (Nat × Nat × Nat × Nat)
abbrev aq_T : Type := (Option Value ⊕ Nat) → List va_E → Prop
def ag_ty (G : ag_T) : List (ClassId × FieldType) := [(G.2.2.1 0, .int), (G.2.2.1 1, .boolean), (G.2.2.1 2, .long), (G.2.2.1 3, .object "java/lang/Object")]
def aw_rm (fr lo kc ks : Nat) : Room := { frames := fr, cells := kc, slots := ks, locals := lo }
/-- the tables as the walk needs them -/
def aw_K (G : ag_T) (U : State) : Prop := va_K G.2.1 am_cl (ag_ty G) U ∧ (∀ w ∈ aw_N, va_Nw w U) ∧ (∀ q ∈ aw_NC, va_Nc q.1 q.2 U) ∧ ∀ q ∈ aw_SR, ∃ a, vk_R q.1 q.2.1 q.2.2 a U
theorem aw_K.moved {G : ag_T} {u U : State} (hW : u.WarmedH U.vm) (h : aw_K G u) : aw_K G U :=
  ⟨va_K.moved hW.alike h.1, fun w hw => aw_Nwarm w hw hW (h.2.1 w hw), fun q hq => (h.2.2.1 q hq).moved hW.alike, fun q hq => by obtain ⟨a, ha⟩ := h.2.2.2 q hq; exact ⟨a, vk_R.warm hW ha⟩⟩
/-- what stands around a method's frame -/
def aw_C (G : ag_T) (M : am_M) (fr lo : Nat) (p : Program) (l : Launch) (R : Room) (s : State) (m : MethodId) (args : Array Value) (meth : Method) (c : Code) : Prop :=
  p.tables.exec = Jvm.exec ∧ c.code = M.2.2.1 ∧ c.maxLocals = M.2.2.2.1 ∧ s.vm.findClass M.1 = some m.cls ∧ (∀ w ∈ aw_T, w.before args s = true) ∧ meth.sig.returnType = M.2.2.2.2.1 ∧ c.exceptionTable.toList = tableOf M.2.2.2.2.2 ∧ meth.locks = false ∧ meth.name = M.2.1.name ∧ l.stackTraces = false ∧ aw_K G s ∧ fr ≤ R.frames ∧ lo ≤ R.locals
/-- how a method ends: with a value, or with an exception of the class numbered ci -/
def aw_E (G : ag_T) (Q : aq_T) (mc ms : Nat) (s : State) (o : Outcome) (t : State) : Prop :=
  ∃ (h' : List va_E) (L : List Loc), ah_R G h' t.heap ∧ s.WarmedH t.vm ∧ s.sameButNew ({ t with vm := s.vm } : State) L mc ms ∧ va_S (aw_A G) s.heap t.heap L ∧
    ((∃ v, o = .returned v ∧ Q (.inl v) h') ∨ ∃ (k ci : Nat), o = .threw (G.1 + k) ∧ h'[k]? = some (.inr (ci, [])) ∧ Q (.inr ci) h')
def aw_Z (G : ag_T) (Q : aq_T) (below : List Frame) (mc ms : Nat) (s : State) : State → Prop := fun t => ∃ o, t.status = .running ∧ Ended t below o ∧ aw_E G Q mc ms s o t
def aw_w (G : ag_T) (M : am_M) (fr lo kc ks pc : Nat) (lv : List (Nat × Value)) (st : List Value) (h : List va_E) (Q : aq_T) : Prop :=
  ∀ (p : Program) (l : Launch) (e : Env) (R : Room) (s : State) (m : MethodId) (args : Array Value) (below : List Frame) (meth : Method) (c : Code) (H : Heap) (locs : List Loc) (cells slots mc ms : Nat) (ls : Array Slot),
    aw_C G M fr lo p l R s m args meth c → lv_has ls M.2.2.2.1 lv → ah_R G h H → aw_O G s s.heap → va_S (aw_A G) s.heap H locs → G.1 ≤ s.heap.size → cells + kc ≤ mc → slots + ks ≤ ms → mc ≤ R.cells → ms ≤ R.slots →
    W p l e R s m args below meth c H locs cells slots (aw_Z G Q below mc ms s) (F0 m pc ls st)
section AWP
variable {G : ag_T} {M : am_M} {fr lo kc ks pc : Nat} {lv : List (Nat × Value)} {st : List Value} {h : List va_E} {Q : aq_T}
theorem aw_step {pc' : Nat} {st' : List Value} (hs : ∀ (p : Program) (l : Launch) (e : Env) (R : Room) (s : State) (m : MethodId) (args : Array Value) (below : List Frame) (meth : Method) (c : Code) (H : Heap) (locs : List Loc) (cells slots : Nat) (Z : State → Prop) (ls : Array Slot), p.tables.exec = Jvm.exec → c.code = M.2.2.1 → lv_has ls M.2.2.2.1 lv →
      W p l e R s m args below meth c H locs cells slots Z (F0 m pc' ls st') → W p l e R s m args below meth c H locs cells slots Z (F0 m pc ls st)) (k : aw_w G M fr lo kc ks pc' lv st' h Q) : aw_w G M fr lo kc ks pc lv st h Q := by
  intro p l e R s m args below meth c H locs cells slots mc ms ls C hl hR hO hS hG h1 h2 h3 h4
  exact hs p l e R s m args below meth c H locs cells slots _ ls C.1 C.2.1 hl (k p l e R s m args below meth c H locs cells slots mc ms ls C hl hR hO hS hG h1 h2 h3 h4)
theorem aw_stepS {pc' : Nat} {lv' : List (Nat × Value)} {st' : List Value} (hs : ∀ (p : Program) (l : Launch) (e : Env) (R : Room) (s : State) (m : MethodId) (args : Array Value) (below : List Frame) (meth : Method) (c : Code) (H : Heap) (locs : List Loc) (cells slots : Nat) (Z : State → Prop) (ls : Array Slot), p.tables.exec = Jvm.exec → c.code = M.2.2.1 → lv_has ls M.2.2.2.1 lv →
      (∀ ls' : Array Slot, lv_has ls' M.2.2.2.1 lv' → W p l e R s m args below meth c H locs cells slots Z (F0 m pc' ls' st')) → W p l e R s m args below meth c H locs cells slots Z (F0 m pc ls st)) (k : aw_w G M fr lo kc ks pc' lv' st' h Q) : aw_w G M fr lo kc ks pc lv st h Q := by
  intro p l e R s m args below meth c H locs cells slots mc ms ls C hl hR hO hS hG h1 h2 h3 h4
  exact hs p l e R s m args below meth c H locs cells slots _ ls C.1 C.2.1 hl fun ls' hl' => k p l e R s m args below meth c H locs cells slots mc ms ls' C hl' hR hO hS hG h1 h2 h3 h4
theorem aw_stepB {P : Prop} {pc1 pc2 : Nat} {st' : List Value} (hs : ∀ (p : Program) (l : Launch) (e : Env) (R : Room) (s : State) (m : MethodId) (args : Array Value) (below : List Frame) (meth : Method) (c : Code) (H : Heap) (locs : List Loc) (cells slots : Nat) (Z : State → Prop) (ls : Array Slot), p.tables.exec = Jvm.exec → c.code = M.2.2.1 →
      (P → W p l e R s m args below meth c H locs cells slots Z (F0 m pc1 ls st')) → (¬ P → W p l e R s m args below meth c H locs cells slots Z (F0 m pc2 ls st')) → W p l e R s m args below meth c H locs cells slots Z (F0 m pc ls st))
    (k1 : P → aw_w G M fr lo kc ks pc1 lv st' h Q) (k2 : ¬ P → aw_w G M fr lo kc ks pc2 lv st' h Q) : aw_w G M fr lo kc ks pc lv st h Q := by
  intro p l e R s m args below meth c H locs cells slots mc ms ls C hl hR hO hS hG h1 h2 h3 h4
  exact hs p l e R s m args below meth c H locs cells slots _ ls C.1 C.2.1 (fun z => k1 z p l e R s m args below meth c H locs cells slots mc ms ls C hl hR hO hS hG h1 h2 h3 h4) (fun z => k2 z p l e R s m args below meth c H locs cells slots mc ms ls C hl hR hO hS hG h1 h2 h3 h4)
/-- fewer locals known -/
theorem aw_lv (ks' : List Nat) {lv' : List (Nat × Value)} (hk : lv_pick lv ks' = lv') (k : aw_w G M fr lo kc ks pc lv' st h Q) : aw_w G M fr lo kc ks pc lv st h Q := by
  intro p l e R s m args below meth c H locs cells slots mc ms ls C hl hR hO hS hG h1 h2 h3 h4
  exact k p l e R s m args below meth c H locs cells slots mc ms ls C (lv_sub hl ks' hk) hR hO hS hG h1 h2 h3 h4
/-- another end that follows -/
theorem aw_mono {Q' : aq_T} (hq : ∀ o h', Q' o h' → Q o h') (k : aw_w G M fr lo kc ks pc lv st h Q') : aw_w G M fr lo kc ks pc lv st h Q := by
  intro p l e R s m args below meth c H locs cells slots mc ms ls C hl hR hO hS hG h1 h2 h3 h4 T hT X
  obtain ⟨t, a1, o, b1, b2, h', L, c1, c2, c3, c4, c5⟩ := k p l e R s m args below meth c H locs cells slots mc ms ls C hl hR hO hS hG h1 h2 h3 h4 T hT X
  refine ⟨t, a1, o, b1, b2, h', L, c1, c2, c3, c4, ?_⟩
  rcases c5 with ⟨v, e1, e2⟩ | ⟨k9, ci, e1, e2, e3⟩
  · exact Or.inl ⟨v, e1, hq _ _ e2⟩
  · exact Or.inr ⟨k9, ci, e1, e2, hq _ _ e3⟩
/-- more room than needed -/
theorem aw_room {fr' lo' kc' ks' : Nat} (hf9 : fr' ≤ fr) (hl9 : lo' ≤ lo) (hc : kc' ≤ kc) (hs : ks' ≤ ks) (k : aw_w G M fr' lo' kc' ks' pc lv st h Q) : aw_w G M fr lo kc ks pc lv st h Q := by
  intro p l e R s m args below meth c H locs cells slots mc ms ls C hl hR hO hS hG h1 h2 h3 h4
  obtain ⟨x1, x2, x3, x4, x5, x6, x7, x8, x9, x10, x11, x12, x13⟩ := C
  exact k p l e R s m args below meth c H locs cells slots mc ms ls ⟨x1, x2, x3, x4, x5, x6, x7, x8, x9, x10, x11, Nat.le_trans hf9 x12, Nat.le_trans hl9 x13⟩ hl hR hO hS hG (by omega) (by omega) h3 h4
theorem aw_iconst {n : Int} {v : Int32} (hd : decode M.2.2.1 pc = .ok (.iconst n, 1)) (hv : Int32.ofInt n = v) (k : aw_w G M fr lo kc ks (pc + 1) lv (.int v :: st) h Q) : aw_w G M fr lo kc ks pc lv (st) h Q := aw_step (fun p l e R s m args below meth c H locs cells slots Z ls hx hb hl w => lv_iconst hx hb hd hv w) k
theorem aw_bipush {n : Int} {v : Int32} (hd : decode M.2.2.1 pc = .ok (.bipush n, 2)) (hv : (Int8.ofInt n).toInt32 = v) (k : aw_w G M fr lo kc ks (pc + 2) lv (.int v :: st) h Q) : aw_w G M fr lo kc ks pc lv (st) h Q := aw_step (fun p l e R s m args below meth c H locs cells slots Z ls hx hb hl w => lv_bipush hx hb hd hv w) k
theorem aw_sipush {n : Int} {v : Int32} (hd : decode M.2.2.1 pc = .ok (.sipush n, 3)) (hv : (Int16.ofInt n).toInt32 = v) (k : aw_w G M fr lo kc ks (pc + 3) lv (.int v :: st) h Q) : aw_w G M fr lo kc ks pc lv (st) h Q := aw_step (fun p l e R s m args below meth c H locs cells slots Z ls hx hb hl w => lv_sipush hx hb hd hv w) k
theorem aw_lconst {n : Fin 2} {v : Int64} (hd : decode M.2.2.1 pc = .ok (.lconst n, 1)) (hv : Int64.ofNat (n : Nat) = v) (k : aw_w G M fr lo kc ks (pc + 1) lv (.long v :: st) h Q) : aw_w G M fr lo kc ks pc lv (st) h Q := aw_step (fun p l e R s m args below meth c H locs cells slots Z ls hx hb hl w => lv_lconst hx hb hd hv w) k
theorem aw_null (hd : decode M.2.2.1 pc = .ok (.aconst_null, 1)) (k : aw_w G M fr lo kc ks (pc + 1) lv (.null :: st) h Q) : aw_w G M fr lo kc ks pc lv (st) h Q := aw_step (fun p l e R s m args below meth c H locs cells slots Z ls hx hb hl w => lv_null hx hb hd w) k
theorem aw_iload_n {n : Fin 4} {i : Nat} {x : Int32} (hd : decode M.2.2.1 pc = .ok (.iload_n n, 1)) (hi : (n : Nat) = i) (j : Nat) (hj : lv[j]? = some (i, .int x)) (k : aw_w G M fr lo kc ks (pc + 1) lv (.int x :: st) h Q) : aw_w G M fr lo kc ks pc lv (st) h Q := aw_step (fun p l e R s m args below meth c H locs cells slots Z ls hx hb hl w => lv_iload_n hx hb hd hi (lv_at hl j hj) w) k
theorem aw_iload {i : Nat} {x : Int32} (hd : decode M.2.2.1 pc = .ok (.iload i, 2)) (j : Nat) (hj : lv[j]? = some (i, .int x)) (k : aw_w G M fr lo kc ks (pc + 2) lv (.int x :: st) h Q) : aw_w G M fr lo kc ks pc lv (st) h Q := aw_step (fun p l e R s m args below meth c H locs cells slots Z ls hx hb hl w => lv_iload hx hb hd (lv_at hl j hj) w) k
theorem aw_lload_n {n : Fin 4} {i : Nat} {x : Int64} (hd : decode M.2.2.1 pc = .ok (.lload_n n, 1)) (hi : (n : Nat) = i) (j : Nat) (hj : lv[j]? = some (i, .long x)) (k : aw_w G M fr lo kc ks (pc + 1) lv (.long x :: st) h Q) : aw_w G M fr lo kc ks pc lv (st) h Q := aw_step (fun p l e R s m args below meth c H locs cells slots Z ls hx hb hl w => lv_lload_n hx hb hd hi (lv_at hl j hj) w) k
theorem aw_lload {i : Nat} {x : Int64} (hd : decode M.2.2.1 pc = .ok (.lload i, 2)) (j : Nat) (hj : lv[j]? = some (i, .long x)) (k : aw_w G M fr lo kc ks (pc + 2) lv (.long x :: st) h Q) : aw_w G M fr lo kc ks pc lv (st) h Q := aw_step (fun p l e R s m args below meth c H locs cells slots Z ls hx hb hl w => lv_lload hx hb hd (lv_at hl j hj) w) k
theorem aw_aload_n {n : Fin 4} {i : Nat} {x : Nat} (hd : decode M.2.2.1 pc = .ok (.aload_n n, 1)) (hi : (n : Nat) = i) (j : Nat) (hj : lv[j]? = some (i, .ref x)) (k : aw_w G M fr lo kc ks (pc + 1) lv (.ref x :: st) h Q) : aw_w G M fr lo kc ks pc lv (st) h Q := aw_step (fun p l e R s m args below meth c H locs cells slots Z ls hx hb hl w => lv_aload_n hx hb hd hi (lv_at hl j hj) w) k
theorem aw_aload {i : Nat} {x : Nat} (hd : decode M.2.2.1 pc = .ok (.aload i, 2)) (j : Nat) (hj : lv[j]? = some (i, .ref x)) (k : aw_w G M fr lo kc ks (pc + 2) lv (.ref x :: st) h Q) : aw_w G M fr lo kc ks pc lv (st) h Q := aw_step (fun p l e R s m args below meth c H locs cells slots Z ls hx hb hl w => lv_aload hx hb hd (lv_at hl j hj) w) k
theorem aw_istore_n {n : Fin 4} {i : Nat} {x : Int32} {lv' : List (Nat × Value)} (hd : decode M.2.2.1 pc = .ok (.istore_n n, 1)) (hi : (n : Nat) = i) (hn : i < M.2.2.2.1) (hl9 : (i, Value.int x) :: lv.filter (fun q => !(q.1 == i) && !(q.1 + 1 == i && q.2.category == 2)) = lv') (k : aw_w G M fr lo kc ks (pc + 1) lv' st h Q) : aw_w G M fr lo kc ks pc lv (.int x :: st) h Q := aw_stepS (fun p l e R s m args below meth c H locs cells slots Z ls hx hb hl w => lv_istore_n hx hb hd hi hl hn hl9 w) k
theorem aw_istore {i : Nat} {x : Int32} {lv' : List (Nat × Value)} (hd : decode M.2.2.1 pc = .ok (.istore i, 2)) (hn : i < M.2.2.2.1) (hl9 : (i, Value.int x) :: lv.filter (fun q => !(q.1 == i) && !(q.1 + 1 == i && q.2.category == 2)) = lv') (k : aw_w G M fr lo kc ks (pc + 2) lv' st h Q) : aw_w G M fr lo kc ks pc lv (.int x :: st) h Q := aw_stepS (fun p l e R s m args below meth c H locs cells slots Z ls hx hb hl w => lv_istore hx hb hd hl hn hl9 w) k
theorem aw_astore_n {n : Fin 4} {i : Nat} {x : Nat} {lv' : List (Nat × Value)} (hd : decode M.2.2.1 pc = .ok (.astore_n n, 1)) (hi : (n : Nat) = i) (hn : i < M.2.2.2.1) (hl9 : (i, Value.ref x) :: lv.filter (fun q => !(q.1 == i) && !(q.1 + 1 == i && q.2.category == 2)) = lv') (k : aw_w G M fr lo kc ks (pc + 1) lv' st h Q) : aw_w G M fr lo kc ks pc lv (.ref x :: st) h Q := aw_stepS (fun p l e R s m args below meth c H locs cells slots Z ls hx hb hl w => lv_astore_n hx hb hd hi hl hn hl9 w) k
theorem aw_astore {i : Nat} {x : Nat} {lv' : List (Nat × Value)} (hd : decode M.2.2.1 pc = .ok (.astore i, 2)) (hn : i < M.2.2.2.1) (hl9 : (i, Value.ref x) :: lv.filter (fun q => !(q.1 == i) && !(q.1 + 1 == i && q.2.category == 2)) = lv') (k : aw_w G M fr lo kc ks (pc + 2) lv' st h Q) : aw_w G M fr lo kc ks pc lv (.ref x :: st) h Q := aw_stepS (fun p l e R s m args below meth c H locs cells slots Z ls hx hb hl w => lv_astore hx hb hd hl hn hl9 w) k
theorem aw_iinc {i : Nat} {n : Int} {x v : Int32} {lv' : List (Nat × Value)} (hd : decode M.2.2.1 pc = .ok (.iinc i n, 3)) (j : Nat) (hj : lv[j]? = some (i, .int x)) (hv : x + Int32.ofInt n = v) (hn : i < M.2.2.2.1) (hl9 : (i, Value.int v) :: lv.filter (fun q => !(q.1 == i) && !(q.1 + 1 == i && q.2.category == 2)) = lv') (k : aw_w G M fr lo kc ks (pc + 3) lv' st h Q) : aw_w G M fr lo kc ks pc lv st h Q := aw_stepS (fun p l e R s m args below meth c H locs cells slots Z ls hx hb hl w => lv_iinc hx hb hd hl hj hv hn hl9 w) k
theorem aw_iadd {x y : Int32} (hd : decode M.2.2.1 pc = .ok (.iadd, 1)) (k : aw_w G M fr lo kc ks (pc + 1) lv (.int (x + y) :: st) h Q) : aw_w G M fr lo kc ks pc lv (.int y :: .int x :: st) h Q := aw_step (fun p l e R s m args below meth c H locs cells slots Z ls hx hb hl w => lv_iadd hx hb hd w) k
theorem aw_isub {x y : Int32} (hd : decode M.2.2.1 pc = .ok (.isub, 1)) (k : aw_w G M fr lo kc ks (pc + 1) lv (.int (x - y) :: st) h Q) : aw_w G M fr lo kc ks pc lv (.int y :: .int x :: st) h Q := aw_step (fun p l e R s m args below meth c H locs cells slots Z ls hx hb hl w => lv_isub hx hb hd w) k
theorem aw_imul {x y : Int32} (hd : decode M.2.2.1 pc = .ok (.imul, 1)) (k : aw_w G M fr lo kc ks (pc + 1) lv (.int (x * y) :: st) h Q) : aw_w G M fr lo kc ks pc lv (.int y :: .int x :: st) h Q := aw_step (fun p l e R s m args below meth c H locs cells slots Z ls hx hb hl w => lv_imul hx hb hd w) k
theorem aw_iand {x y : Int32} (hd : decode M.2.2.1 pc = .ok (.iand, 1)) (k : aw_w G M fr lo kc ks (pc + 1) lv (.int (x &&& y) :: st) h Q) : aw_w G M fr lo kc ks pc lv (.int y :: .int x :: st) h Q := aw_step (fun p l e R s m args below meth c H locs cells slots Z ls hx hb hl w => lv_iand hx hb hd w) k
theorem aw_ior {x y : Int32} (hd : decode M.2.2.1 pc = .ok (.ior, 1)) (k : aw_w G M fr lo kc ks (pc + 1) lv (.int (x ||| y) :: st) h Q) : aw_w G M fr lo kc ks pc lv (.int y :: .int x :: st) h Q := aw_step (fun p l e R s m args below meth c H locs cells slots Z ls hx hb hl w => lv_ior hx hb hd w) k
theorem aw_ixor {x y : Int32} (hd : decode M.2.2.1 pc = .ok (.ixor, 1)) (k : aw_w G M fr lo kc ks (pc + 1) lv (.int (x ^^^ y) :: st) h Q) : aw_w G M fr lo kc ks pc lv (.int y :: .int x :: st) h Q := aw_step (fun p l e R s m args below meth c H locs cells slots Z ls hx hb hl w => lv_ixor hx hb hd w) k
theorem aw_ishl {x y : Int32} (hd : decode M.2.2.1 pc = .ok (.ishl, 1)) (k : aw_w G M fr lo kc ks (pc + 1) lv (.int (x <<< (y &&& 31)) :: st) h Q) : aw_w G M fr lo kc ks pc lv (.int y :: .int x :: st) h Q := aw_step (fun p l e R s m args below meth c H locs cells slots Z ls hx hb hl w => lv_ishl hx hb hd w) k
theorem aw_ishr {x y : Int32} (hd : decode M.2.2.1 pc = .ok (.ishr, 1)) (k : aw_w G M fr lo kc ks (pc + 1) lv (.int (x >>> (y &&& 31)) :: st) h Q) : aw_w G M fr lo kc ks pc lv (.int y :: .int x :: st) h Q := aw_step (fun p l e R s m args below meth c H locs cells slots Z ls hx hb hl w => lv_ishr hx hb hd w) k
theorem aw_iushr {x y v : Int32} (hd : decode M.2.2.1 pc = .ok (.iushr, 1)) (hv : (x.toUInt32 >>> (y.toUInt32 &&& Int32.toUInt32 31)).toInt32 = v) (k : aw_w G M fr lo kc ks (pc + 1) lv (.int v :: st) h Q) : aw_w G M fr lo kc ks pc lv (.int y :: .int x :: st) h Q := aw_step (fun p l e R s m args below meth c H locs cells slots Z ls hx hb hl w => lv_iushr hx hb hd hv w) k
theorem aw_idiv {x y : Int32} (hd : decode M.2.2.1 pc = .ok (.idiv, 1)) (hne : ¬ y = 0) (k : aw_w G M fr lo kc ks (pc + 1) lv (.int (x / y) :: st) h Q) : aw_w G M fr lo kc ks pc lv (.int y :: .int x :: st) h Q := aw_step (fun p l e R s m args below meth c H locs cells slots Z ls hx hb hl w => lv_idiv hx hb hd hne w) k
theorem aw_irem {x y : Int32} (hd : decode M.2.2.1 pc = .ok (.irem, 1)) (hne : ¬ y = 0) (k : aw_w G M fr lo kc ks (pc + 1) lv (.int (x - x / y * y) :: st) h Q) : aw_w G M fr lo kc ks pc lv (.int y :: .int x :: st) h Q := aw_step (fun p l e R s m args below meth c H locs cells slots Z ls hx hb hl w => lv_irem hx hb hd hne w) k
theorem aw_i2l {x : Int32} {v : Int64} (hd : decode M.2.2.1 pc = .ok (.i2l, 1)) (hv : x.toInt64 = v) (k : aw_w G M fr lo kc ks (pc + 1) lv (.long v :: st) h Q) : aw_w G M fr lo kc ks pc lv (.int x :: st) h Q := aw_step (fun p l e R s m args below meth c H locs cells slots Z ls hx hb hl w => lv_i2l hx hb hd hv w) k
theorem aw_dup {va : Value} (hd : decode M.2.2.1 pc = .ok (.dup, 1)) (hva : va.category = 1) (k : aw_w G M fr lo kc ks (pc + 1) lv (va :: va :: st) h Q) : aw_w G M fr lo kc ks pc lv (va :: st) h Q := aw_step (fun p l e R s m args below meth c H locs cells slots Z ls hx hb hl w => lv_dup hx hb hd hva w) k
theorem aw_pop {va : Value} (hd : decode M.2.2.1 pc = .ok (.pop, 1)) (hva : va.category = 1) (k : aw_w G M fr lo kc ks (pc + 1) lv (st) h Q) : aw_w G M fr lo kc ks pc lv (va :: st) h Q := aw_step (fun p l e R s m args below meth c H locs cells slots Z ls hx hb hl w => lv_pop hx hb hd hva w) k
theorem aw_dup_x1 {va vb : Value} (hd : decode M.2.2.1 pc = .ok (.dup_x1, 1)) (hva : va.category = 1) (hvb : vb.category = 1) (k : aw_w G M fr lo kc ks (pc + 1) lv (va :: vb :: va :: st) h Q) : aw_w G M fr lo kc ks pc lv (va :: vb :: st) h Q := aw_step (fun p l e R s m args below meth c H locs cells slots Z ls hx hb hl w => lv_dup_x1 hx hb hd hva hvb w) k
theorem aw_dup_x2 {va vb vd : Value} (hd : decode M.2.2.1 pc = .ok (.dup_x2, 1)) (hva : va.category = 1) (hvb : vb.category = 1) (hvd : vd.category = 1) (k : aw_w G M fr lo kc ks (pc + 1) lv (va :: vb :: vd :: va :: st) h Q) : aw_w G M fr lo kc ks pc lv (va :: vb :: vd :: st) h Q := aw_step (fun p l e R s m args below meth c H locs cells slots Z ls hx hb hl w => lv_dup_x2 hx hb hd hva hvb hvd w) k
theorem aw_dup2 {va vb : Value} (hd : decode M.2.2.1 pc = .ok (.dup2, 1)) (hva : va.category = 1) (hvb : vb.category = 1) (k : aw_w G M fr lo kc ks (pc + 1) lv (va :: vb :: va :: vb :: st) h Q) : aw_w G M fr lo kc ks pc lv (va :: vb :: st) h Q := aw_step (fun p l e R s m args below meth c H locs cells slots Z ls hx hb hl w => lv_dup2_11 hx hb hd hva hvb w) k
theorem aw_goto {off : Int} {tgt : Nat} (hd : decode M.2.2.1 pc = .ok (.goto off, 3)) (ht : (pc : Int) + off = (tgt : Int)) (k : aw_w G M fr lo kc ks tgt lv st h Q) : aw_w G M fr lo kc ks pc lv st h Q := aw_step (fun p l e R s m args below meth c H locs cells slots Z ls hx hb hl w => lv_goto hx hb hd ht w) k
theorem aw_if_ne {x : Int32} {off : Int} {tgt : Nat} (hd : decode M.2.2.1 pc = .ok (.ifCond .ne off, 3)) (ht : (pc : Int) + off = (tgt : Int)) (k1 : ¬ x = 0 → aw_w G M fr lo kc ks tgt lv st h Q) (k2 : x = 0 → aw_w G M fr lo kc ks (pc + 3) lv st h Q) : aw_w G M fr lo kc ks pc lv (.int x :: st) h Q := aw_stepB (P := x = 0) (fun p l e R s m args below meth c H locs cells slots Z ls hx hb w1 w2 => lv_if_ne hx hb hd ht w2 w1) k2 k1
theorem aw_icmp_ne {x y : Int32} {off : Int} {tgt : Nat} (hd : decode M.2.2.1 pc = .ok (.if_icmp .ne off, 3)) (ht : (pc : Int) + off = (tgt : Int)) (k1 : ¬ x = y → aw_w G M fr lo kc ks tgt lv st h Q) (k2 : x = y → aw_w G M fr lo kc ks (pc + 3) lv st h Q) : aw_w G M fr lo kc ks pc lv (.int y :: .int x :: st) h Q := aw_stepB (P := x = y) (fun p l e R s m args below meth c H locs cells slots Z ls hx hb w1 w2 => lv_icmp_ne hx hb hd ht w2 w1) k2 k1
theorem aw_acmp_eq {rx ry : Option Nat} {off : Int} {tgt : Nat} (hd : decode M.2.2.1 pc = .ok (.if_acmp .eq off, 3)) (ht : (pc : Int) + off = (tgt : Int)) (k1 : rx = ry → aw_w G M fr lo kc ks tgt lv st h Q) (k2 : ¬ rx = ry → aw_w G M fr lo kc ks (pc + 3) lv st h Q) : aw_w G M fr lo kc ks pc lv (va_rf ry :: va_rf rx :: st) h Q := aw_stepB (fun p l e R s m args below meth c H locs cells slots Z ls hx hb w1 w2 => lv_acmp_eq hx hb hd ht w1 w2) k1 k2
theorem aw_acmp_ne {rx ry : Option Nat} {off : Int} {tgt : Nat} (hd : decode M.2.2.1 pc = .ok (.if_acmp .ne off, 3)) (ht : (pc : Int) + off = (tgt : Int)) (k1 : ¬ rx = ry → aw_w G M fr lo kc ks tgt lv st h Q) (k2 : rx = ry → aw_w G M fr lo kc ks (pc + 3) lv st h Q) : aw_w G M fr lo kc ks pc lv (va_rf ry :: va_rf rx :: st) h Q := aw_stepB (P := rx = ry) (fun p l e R s m args below meth c H locs cells slots Z ls hx hb w1 w2 => lv_acmp_ne hx hb hd ht w2 w1) k2 k1
theorem aw_lcmp {x y : Int64} (hd : decode M.2.2.1 pc = .ok (.lcmp, 1)) (k : aw_w G M fr lo kc ks (pc + 1) lv (.int (lg_cmp x y) :: st) h Q) : aw_w G M fr lo kc ks pc lv (.long y :: .long x :: st) h Q := aw_step (fun p l e R s m args below meth c H locs cells slots Z ls hx hb hl w => W.lcmp hx hb hd w) k
theorem aw_if_eq {x : Int32} {off : Int} {tgt : Nat} (hd : decode M.2.2.1 pc = .ok (.ifCond .eq off, 3)) (ht : (pc : Int) + off = (tgt : Int)) (k1 : (x = 0) → aw_w G M fr lo kc ks tgt lv st h Q) (k2 : ¬ (x = 0) → aw_w G M fr lo kc ks (pc + 3) lv st h Q) : aw_w G M fr lo kc ks pc lv (.int x :: st) h Q := aw_stepB (fun p l e R s m args below meth c H locs cells slots Z ls hx hb w1 w2 => lv_if_eq hx hb hd ht w1 w2) k1 k2
theorem aw_icmp_eq {x y : Int32} {off : Int} {tgt : Nat} (hd : decode M.2.2.1 pc = .ok (.if_icmp .eq off, 3)) (ht : (pc : Int) + off = (tgt : Int)) (k1 : (x = y) → aw_w G M fr lo kc ks tgt lv st h Q) (k2 : ¬ (x = y) → aw_w G M fr lo kc ks (pc + 3) lv st h Q) : aw_w G M fr lo kc ks pc lv (.int y :: .int x :: st) h Q := aw_stepB (fun p l e R s m args below meth c H locs cells slots Z ls hx hb w1 w2 => lv_icmp_eq hx hb hd ht w1 w2) k1 k2
theorem aw_if_lt {x : Int32} {off : Int} {tgt : Nat} (hd : decode M.2.2.1 pc = .ok (.ifCond .lt off, 3)) (ht : (pc : Int) + off = (tgt : Int)) (k1 : (x < 0) → aw_w G M fr lo kc ks tgt lv st h Q) (k2 : ¬ (x < 0) → aw_w G M fr lo kc ks (pc + 3) lv st h Q) : aw_w G M fr lo kc ks pc lv (.int x :: st) h Q := aw_stepB (fun p l e R s m args below meth c H locs cells slots Z ls hx hb w1 w2 => lv_if_lt hx hb hd ht w1 w2) k1 k2
theorem aw_icmp_lt {x y : Int32} {off : Int} {tgt : Nat} (hd : decode M.2.2.1 pc = .ok (.if_icmp .lt off, 3)) (ht : (pc : Int) + off = (tgt : Int)) (k1 : (x < y) → aw_w G M fr lo kc ks tgt lv st h Q) (k2 : ¬ (x < y) → aw_w G M fr lo kc ks (pc + 3) lv st h Q) : aw_w G M fr lo kc ks pc lv (.int y :: .int x :: st) h Q := aw_stepB (fun p l e R s m args below meth c H locs cells slots Z ls hx hb w1 w2 => lv_icmp_lt hx hb hd ht w1 w2) k1 k2
theorem aw_if_ge {x : Int32} {off : Int} {tgt : Nat} (hd : decode M.2.2.1 pc = .ok (.ifCond .ge off, 3)) (ht : (pc : Int) + off = (tgt : Int)) (k1 : (0 ≤ x) → aw_w G M fr lo kc ks tgt lv st h Q) (k2 : ¬ (0 ≤ x) → aw_w G M fr lo kc ks (pc + 3) lv st h Q) : aw_w G M fr lo kc ks pc lv (.int x :: st) h Q := aw_stepB (fun p l e R s m args below meth c H locs cells slots Z ls hx hb w1 w2 => lv_if_ge hx hb hd ht w1 w2) k1 k2
theorem aw_icmp_ge {x y : Int32} {off : Int} {tgt : Nat} (hd : decode M.2.2.1 pc = .ok (.if_icmp .ge off, 3)) (ht : (pc : Int) + off = (tgt : Int)) (k1 : (y ≤ x) → aw_w G M fr lo kc ks tgt lv st h Q) (k2 : ¬ (y ≤ x) → aw_w G M fr lo kc ks (pc + 3) lv st h Q) : aw_w G M fr lo kc ks pc lv (.int y :: .int x :: st) h Q := aw_stepB (fun p l e R s m args below meth c H locs cells slots Z ls hx hb w1 w2 => lv_icmp_ge hx hb hd ht w1 w2) k1 k2
theorem aw_if_gt {x : Int32} {off : Int} {tgt : Nat} (hd : decode M.2.2.1 pc = .ok (.ifCond .gt off, 3)) (ht : (pc : Int) + off = (tgt : Int)) (k1 : (0 < x) → aw_w G M fr lo kc ks tgt lv st h Q) (k2 : ¬ (0 < x) → aw_w G M fr lo kc ks (pc + 3) lv st h Q) : aw_w G M fr lo kc ks pc lv (.int x :: st) h Q := aw_stepB (fun p l e R s m args below meth c H locs cells slots Z ls hx hb w1 w2 => lv_if_gt hx hb hd ht w1 w2) k1 k2
theorem aw_icmp_gt {x y : Int32} {off : Int} {tgt : Nat} (hd : decode M.2.2.1 pc = .ok (.if_icmp .gt off, 3)) (ht : (pc : Int) + off = (tgt : Int)) (k1 : (y < x) → aw_w G M fr lo kc ks tgt lv st h Q) (k2 : ¬ (y < x) → aw_w G M fr lo kc ks (pc + 3) lv st h Q) : aw_w G M fr lo kc ks pc lv (.int y :: .int x :: st) h Q := aw_stepB (fun p l e R s m args below meth c H locs cells slots Z ls hx hb w1 w2 => lv_icmp_gt hx hb hd ht w1 w2) k1 k2
theorem aw_if_le {x : Int32} {off : Int} {tgt : Nat} (hd : decode M.2.2.1 pc = .ok (.ifCond .le off, 3)) (ht : (pc : Int) + off = (tgt : Int)) (k1 : (x ≤ 0) → aw_w G M fr lo kc ks tgt lv st h Q) (k2 : ¬ (x ≤ 0) → aw_w G M fr lo kc ks (pc + 3) lv st h Q) : aw_w G M fr lo kc ks pc lv (.int x :: st) h Q := aw_stepB (fun p l e R s m args below meth c H locs cells slots Z ls hx hb w1 w2 => lv_if_le hx hb hd ht w1 w2) k1 k2
theorem aw_icmp_le {x y : Int32} {off : Int} {tgt : Nat} (hd : decode M.2.2.1 pc = .ok (.if_icmp .le off, 3)) (ht : (pc : Int) + off = (tgt : Int)) (k1 : (x ≤ y) → aw_w G M fr lo kc ks tgt lv st h Q) (k2 : ¬ (x ≤ y) → aw_w G M fr lo kc ks (pc + 3) lv st h Q) : aw_w G M fr lo kc ks pc lv (.int y :: .int x :: st) h Q := aw_stepB (fun p l e R s m args below meth c H locs cells slots Z ls hx hb w1 w2 => lv_icmp_le hx hb hd ht w1 w2) k1 k2
theorem aw_ifnull {x : Nat} {off : Int} (hd : decode M.2.2.1 pc = .ok (.ifnull off, 3)) (k : aw_w G M fr lo kc ks (pc + 3) lv st h Q) : aw_w G M fr lo kc ks pc lv (.ref x :: st) h Q := aw_step (fun p l e R s m args below meth c H locs cells slots Z ls hx hb hl w => lv_ifnull hx hb hd w) k
theorem aw_ifnonnull {x : Nat} {off : Int} {tgt : Nat} (hd : decode M.2.2.1 pc = .ok (.ifnonnull off, 3)) (ht : (pc : Int) + off = (tgt : Int)) (k : aw_w G M fr lo kc ks tgt lv st h Q) : aw_w G M fr lo kc ks pc lv (.ref x :: st) h Q := aw_step (fun p l e R s m args below meth c H locs cells slots Z ls hx hb hl w => lv_ifnonnull hx hb hd ht w) k
theorem aw_tableIn {dflt lw9 hi : Int} {offs : Array Int} {len : Nat} {x : Int32} {off : Int} {tgt : Nat} (hd : decode M.2.2.1 pc = .ok (.tableswitch dflt lw9 hi offs, len)) (h1 : ¬ x.toInt < lw9) (h2 : ¬ hi < x.toInt) (ho : offs[(x.toInt - lw9).toNat]? = some off) (ht : (pc : Int) + off = (tgt : Int)) (k : aw_w G M fr lo kc ks tgt lv st h Q) : aw_w G M fr lo kc ks pc lv (.int x :: st) h Q := aw_step (fun p l e R s m args below meth c H locs cells slots Z ls hx hb hl w => lv_tableIn hx hb hd h1 h2 ho ht w) k
theorem aw_tableOut {dflt lw9 hi : Int} {offs : Array Int} {len : Nat} {x : Int32} {tgt : Nat} (hd : decode M.2.2.1 pc = .ok (.tableswitch dflt lw9 hi offs, len)) (h9 : x.toInt < lw9 ∨ hi < x.toInt) (ht : (pc : Int) + dflt = (tgt : Int)) (k : aw_w G M fr lo kc ks tgt lv st h Q) : aw_w G M fr lo kc ks pc lv (.int x :: st) h Q := aw_step (fun p l e R s m args below meth c H locs cells slots Z ls hx hb hl w => lv_tableOut hx hb hd h9 ht w) k
theorem aw_topi {x : Int32} (k : ∀ y : Int32, y = x → aw_w G M fr lo kc ks pc lv (.int y :: st) h Q) : aw_w G M fr lo kc ks pc lv (.int x :: st) h Q := k x rfl
theorem aw_top {x y : Int32} (e : x = y) (k : aw_w G M fr lo kc ks pc lv (.int y :: st) h Q) : aw_w G M fr lo kc ks pc lv (.int x :: st) h Q := e ▸ k
theorem aw_h {h' : List va_E} (e : h = h') (k : aw_w G M fr lo kc ks pc lv st h' Q) : aw_w G M fr lo kc ks pc lv st h Q := e ▸ k
end AWP
end
section
/-! ===== the abstract walk: fields, arrays, new cells, returns ===== -/
def aw_fl (own : String) (idx ci fi : Nat) : Prop := ∃ (r : vw_C) (ref : String), am_cl[ci]? = some r ∧ fi < r.2.2 ∧ Cond.fieldLink own idx ref (r.2.1 fi).2.1 (r.2.1 fi).2.2.1 ∈ aw_T ∧ (ref = (r.2.1 fi).1 ∨ Cond.sameField ref (r.2.1 fi).1 (r.2.1 fi).2.1 (r.2.1 fi).2.2.1 ∈ aw_T)
def aw_nf (ci fi : Nat) : Prop := ∀ r, am_cl[ci]? = some r → (r.2.1 fi).2.2.2 = false
def aw_ff (own : String) (ci fi : Nat) : Prop := ∀ r, am_cl[ci]? = some r → (r.2.1 fi).2.2.2 = true ∧ (r.2.1 fi).1 = own
def aw_nl (own : String) (idx ci N : Nat) : Prop := ∃ r : vw_C, am_cl[ci]? = some r ∧ r.2.2 = N ∧ Cond.classLink own idx r.1 ∈ aw_T ∧ Cond.instantiable r.1 r.2.2 ∈ aw_T ∧ Cond.initialized r.1 ∈ aw_T
theorem aw_Sp {A : Nat → Prop} {H0 H H1 : Heap} {locs : List Loc} (hS : va_S A H0 H locs) (hz : H.size ≤ H1.size) (ho : ∀ q : Nat, q < H.size → H1[q]? = H[q]?) : va_S A H0 H1 locs :=
  ⟨Nat.le_trans hS.1 hz, fun x a b => (ho x (Nat.lt_of_lt_of_le a hS.1)).trans (hS.2.1 x a b), hS.2.2⟩
section AWH
variable {G : ag_T} {M : am_M} {fr lo kc ks pc : Nat} {lv : List (Nat × Value)} {st : List Value} {h : List va_E} {Q : aq_T}
theorem aw_getf (i ci fi : Nat) {idx : Nat} {fs : List Value} {v : Value} (hd : decode M.2.2.1 pc = .ok (.getfield idx, 3)) (hF : aw_fl M.1 idx ci fi) (hh : h[i]? = some (.inr (ci, fs))) (hv : fs[fi]? = some v)
    (k : aw_w G M fr lo kc ks (pc + 3) lv (v :: st) h Q) : aw_w G M fr lo kc ks pc lv (.ref (G.1 + i) :: st) h Q := by
  intro p l e R s m args below meth c H locs cells slots mc ms ls C hl hR hO hS hG h1 h2 h3 h4
  obtain ⟨hx, hb, hml, hown, hts, hret, htab, hlk, hnm, hst9, hK, hfr, hlo⟩ := id C
  obtain ⟨⟨C0, T0, N0⟩, ref, hc, hk, hlink, hsame⟩ := hF
  refine va_get (D := G.2.1) (cl := am_cl) (tys := ag_ty G) (ws := ah_ws G 0 h) (C := C0) (T := T0) (N := N0) hx hb hts (am_ok ci _ hc).1 hown hK.1 hR.1 i (ah_at hh) hc fi hk (hts _ hlink) (fun x9 h9 => ?_) hv hd
    (k p l e R s m args below meth c H locs cells slots mc ms ls C hl hR hO hS hG h1 h2 h3 h4)
  rcases hsame with e9 | e9
  · rw [e9]; exact h9
  · exact u_same (hts _ e9) x9 h9
theorem aw_putf (i ci fi : Nat) {idx : Nat} {fs : List Value} {v : Value} (hd : decode M.2.2.1 pc = .ok (.putfield idx, 3)) (hF : aw_fl M.1 idx ci fi) (hfin : aw_nf ci fi) (hh : h[i]? = some (.inr (ci, fs))) (hn : narrow (am_ty ci fi) v = v) (hfit : fits (am_ty ci fi) v = true) (hl9 : fi < fs.length)
    (k : aw_w G M fr lo kc ks (pc + 3) lv st (h.set i (.inr (ci, fs.set fi v))) Q) : aw_w G M fr lo kc ks pc lv (v :: .ref (G.1 + i) :: st) h Q := by
  intro p l e R s m args below meth c H locs cells slots mc ms ls C hl hR hO hS hG h1 h2 h3 h4
  obtain ⟨hx, hb, hml, hown, hts, hret, htab, hlk, hnm, hst9, hK, hfr, hlo⟩ := id C
  obtain ⟨⟨C0, T0, N0⟩, ref, hc, hk, hlink, hsame⟩ := hF
  obtain ⟨ok1, ok2, ok3⟩ := am_ok ci _ hc
  have hap := va_apart (own := M.1) hts ok1 (am_ty ci) ok2 ok3 hK.1 hc
  obtain ⟨r, e1, cell, q1, q2, q3, q4⟩ := hR.cell hh
  have hr : r = (C0, T0, N0) := Option.some.inj (e1.symm.trans hc)
  subst hr
  obtain ⟨hS1, hfc, kC, hkC, hkind⟩ := hK.1.1 ci _ hc
  obtain ⟨cf, kf, fi9, f, hi, hsl⟩ := hS1 fi hk
  have hlay := hts _ (ok1 _ (u_in_lay hk))
  unfold u_lay at hlay
  rw [if_neg (by rw [hfin _ hc]; decide)] at hlay
  have hst0 := (u_facts hfc hkC (u_lays hts ok1 hk) hi).1
  have h6 := u_store hfc hkC hkind hlay hi (ok2 fi hk) hn hfit
  have hsm : s.fieldFound? ref (T0 fi).2.1 (T0 fi).2.2.1 = some (cf, kf, fi9, f) := by
    rcases hsame with e9 | e9
    · rw [e9]; exact hi
    · exact u_same (hts _ e9) _ hi
  refine W.putK hx hb (f := f) ⟨hown, hts _ hlink, ⟨_, _, _, hsm⟩, hst0⟩ (by rw [q2]; exact h6) q1 q3 (by rw [hsl]; exact k2_hasslot (q4 fi hk)) rfl rfl hd fun H' e1 e2 e3 => ?_
  rw [hsl] at e1 ⊢
  exact k p l e R s m args below meth c H' _ cells slots mc ms ls C hl (hR.set hh e2 e3 ⟨_, hc, t_OB.to (V := updV (vp_V fs) fi v) ⟨_, e1, q2, q3, t_set q4 hap hk v⟩ (fun j _ => vp_updV_set hl9 v j)⟩) hO (hS.put e2 e3 (Nat.le_add_right _ _)) hG h1 h2 h3 h4
theorem aw_putF (i ci fi : Nat) {idx : Nat} {fs : List Value} {v : Value} (hd : decode M.2.2.1 pc = .ok (.putfield idx, 3)) (hF : aw_fl M.1 idx ci fi) (hfin : aw_ff M.1 ci fi) (hin : M.2.1.name = "<init>") (hh : h[i]? = some (.inr (ci, fs))) (hn : narrow (am_ty ci fi) v = v) (hfit : fits (am_ty ci fi) v = true) (hl9 : fi < fs.length)
    (k : aw_w G M fr lo kc ks (pc + 3) lv st (h.set i (.inr (ci, fs.set fi v))) Q) : aw_w G M fr lo kc ks pc lv (v :: .ref (G.1 + i) :: st) h Q := by
  intro p l e R s m args below meth c H locs cells slots mc ms ls C hl hR hO hS hG h1 h2 h3 h4
  obtain ⟨hx, hb, hml, hown, hts, hret, htab, hlk, hnm, hst9, hK, hfr, hlo⟩ := id C
  obtain ⟨⟨C0, T0, N0⟩, ref, hc, hk, hlink, hsame⟩ := hF
  obtain ⟨ok1, ok2, ok3⟩ := am_ok ci _ hc
  have hap := va_apart (own := M.1) hts ok1 (am_ty ci) ok2 ok3 hK.1 hc
  obtain ⟨r, e1, cell, q1, q2, q3, q4⟩ := hR.cell hh
  have hr : r = (C0, T0, N0) := Option.some.inj (e1.symm.trans hc)
  subst hr
  obtain ⟨hS1, hfc, kC, hkC, hkind⟩ := hK.1.1 ci _ hc
  obtain ⟨cf, kf, fi9, f, hi, hsl⟩ := hS1 fi hk
  have hlay := hts _ (ok1 _ (u_in_lay hk))
  unfold u_lay at hlay
  rw [if_pos (hfin _ hc).1] at hlay
  have hst0 := (u_facts hfc hkC (u_lays hts ok1 hk) hi).1
  have hcf : m.cls = cf := by
    obtain ⟨_, _, c', _, _, _, -, -, hf', -, -, -, hown2, -⟩ := Cond.laysFinal_spec hlay
    have e1 : c' = cf := by have := hi.symm.trans hf'; simp at this; exact this.1.symm
    have e4 : (T0 fi).1 = M.1 := (hfin _ hc).2
    rw [e4] at hown2
    rw [← e1]; exact Option.some.inj (hown.symm.trans hown2)
  have h6 := u_fits hfc hkC hkind (Or.inr hlay) hi (ok2 fi hk) hn hfit
  have hsm : s.fieldFound? ref (T0 fi).2.1 (T0 fi).2.2.1 = some (cf, kf, fi9, f) := by
    rcases hsame with e9 | e9
    · rw [e9]; exact hi
    · exact u_same (hts _ e9) _ hi
  refine W.putFinK hx hb hown (hts _ hlink) hsm hst0 hcf (hnm.trans hin) (by rw [q2]; exact h6) q1 q3 (by rw [hsl]; exact k2_hasslot (q4 fi hk)) rfl rfl hd fun H' e1 e2 e3 => ?_
  rw [hsl] at e1 ⊢
  exact k p l e R s m args below meth c H' _ cells slots mc ms ls C hl (hR.set hh e2 e3 ⟨_, hc, t_OB.to (V := updV (vp_V fs) fi v) ⟨_, e1, q2, q3, t_set q4 hap hk v⟩ (fun j _ => vp_updV_set hl9 v j)⟩) hO (hS.put e2 e3 (Nat.le_add_right _ _)) hG h1 h2 h3 h4
theorem aw_new (ci N : Nat) {idx kc' ks' : Nat} {fs : List Value} (hd : decode M.2.2.1 pc = .ok (.new idx, 3)) (hN : aw_nl M.1 idx ci N) (hfs : ∀ j, j < N → defaultValue (am_ty ci j) = vp_V fs j) (hk1 : kc = kc' + 1) (hk2 : ks = ks' + N)
    (k : aw_w G M fr lo kc' ks' (pc + 3) lv (.ref (G.1 + h.length) :: st) (h ++ [.inr (ci, fs)]) Q) : aw_w G M fr lo kc ks pc lv st h Q := by
  intro p l e R s m args below meth c H locs cells slots mc ms ls C hl hR hO hS hG h1 h2 h3 h4
  obtain ⟨hx, hb, hml, hown, hts, hret, htab, hlk, hnm, hst9, hK, hfr, hlo⟩ := id C
  obtain ⟨⟨C0, T0, N0⟩, hc, hN0, w1, w2, w3⟩ := hN
  have hN1 : N0 = N := hN0
  subst hN1
  obtain ⟨ok1, ok2, ok3⟩ := am_ok ci _ hc
  have hKn := hK.1.1 ci _ hc
  refine W.newcK hx hb hown (hts _ w1) (hts _ w2) (hts _ w3) rfl hd (by omega) (by have hz : (C0, T0, N0).2.2 = N0 := rfl; omega) hKn.2.1 hR.2 fun H' kC hkC e1 z1 o1 => ?_
  refine k p l e R s m args below meth c H' locs (cells + 1) (slots + N0) mc ms ls C hl (hR.push (by rw [z1, hR.2]) (fun q hq => o1 q (by rw [← hR.2]; exact hq)) ⟨_, hc, (u_born (am_ty ci) hts ok1 hKn hkC e1 ok2).to hfs⟩) hO (aw_Sp hS (by rw [z1, hR.2]; exact Nat.le_succ _) (fun q hq => o1 q (by rw [← hR.2]; exact hq))) hG (by omega) (by omega) h3 h4
theorem aw_iald (i : Nat) {n : Nat} {f : Nat → Int32} {j : Int32} (hd : decode M.2.2.1 pc = .ok (.iaload, 1)) (hh : h[i]? = some (.inl (G.2.2.1 0, n, .inl f))) (hin : vp_in j n)
    (k : aw_w G M fr lo kc ks (pc + 1) lv (.int (f j.toNatClampNeg) :: st) h Q) : aw_w G M fr lo kc ks pc lv (.int j :: .ref (G.1 + i) :: st) h Q := by
  intro p l e R s m args below meth c H locs cells slots mc ms ls C hl hR hO hS hG h1 h2 h3 h4
  obtain ⟨hx, hb, hml, hown, hts, hret, htab, hlk, hnm, hst9, hK, hfr, hlo⟩ := id C
  exact va_iald hx hb hK.1 hR.1 i 0 (ah_at hh) rfl hin hd (k p l e R s m args below meth c H locs cells slots mc ms ls C hl hR hO hS hG h1 h2 h3 h4)
theorem aw_zald (i : Nat) {n : Nat} {f : Nat → Int32} {j : Int32} (hd : decode M.2.2.1 pc = .ok (.baload, 1)) (hh : h[i]? = some (.inl (G.2.2.1 1, n, .inl f))) (hin : vp_in j n)
    (k : aw_w G M fr lo kc ks (pc + 1) lv (.int (f j.toNatClampNeg) :: st) h Q) : aw_w G M fr lo kc ks pc lv (.int j :: .ref (G.1 + i) :: st) h Q := by
  intro p l e R s m args below meth c H locs cells slots mc ms ls C hl hR hO hS hG h1 h2 h3 h4
  obtain ⟨hx, hb, hml, hown, hts, hret, htab, hlk, hnm, hst9, hK, hfr, hlo⟩ := id C
  exact va_zald hx hb hK.1 hR.1 i 1 (ah_at hh) rfl hin hd (k p l e R s m args below meth c H locs cells slots mc ms ls C hl hR hO hS hG h1 h2 h3 h4)
theorem aw_lald (i : Nat) {n : Nat} {f : Nat → Int64} {j : Int32} (hd : decode M.2.2.1 pc = .ok (.laload, 1)) (hh : h[i]? = some (.inl (G.2.2.1 2, n, .inr (.inl f)))) (hin : vp_in j n)
    (k : aw_w G M fr lo kc ks (pc + 1) lv (.long (f j.toNatClampNeg) :: st) h Q) : aw_w G M fr lo kc ks pc lv (.int j :: .ref (G.1 + i) :: st) h Q := by
  intro p l e R s m args below meth c H locs cells slots mc ms ls C hl hR hO hS hG h1 h2 h3 h4
  obtain ⟨hx, hb, hml, hown, hts, hret, htab, hlk, hnm, hst9, hK, hfr, hlo⟩ := id C
  exact va_lald hx hb hK.1 hR.1 i 2 (ah_at hh) rfl hin hd (k p l e R s m args below meth c H locs cells slots mc ms ls C hl hR hO hS hG h1 h2 h3 h4)
theorem aw_aald (i : Nat) {n : Nat} {f : Nat → Option Nat} {j : Int32} (hd : decode M.2.2.1 pc = .ok (.aaload, 1)) (hh : h[i]? = some (.inl (G.2.2.1 3, n, .inr (.inr (.inr (.inr f)))))) (hin : vp_in j n)
    (k : aw_w G M fr lo kc ks (pc + 1) lv (va_rf (f j.toNatClampNeg) :: st) h Q) : aw_w G M fr lo kc ks pc lv (.int j :: .ref (G.1 + i) :: st) h Q := by
  intro p l e R s m args below meth c H locs cells slots mc ms ls C hl hR hO hS hG h1 h2 h3 h4
  obtain ⟨hx, hb, hml, hown, hts, hret, htab, hlk, hnm, hst9, hK, hfr, hlo⟩ := id C
  exact va_aldq hx hb hK.1 hR.1 i 3 (ah_at hh) rfl hin hd (k p l e R s m args below meth c H locs cells slots mc ms ls C hl hR hO hS hG h1 h2 h3 h4)
theorem aw_alen (i t : Nat) {cA : ClassId} {x : vp_A} {ty : FieldType} {v : Int32} (hd : decode M.2.2.1 pc = .ok (.arraylength, 1)) (hh : h[i]? = some (.inl (cA, x))) (ht : (ag_ty G)[t]? = some (cA, ty)) (hv : Int32.ofNat x.1 = v)
    (k : aw_w G M fr lo kc ks (pc + 1) lv (.int v :: st) h Q) : aw_w G M fr lo kc ks pc lv (.ref (G.1 + i) :: st) h Q := by
  intro p l e R s m args below meth c H locs cells slots mc ms ls C hl hR hO hS hG h1 h2 h3 h4
  obtain ⟨hx, hb, hml, hown, hts, hret, htab, hlk, hnm, hst9, hK, hfr, hlo⟩ := id C
  exact va_alen hx hb hK.1 hR.1 i t (ah_at hh) ht hv hd (k p l e R s m args below meth c H locs cells slots mc ms ls C hl hR hO hS hG h1 h2 h3 h4)
theorem aw_iast (i : Nat) {n : Nat} {f : Nat → Int32} {j x : Int32} (hd : decode M.2.2.1 pc = .ok (.iastore, 1)) (hh : h[i]? = some (.inl (G.2.2.1 0, n, .inl f))) (hin : vp_in j n)
    (k : aw_w G M fr lo kc ks (pc + 1) lv st (h.set i (.inl (G.2.2.1 0, n, .inl (upd f j.toNatClampNeg x)))) Q) : aw_w G M fr lo kc ks pc lv (.int x :: .int j :: .ref (G.1 + i) :: st) h Q := by
  intro p l e R s m args below meth c H locs cells slots mc ms ls C hl hR hO hS hG h1 h2 h3 h4
  obtain ⟨hx, hb, hml, hown, hts, hret, htab, hlk, hnm, hst9, hK, hfr, hlo⟩ := id C
  refine W.iast hx hb (hR.cell hh) ((hK.1.2 0 _ rfl).1 n (fun j => .int (f j))) (fun q => by cases q) (by show ¬ (j < 0 ∨ (arrV _ _ _).slots.size ≤ _); rw [arrV_size]; exact hin) rfl rfl hd fun H1 e1 z oq => ?_
  refine k p l e R s m args below meth c H1 _ cells slots mc ms ls C hl (hR.set hh z oq ?_) hO (hS.put z oq (Nat.le_add_right _ _)) hG h1 h2 h3 h4
  show H1[G.1 + i]? = some (vp_cell _ _)
  rw [e1, vp_cell_i, vp_cell_i, arrV_store]
  congr 2
  funext q
  by_cases hq : q = j.toNatClampNeg
  · subst hq
    simp [updV, upd]
  · simp [updV, upd, hq]
theorem aw_zast (i : Nat) {n : Nat} {f : Nat → Int32} {j x : Int32} (hd : decode M.2.2.1 pc = .ok (.bastore, 1)) (hh : h[i]? = some (.inl (G.2.2.1 1, n, .inl f))) (hin : vp_in j n)
    (k : aw_w G M fr lo kc ks (pc + 1) lv st (h.set i (.inl (G.2.2.1 1, n, .inl (upd f j.toNatClampNeg (vp_nar .boolean x))))) Q) : aw_w G M fr lo kc ks pc lv (.int x :: .int j :: .ref (G.1 + i) :: st) h Q := by
  intro p l e R s m args below meth c H locs cells slots mc ms ls C hl hR hO hS hG h1 h2 h3 h4
  obtain ⟨hx, hb, hml, hown, hts, hret, htab, hlk, hnm, hst9, hK, hfr, hlo⟩ := id C
  refine W.zast hx hb (hR.cell hh) ((hK.1.2 1 _ rfl).1 n (fun j => .int (f j))) (fun q => by cases q) (by show ¬ (j < 0 ∨ (arrV _ _ _).slots.size ≤ _); rw [arrV_size]; exact hin) rfl rfl hd fun H1 e1 z oq => ?_
  refine k p l e R s m args below meth c H1 _ cells slots mc ms ls C hl (hR.set hh z oq ?_) hO (hS.put z oq (Nat.le_add_right _ _)) hG h1 h2 h3 h4
  show H1[G.1 + i]? = some (vp_cell _ _)
  rw [e1, vp_cell_i, vp_cell_i, arrV_store]
  congr 2
  funext q
  by_cases hq : q = j.toNatClampNeg
  · subst hq
    simp [updV, upd, vp_nar]
    try rfl
  · simp [updV, upd, hq]
theorem aw_last (i : Nat) {n : Nat} {f : Nat → Int64} {j : Int32} {x : Int64} (hd : decode M.2.2.1 pc = .ok (.lastore, 1)) (hh : h[i]? = some (.inl (G.2.2.1 2, n, .inr (.inl f)))) (hin : vp_in j n)
    (k : aw_w G M fr lo kc ks (pc + 1) lv st (h.set i (.inl (G.2.2.1 2, n, .inr (.inl (vp_updL f j.toNatClampNeg x))))) Q) : aw_w G M fr lo kc ks pc lv (.long x :: .int j :: .ref (G.1 + i) :: st) h Q := by
  intro p l e R s m args below meth c H locs cells slots mc ms ls C hl hR hO hS hG h1 h2 h3 h4
  obtain ⟨hx, hb, hml, hown, hts, hret, htab, hlk, hnm, hst9, hK, hfr, hlo⟩ := id C
  refine W.last hx hb (hR.cell hh) ((hK.1.2 2 _ rfl).1 n (fun j => .long (f j))) (fun q => by cases q) (by show ¬ (j < 0 ∨ (arrV _ _ _).slots.size ≤ _); rw [arrV_size]; exact hin) rfl rfl hd fun H1 e1 z oq => ?_
  refine k p l e R s m args below meth c H1 _ cells slots mc ms ls C hl (hR.set hh z oq ?_) hO (hS.put z oq (Nat.le_add_right _ _)) hG h1 h2 h3 h4
  show H1[G.1 + i]? = some (vp_cell _ _)
  rw [e1, vp_cell_l, vp_cell_l, arrV_store]
  congr 2
  funext q
  by_cases hq : q = j.toNatClampNeg
  · subst hq
    simp [updV, vp_updL]
  · simp [updV, vp_updL, hq]
theorem aw_newi {n : Int32} {N kc' ks' : Nat} (hd : decode M.2.2.1 pc = .ok (.newarray .int, 2)) (hw : Cond.arrayClass .int ∈ aw_T) (hn : ¬ n < 0) (hN : n.toNatClampNeg = N) (hb9 : N ≤ 100000) (hk1 : kc = kc' + 1) (hk2 : ks = ks' + N)
    (k : aw_w G M fr lo kc' ks' (pc + 2) lv (.ref (G.1 + h.length) :: st) (h ++ [.inl (G.2.2.1 0, N, .inl (fun _ => 0))]) Q) : aw_w G M fr lo kc ks pc lv (.int n :: st) h Q := by
  intro p l e R s m args below meth c H locs cells slots mc ms ls C hl hR hO hS hG h1 h2 h3 h4
  obtain ⟨hx, hb, hml, hown, hts, hret, htab, hlk, hnm, hst9, hK, hfr, hlo⟩ := id C
  refine va_newaK (atype := .int) hx hb (hts _ hw) rfl hd rfl hn hN (by show N * 4 ≤ _; omega) (by omega) (by omega) hR.2 fun H' cA e1 z1 o1 _ hf9 => ?_
  have hcA : cA = G.2.2.1 0 := Option.some.inj (hf9.symm.trans (hK.1.2 0 _ rfl).2)
  subst hcA
  exact k p l e R s m args below meth c H' locs (cells + 1) (slots + N) mc ms ls C hl (hR.push (by rw [z1, hR.2]) (fun q hq => o1 q (by rw [← hR.2]; exact hq)) e1) hO (aw_Sp hS (by rw [z1, hR.2]; exact Nat.le_succ _) (fun q hq => o1 q (by rw [← hR.2]; exact hq))) hG (by omega) (by omega) h3 h4
theorem aw_newz {n : Int32} {N kc' ks' : Nat} (hd : decode M.2.2.1 pc = .ok (.newarray .boolean, 2)) (hw : Cond.arrayClass .boolean ∈ aw_T) (hn : ¬ n < 0) (hN : n.toNatClampNeg = N) (hb9 : N ≤ 100000) (hk1 : kc = kc' + 1) (hk2 : ks = ks' + N)
    (k : aw_w G M fr lo kc' ks' (pc + 2) lv (.ref (G.1 + h.length) :: st) (h ++ [.inl (G.2.2.1 1, N, .inl (fun _ => 0))]) Q) : aw_w G M fr lo kc ks pc lv (.int n :: st) h Q := by
  intro p l e R s m args below meth c H locs cells slots mc ms ls C hl hR hO hS hG h1 h2 h3 h4
  obtain ⟨hx, hb, hml, hown, hts, hret, htab, hlk, hnm, hst9, hK, hfr, hlo⟩ := id C
  refine va_newaK (atype := .boolean) hx hb (hts _ hw) rfl hd rfl hn hN (by show N * 1 ≤ _; omega) (by omega) (by omega) hR.2 fun H' cA e1 z1 o1 _ hf9 => ?_
  have hcA : cA = G.2.2.1 1 := Option.some.inj (hf9.symm.trans (hK.1.2 1 _ rfl).2)
  subst hcA
  exact k p l e R s m args below meth c H' locs (cells + 1) (slots + N) mc ms ls C hl (hR.push (by rw [z1, hR.2]) (fun q hq => o1 q (by rw [← hR.2]; exact hq)) e1) hO (aw_Sp hS (by rw [z1, hR.2]; exact Nat.le_succ _) (fun q hq => o1 q (by rw [← hR.2]; exact hq))) hG (by omega) (by omega) h3 h4
theorem aw_newl {n : Int32} {N kc' ks' : Nat} (hd : decode M.2.2.1 pc = .ok (.newarray .long, 2)) (hw : Cond.arrayClass .long ∈ aw_T) (hn : ¬ n < 0) (hN : n.toNatClampNeg = N) (hb9 : N ≤ 100000) (hk1 : kc = kc' + 1) (hk2 : ks = ks' + N)
    (k : aw_w G M fr lo kc' ks' (pc + 2) lv (.ref (G.1 + h.length) :: st) (h ++ [.inl (G.2.2.1 2, N, .inr (.inl (fun _ => 0)))]) Q) : aw_w G M fr lo kc ks pc lv (.int n :: st) h Q := by
  intro p l e R s m args below meth c H locs cells slots mc ms ls C hl hR hO hS hG h1 h2 h3 h4
  obtain ⟨hx, hb, hml, hown, hts, hret, htab, hlk, hnm, hst9, hK, hfr, hlo⟩ := id C
  refine va_newaK (atype := .long) hx hb (hts _ hw) rfl hd rfl hn hN (by show N * 8 ≤ _; omega) (by omega) (by omega) hR.2 fun H' cA e1 z1 o1 _ hf9 => ?_
  have hcA : cA = G.2.2.1 2 := Option.some.inj (hf9.symm.trans (hK.1.2 2 _ rfl).2)
  subst hcA
  exact k p l e R s m args below meth c H' locs (cells + 1) (slots + N) mc ms ls C hl (hR.push (by rw [z1, hR.2]) (fun q hq => o1 q (by rw [← hR.2]; exact hq)) e1) hO (aw_Sp hS (by rw [z1, hR.2]; exact Nat.le_succ _) (fun q hq => o1 q (by rw [← hR.2]; exact hq))) hG (by omega) (by omega) h3 h4
/-- the four ends by a return -/
theorem aw_iret {v : Int32} (hd : decode M.2.2.1 pc = .ok (.ireturn, 1)) (hr9 : M.2.2.2.2.1 = some .int) (hq : Q (.inl (some (.int v))) h) : aw_w G M fr lo kc ks pc lv [.int v] h Q := by
  intro p l e R s m args below meth c H locs cells slots mc ms ls C hl hR hO hS hG h1 h2 h3 h4
  obtain ⟨hx, hb, hml, hown, hts, hret, htab, hlk, hnm, hst9, hK, hfr, hlo⟩ := id C
  refine W.widen (k := mc) (n := ms) (by omega) (by omega) ?_
  intro T hT X
  obtain ⟨t, a1, o, b1, b2, ⟨e1, e2⟩, L, hF, hL⟩ := (W.iret (Qc := fun _ _ o t => o = .returned (some (.int v)) ∧ t.heap = H) (free := aw_A G) hx hb (hret.trans hr9) (fun t ht _ => ⟨rfl, ht⟩) hS.2.2 hd hlk) T hT X
  exact ⟨t, a1, o, b1, b2, h, L, by rw [e2]; exact hR, hF.2.1, hF.2.2, ⟨by rw [e2]; exact hS.1, by rw [e2]; exact hS.2.1, hL⟩, Or.inl ⟨_, e1, hq⟩⟩
theorem aw_zret {v : Int32} (hd : decode M.2.2.1 pc = .ok (.ireturn, 1)) (hr9 : M.2.2.2.2.1 = some .boolean) (hv : v = 0 ∨ v = 1) (hq : Q (.inl (some (.int v))) h) : aw_w G M fr lo kc ks pc lv [.int v] h Q := by
  intro p l e R s m args below meth c H locs cells slots mc ms ls C hl hR hO hS hG h1 h2 h3 h4
  obtain ⟨hx, hb, hml, hown, hts, hret, htab, hlk, hnm, hst9, hK, hfr, hlo⟩ := id C
  refine W.widen (k := mc) (n := ms) (by omega) (by omega) ?_
  intro T hT X
  have hn9 : narrow .boolean (.int v) = .int v := by rcases hv with rfl | rfl <;> decide
  obtain ⟨t, a1, o, b1, b2, ⟨e1, e2⟩, L, hF, hL⟩ := (W.zret (Qc := fun _ _ o t => o = .returned (some (.int v)) ∧ t.heap = H) (free := aw_A G) hx hb (hret.trans hr9) hn9 (fun t ht _ => ⟨rfl, ht⟩) hS.2.2 hd hlk) T hT X
  exact ⟨t, a1, o, b1, b2, h, L, by rw [e2]; exact hR, hF.2.1, hF.2.2, ⟨by rw [e2]; exact hS.1, by rw [e2]; exact hS.2.1, hL⟩, Or.inl ⟨_, e1, hq⟩⟩
theorem aw_vret (hd : decode M.2.2.1 pc = .ok (.return_, 1)) (hr9 : M.2.2.2.2.1 = none) (hq : Q (.inl none) h) : aw_w G M fr lo kc ks pc lv [] h Q := by
  intro p l e R s m args below meth c H locs cells slots mc ms ls C hl hR hO hS hG h1 h2 h3 h4
  obtain ⟨hx, hb, hml, hown, hts, hret, htab, hlk, hnm, hst9, hK, hfr, hlo⟩ := id C
  refine W.widen (k := mc) (n := ms) (by omega) (by omega) ?_
  intro T hT X
  obtain ⟨t, a1, o, b1, b2, ⟨e1, e2⟩, L, hF, hL⟩ := (W.vret (Qc := fun _ _ o t => o = .returned none ∧ t.heap = H) (free := aw_A G) hx hb (hret.trans hr9) (fun t ht _ => ⟨rfl, ht⟩) hS.2.2 hd hlk) T hT X
  exact ⟨t, a1, o, b1, b2, h, L, by rw [e2]; exact hR, hF.2.1, hF.2.2, ⟨by rw [e2]; exact hS.1, by rw [e2]; exact hS.2.1, hL⟩, Or.inl ⟨_, e1, hq⟩⟩
theorem aw_aret {v : Value} {rt : FieldType} (hd : decode M.2.2.1 pc = .ok (.areturn, 1)) (hr9 : M.2.2.2.2.1 = some rt) (hrt : (∃ n, rt = .object n) ∨ ∃ t, rt = .array t) (hv : v = .null ∨ ∃ a, v = .ref a) (hq : Q (.inl (some v)) h) : aw_w G M fr lo kc ks pc lv [v] h Q := by
  intro p l e R s m args below meth c H locs cells slots mc ms ls C hl hR hO hS hG h1 h2 h3 h4
  obtain ⟨hx, hb, hml, hown, hts, hret, htab, hlk, hnm, hst9, hK, hfr, hlo⟩ := id C
  refine W.widen (k := mc) (n := ms) (by omega) (by omega) ?_
  intro T hT X
  obtain ⟨t, a1, o, b1, b2, ⟨e1, e2⟩, L, hF, hL⟩ := (W.aret (Qc := fun _ _ o t => o = .returned (some v) ∧ t.heap = H) (free := aw_A G) hx hb (hret.trans hr9) hrt hv (fun t ht _ => ⟨rfl, ht⟩) hS.2.2 hd hlk) T hT X
  exact ⟨t, a1, o, b1, b2, h, L, by rw [e2]; exact hR, hF.2.1, hF.2.2, ⟨by rw [e2]; exact hS.1, by rw [e2]; exact hS.2.1, hL⟩, Or.inl ⟨_, e1, hq⟩⟩
end AWH
end
section
/-! ===== the abstract walk: calls ===== -/
def aw_x (G : ag_T) (M : am_M) (fr lo kc ks pc : Nat) (lv : List (Nat × Value)) (st : List Value) (h : List va_E) (k9 ci : Nat) (Q : aq_T) : Prop :=
  ∀ (p : Program) (l : Launch) (e : Env) (R : Room) (s : State) (m : MethodId) (args : Array Value) (below : List Frame) (meth : Method) (c : Code) (H : Heap) (locs : List Loc) (cells slots mc ms : Nat) (ls : Array Slot),
    aw_C G M fr lo p l R s m args meth c → lv_has ls M.2.2.2.1 lv → ah_R G h H → h[k9]? = some (.inr (ci, [])) → aw_O G s s.heap → va_S (aw_A G) s.heap H locs → G.1 ≤ s.heap.size → cells + kc ≤ mc → slots + ks ≤ ms → mc ≤ R.cells → ms ≤ R.slots →
    ∀ T : State, T.heap = H → Stand p l e R s m args below meth c T locs cells slots → ∃ t, Steps p.tables e below ((T.setTop (F0 m pc ls st)).pushFrame (.throwing (G.1 + k9))) t ∧ aw_Z G Q below mc ms s t
/-- a method of the program, by its words -/
def aw_my (Y : am_M) : Prop := ((Cond.code Y.2.1 Y.2.2.1 Y.2.2.2.1 Y.2.2.2.2.1 ∈ aw_T ∧ Y.2.2.2.2.2 = []) ∨ Cond.codeWith Y.2.1 Y.2.2.1 Y.2.2.2.1 Y.2.2.2.2.1 Y.2.2.2.2.2 ∈ aw_T) ∧ plainFor Y.2.1 = true ∧ Y.1 = Y.2.1.cls
theorem aw_my.facts {Y : am_M} (hY : aw_my Y) {args : Array Value} {s : State} (hts : ∀ w ∈ aw_T, w.before args s = true) :
    ∃ (mk : MethodId) (methk : Method) (ck : Code), s.methodNamed? Y.2.1 = some mk ∧ s.vm.method? mk = some methk ∧ methk.code = some ck ∧ ck.code = Y.2.2.1 ∧ ck.maxLocals = Y.2.2.2.1 ∧ methk.sig.returnType = Y.2.2.2.2.1 ∧ methk.locks = false ∧ ck.exceptionTable.toList = tableOf Y.2.2.2.2.2 ∧ parseMethodDescriptor Y.2.1.desc = some methk.sig := by
  rcases hY.1 with ⟨hw, he⟩ | hw
  · obtain ⟨mk, hn⟩ := Cond.code_named (hts _ hw)
    obtain ⟨methk, ck, q1, q2, q3, q4, q5, q6, q7, q8⟩ := Cond.code_spec hn (hts _ hw)
    refine ⟨mk, methk, ck, hn, q1, q2, q3, q4, q5, q6, ?_, q8⟩
    rw [he, Array.isEmpty_iff.mp q7]
    rfl
  · obtain ⟨mk, methk, ck, hn, q1, q2, q3, q4, q6, q5, q7, q8⟩ := Cond.codeWith_spec (hts _ hw)
    refine ⟨mk, methk, ck, hn, q1, q2, q3, q4, q5, q7, ?_, q8⟩
    rw [← q6, table_eq]
theorem aw_Sc {A : Nat → Prop} {H0 H H1 : Heap} {locs L : List Loc} (hS : va_S A H0 H locs) (h1 : va_S A H H1 L) : va_S A H0 H1 (locs ++ L) :=
  ⟨Nat.le_trans hS.1 h1.1, fun q a b => (h1.2.1 q (Nat.lt_of_lt_of_le a hS.1) b).trans (hS.2.1 q a b), fun q hq => (List.mem_append.mp hq).elim (hS.2.2 q) (h1.2.2 q)⟩
/-- the invoking instruction's own step -/
def aw_iv (p : Program) (l : Launch) (e : Env) (R : Room) (s : State) (m : MethodId) (args : Array Value) (below : List Frame) (meth : Method) (c : Code) (H : Heap) (locs : List Loc) (cells slots pc : Nat) (ls : Array Slot) (st rest : List Value) (y : MethodName) (as : List Value) : Prop :=
  ∀ T : State, T.heap = H → Stand p l e R s m args below meth c T locs cells slots → ∃ (vm₁ : Vm) (mk : MethodId), Stand p l e R s m args below meth c (T.setVm vm₁) locs cells slots ∧ s.methodNamed? y = some mk ∧
    ∀ target, Steps p.tables e below (doInvoke e ((T.setVm vm₁).setTop (F0 m pc ls rest)) [] mk as.toArray).1 target → Steps p.tables e below (T.setTop (F0 m pc ls st)) target
section AWC
variable {G : ag_T} {M : am_M} {fr lo kc ks pc : Nat} {lv : List (Nat × Value)} {st : List Value} {h : List va_E} {Q : aq_T}
theorem aw_core (Y : am_M) {ig : Instr} {fr' lo' kc1 ks1 kc' ks' : Nat} {as rest : List Value} {Qc : aq_T} (hd : decode M.2.2.1 pc = .ok (ig, 3)) (hY : aw_my Y) (hf9 : fr' + 1 ≤ fr) (hk1 : kc = kc1 + kc') (hk2 : ks = ks1 + ks') (hrest : (rest.map fun v => v.category).sum + (Y.2.2.2.1 + 11) + lo' ≤ lo) (hlen : (lg_sl as).length ≤ Y.2.2.2.1)
    (hiv : ∀ (p : Program) (l : Launch) (e : Env) (R : Room) (s : State) (m : MethodId) (args : Array Value) (below : List Frame) (meth : Method) (c : Code) (H : Heap) (locs : List Loc) (cells slots : Nat) (ls : Array Slot), aw_C G M fr lo p l R s m args meth c → ah_R G h H → aw_iv p l e R s m args below meth c H locs cells slots pc ls st rest Y.2.1 as)
    (hent : aw_w G Y fr' lo' kc1 ks1 0 (lv_args 0 as) [] h Qc)
    (kret : ∀ v h', Qc (.inl v) h' → aw_w G M fr lo kc' ks' (pc + 3) lv (v.toList ++ rest) h' Q)
    (kthr : ∀ k9 ci h', Qc (.inr ci) h' → aw_x G M fr lo kc' ks' pc lv rest h' k9 ci Q) : aw_w G M fr lo kc ks pc lv st h Q := by
  intro p l e R s m args below meth c H locs cells slots mc ms ls C hl hR hO hS hG h1 h2 h3 h4 T hT X
  obtain ⟨hx, hb, hml, hown, hts, hret, htab, hlk, hnm, hst9, hK, hfr, hlo⟩ := id C
  obtain ⟨vm₁, mk, X1, hn, hst⟩ := hiv p l e R s m args below meth c H locs cells slots ls C hR T hT X
  obtain ⟨mk', methk, ck, hn', hmk, hck, hcb, hcl, hcr, hlkk, hctab, hsig⟩ := hY.facts hts
  have emk : mk = mk' := Option.some.inj (hn.symm.trans hn')
  subst emk
  obtain ⟨-, hY2, hY3⟩ := hY
  have hW1 : s.WarmedH vm₁ := X1.warmed
  have hmk1 : (T.setVm vm₁).vm.method? mk = some methk := by
    show vm₁.method? mk = _
    rw [hW1.alike.method?]; exact hmk
  have hpk : (T.setVm vm₁).plainMethod mk := State.plainMethod.of_named hY2 (X1.named hn) hmk1
  have hsz : (F0 m pc ls rest).locals.size = c.maxLocals := hl.1.trans hml.symm
  have hdg : decode c.code (F0 m pc ls rest).pc = .ok (ig, 3) := by rw [hb]; exact hd
  obtain ⟨Y0, hin⟩ := X1.into (g := F0 m pc ls rest) rfl hsz hdg as.toArray (R' := aw_rm fr' lo' kc1 ks1) hmk1 hck hlkk hpk (by show fr' + 1 ≤ R.frames; omega)
    (by show 2 * 0 + (rest.map fun v => v.category).sum + (ck.maxLocals + 11) + lo' ≤ R.locals; rw [hcl]; omega) (by show cells + kc1 ≤ R.cells; omega) (by show slots + ks1 ≤ R.slots; omega)
  obtain ⟨s', hs'⟩ : ∃ z, z = (T.setVm vm₁).calling (F0 m pc ls rest) mk as.toArray := ⟨_, rfl⟩
  obtain ⟨U0, hU0⟩ : ∃ z, z = ((T.setVm vm₁).setTop (F0 m pc ls rest)).pushFrame (.java (entryFrame mk as.toArray ck.maxLocals)) := ⟨_, rfl⟩
  rw [← hs', ← hU0] at Y0
  have hv' : s'.vm = vm₁ := by rw [hs']; rfl
  have hh' : s'.heap = H := by rw [hs']; exact hT
  have hW' : s.WarmedH s'.vm := by rw [hv']; exact hW1
  have Cc : aw_C G Y fr' lo' p l (aw_rm fr' lo' kc1 ks1) s' mk as.toArray methk ck :=
    ⟨hx, hcb, hcl, by rw [hY3, hW'.alike.findClass]; exact findClass_of_methodNamed hn, fun w hw => word_at hW' (aw_good w hw) (hts w hw), hcr, hctab, hlkk, (name_of_methodNamed hn hmk).1, hst9, hK.moved hW', Nat.le_refl _, Nat.le_refl _⟩
  have hlv : lv_has ((lg_sl as ++ List.replicate (ck.maxLocals - (lg_sl as).length) Slot.unset).toArray) Y.2.2.2.1 (lv_args 0 as) := by
    rw [← hcl]
    exact lv_entry as (by rw [hcl]; exact hlen)
  have hO' : aw_O G s' s'.heap := by
    rw [hh']
    exact (hO.moved hW').kept hS.2.1
  obtain ⟨t, a1, o, b1, b2, h', L, c1, c2, c3, c4, c5⟩ := hent p l e (aw_rm fr' lo' kc1 ks1) s' mk as.toArray (.java (F0 m pc ls rest) :: below) methk ck H [] 0 0 kc1 ks1 _ Cc hlv hR hO'
    (by rw [hh']; exact va_S.rf) (by rw [hh']; exact Nat.le_trans hG hS.1) (by omega) (by omega) (Nat.le_refl _) (Nat.le_refl _) U0 (by rw [hU0]; exact hT) Y0
  rw [← lg_entry_eq mk as ck.maxLocals] at a1
  have a2 : Steps p.tables e below (doInvoke e ((T.setVm vm₁).setTop (F0 m pc ls rest)) [] mk as.toArray).1 t := by
    rw [hin [], ← hU0]
    exact Steps.weaken (mid := [.java (F0 m pc ls rest)]) a1
  rw [hs'] at c2 c3
  rw [hh'] at c4
  rcases c5 with ⟨v, ho, hq⟩ | ⟨k9, ci, ho, hcell, hq⟩
  · subst ho
    obtain ⟨T', X', -, -, ht⟩ := X1.outOf (g := F0 m pc ls rest) rfl hdg b2 c2 c3
    have hth : T'.heap = t.heap := by rw [ht]; rfl
    obtain ⟨t2, d1, d2⟩ := kret v h' hq p l e R s m args below meth c T'.heap (locs ++ L) (cells + kc1) (slots + ks1) mc ms ls C hl (by rw [hth]; exact c1) hO (by rw [hth]; exact aw_Sc hS c4) hG (by omega) (by omega) h3 h4 T' rfl X'
    refine ⟨t2, hst _ (a2.trans ?_), d2⟩
    rw [ht]
    exact d1
  · subst ho
    obtain ⟨T', X', -, -, ht⟩ := X1.outOfThrown (g := F0 m pc ls rest) rfl b2 c2 c3
    have hth : T'.heap = t.heap := by rw [ht]; rfl
    obtain ⟨t2, d1, d2⟩ := kthr k9 ci h' hq p l e R s m args below meth c T'.heap (locs ++ L) (cells + kc1) (slots + ks1) mc ms ls C hl (by rw [hth]; exact c1) hcell hO (by rw [hth]; exact aw_Sc hS c4) hG (by omega) (by omega) h3 h4 T' rfl X'
    refine ⟨t2, hst _ (a2.trans ?_), d2⟩
    rw [ht]
    exact d1
def aw_mh (y : MethodName) : Prop := y.cls ≠ "java/lang/invoke/MethodHandle" ∧ y.cls ≠ "java/lang/invoke/VarHandle"
def aw_cs (own : String) (idx : Nat) (Y : am_M) : Prop := Cond.methodLink own idx Y.2.1 ∈ aw_T ∧ Cond.static Y.2.1 ∈ aw_T ∧ Cond.initialized Y.2.1.cls ∈ aw_T ∧ aw_mh Y.2.1
def aw_cn (own : String) (idx : Nat) (host : String) (Y : am_M) : Prop := Cond.methodLinkNest own idx Y.2.1 host ∈ aw_N ∧ Cond.static Y.2.1 ∈ aw_T ∧ Cond.initialized Y.2.1.cls ∈ aw_T ∧ aw_mh Y.2.1
def aw_cv (own : String) (idx : Nat) (Y : am_M) : Prop := Cond.methodLink own idx Y.2.1 ∈ aw_T ∧ Cond.instanceMethod Y.2.1 ∈ aw_T ∧ Cond.selects Y.2.1.cls Y.2.1 Y.2.1 ∈ aw_T ∧ aw_mh Y.2.1
def aw_ci (own : String) (idx : Nat) (Y : am_M) : Prop := Cond.methodLink own idx Y.2.1 ∈ aw_T ∧ Cond.instanceMethod Y.2.1 ∈ aw_T ∧ Y.2.1.name = "<init>" ∧ Y.2.2.2.2.1 = none ∧ Y.2.2.2.2.2 = [] ∧ Cond.code Y.2.1 Y.2.2.1 Y.2.2.2.1 none ∈ aw_T ∧ aw_mh Y.2.1
def aw_np (Y : am_M) (n : Nat) : Prop := (parseMethodDescriptor Y.2.1.desc).map (fun d => d.parameters.length) = some n
theorem aw_np.of {Y : am_M} {n : Nat} (h : aw_np Y n) {sig : MethodDescriptor} (hs : parseMethodDescriptor Y.2.1.desc = some sig) : n = sig.parameters.length := by
  unfold aw_np at h
  rw [hs] at h
  exact (Option.some.inj h).symm
theorem aw_callS (Y : am_M) {idx fr' lo' kc1 ks1 kc' ks' : Nat} (as rest : List Value) {Qc : aq_T} (hd : decode M.2.2.1 pc = .ok (.invokestatic idx, 3)) (hC : aw_cs M.1 idx Y) (hY : aw_my Y) (hp : aw_np Y as.length) (hst : st = as.reverse ++ rest) (hf9 : fr' + 1 ≤ fr) (hk1 : kc = kc1 + kc') (hk2 : ks = ks1 + ks') (hrest : (rest.map fun v => v.category).sum + (Y.2.2.2.1 + 11) + lo' ≤ lo) (hlen : (lg_sl as).length ≤ Y.2.2.2.1)
    (hent : aw_w G Y fr' lo' kc1 ks1 0 (lv_args 0 as) [] h Qc)
    (kret : ∀ v h', Qc (.inl v) h' → aw_w G M fr lo kc' ks' (pc + 3) lv (v.toList ++ rest) h' Q)
    (kthr : ∀ k9 ci h', Qc (.inr ci) h' → aw_x G M fr lo kc' ks' pc lv rest h' k9 ci Q) : aw_w G M fr lo kc ks pc lv st h Q := by
  refine aw_core Y hd hY hf9 hk1 hk2 hrest hlen ?_ hent kret kthr
  intro p l e R s m args below meth c H locs cells slots ls C hR T hT X
  obtain ⟨hx, hb, hml, hown, hts, -⟩ := id C
  obtain ⟨mk, methk, ck, hn, hmk, -, -, -, -, -, -, hsig⟩ := hY.facts hts
  obtain ⟨kP, hkP, -⟩ := className_of_methodNamed hn
  obtain ⟨vm₁, X₁, hs1⟩ := X.invokestatic hx hown (hts _ hC.1) hn hmk (Cond.static_spec hn hmk (hts _ hC.2.1)) hkP (Cond.initialized_spec (findClass_of_methodNamed hn) hkP (hts _ hC.2.2.1)) hC.2.2.2 (g := F0 m pc ls st) rfl (argsL := as) (rest := rest) (hp.of hsig) hst (by rw [hb]; exact hd)
  exact ⟨vm₁, mk, X₁, hn, fun target h9 => hs1 _ fun acts => by rw [doInvoke_state]; exact h9⟩
theorem aw_callSN (Y : am_M) {idx fr' lo' kc1 ks1 kc' ks' : Nat} (host : String) (as rest : List Value) {Qc : aq_T} (hd : decode M.2.2.1 pc = .ok (.invokestatic idx, 3)) (hC : aw_cn M.1 idx host Y) (hY : aw_my Y) (hp : aw_np Y as.length) (hst : st = as.reverse ++ rest) (hf9 : fr' + 1 ≤ fr) (hk1 : kc = kc1 + kc') (hk2 : ks = ks1 + ks') (hrest : (rest.map fun v => v.category).sum + (Y.2.2.2.1 + 11) + lo' ≤ lo) (hlen : (lg_sl as).length ≤ Y.2.2.2.1)
    (hent : aw_w G Y fr' lo' kc1 ks1 0 (lv_args 0 as) [] h Qc)
    (kret : ∀ v h', Qc (.inl v) h' → aw_w G M fr lo kc' ks' (pc + 3) lv (v.toList ++ rest) h' Q)
    (kthr : ∀ k9 ci h', Qc (.inr ci) h' → aw_x G M fr lo kc' ks' pc lv rest h' k9 ci Q) : aw_w G M fr lo kc ks pc lv st h Q := by
  refine aw_core Y hd hY hf9 hk1 hk2 hrest hlen ?_ hent kret kthr
  intro p l e R s m args below meth c H locs cells slots ls C hR T hT X
  obtain ⟨hx, hb, hml, hown, hts, hret, htab, hlk, hnm, hst9, hK, hfr, hlo⟩ := id C
  obtain ⟨mk, methk, ck, hn, hmk, -, -, -, -, -, -, hsig⟩ := hY.facts hts
  obtain ⟨kP, hkP, -⟩ := className_of_methodNamed hn
  obtain ⟨vm₁, X₁, hs1⟩ := X.invokestaticNest hx hown (va_Nw.use rfl (hK.2.1 _ hC.1)) hn hmk (Cond.static_spec hn hmk (hts _ hC.2.1)) hkP (Cond.initialized_spec (findClass_of_methodNamed hn) hkP (hts _ hC.2.2.1)) hC.2.2.2 (g := F0 m pc ls st) rfl (argsL := as) (rest := rest) (hp.of hsig) hst (by rw [hb]; exact hd)
  exact ⟨vm₁, mk, X₁, hn, fun target h9 => hs1 _ fun acts => by rw [doInvoke_state]; exact h9⟩
theorem aw_callV (Y : am_M) {idx fr' lo' kc1 ks1 kc' ks' : Nat} (i ci : Nat) (as rest : List Value) {fs : List Value} {Qc : aq_T} (hd : decode M.2.2.1 pc = .ok (.invokevirtual idx, 3)) (hC : aw_cv M.1 idx Y) (hY : aw_my Y) (hp : aw_np Y as.length) (hh : h[i]? = some (.inr (ci, fs))) (hci : (am_cl[ci]?).map (·.1) = some Y.2.1.cls) (hst : st = as.reverse ++ .ref (G.1 + i) :: rest) (hf9 : fr' + 1 ≤ fr) (hk1 : kc = kc1 + kc') (hk2 : ks = ks1 + ks') (hrest : (rest.map fun v => v.category).sum + (Y.2.2.2.1 + 11) + lo' ≤ lo) (hlen : (lg_sl (.ref (G.1 + i) :: as)).length ≤ Y.2.2.2.1)
    (hent : aw_w G Y fr' lo' kc1 ks1 0 (lv_args 0 (.ref (G.1 + i) :: as)) [] h Qc)
    (kret : ∀ v h', Qc (.inl v) h' → aw_w G M fr lo kc' ks' (pc + 3) lv (v.toList ++ rest) h' Q)
    (kthr : ∀ k9 ci h', Qc (.inr ci) h' → aw_x G M fr lo kc' ks' pc lv rest h' k9 ci Q) : aw_w G M fr lo kc ks pc lv st h Q := by
  refine aw_core Y (as := .ref (G.1 + i) :: as) hd hY hf9 hk1 hk2 hrest hlen ?_ hent kret kthr
  intro p l e R s m args below meth c H locs cells slots ls C hR T hT X
  obtain ⟨hx, hb, hml, hown, hts, hret, htab, hlk, hnm, hst9, hK, hfr, hlo⟩ := id C
  obtain ⟨mk, methk, ck, hn, hmk, -, -, -, -, -, -, hsig⟩ := hY.facts hts
  obtain ⟨r, hr, cellB, g1, g2, g3, -⟩ := hR.cell hh
  have hcls : s.vm.findClass Y.2.1.cls = some cellB.cls := by
    rw [hr] at hci
    rw [← Option.some.inj hci, g2]
    exact (hK.1.1 ci r hr).2.1
  obtain ⟨mk2, methM, hnamed, hmethM, hstM, habM⟩ := Cond.instanceMethod_spec (hts _ hC.2.1)
  cases Option.some.inj (hn.symm.trans hnamed)
  cases Option.some.inj (hmk.symm.trans hmethM)
  obtain ⟨c2, r2, m2, q1, q2, q3, q4, kP, hkP, hkPi⟩ := Cond.selects_spec (hts _ hC.2.2.1)
  cases Option.some.inj (hcls.symm.trans q1)
  cases Option.some.inj ((State.methodFound?_of_named hn hC.2.2.2).symm.trans q2)
  cases Option.some.inj (hn.symm.trans q3)
  have hselP : selectMethod e.platform s.vm cellB.cls mk = .method mk := by rw [Launch.admits_selectMethod X.admits]; exact q4
  obtain ⟨vm₁, X₁, hs1⟩ := X.invokevirtual hx hown (hts _ hC.1) hn hmk hstM hkP hkPi hC.2.2.2 (a := G.1 + i) (cell := cellB) (by rw [hT]; exact g1) (fun z h9 => by rw [g3] at h9; cases h9) hselP hmk habM hkP hkPi (g := F0 m pc ls st) rfl (argsL := as) (rest := rest) (hp.of hsig) hst (by rw [hb]; exact hd)
  exact ⟨vm₁, mk, X₁, hn, fun target h9 => hs1 _ fun acts => by rw [doInvoke_state]; exact h9⟩
theorem aw_callI (Y : am_M) {idx fr' lo' kc1 ks1 kc' ks' : Nat} (i : Nat) (as rest : List Value) {Qc : aq_T} (hd : decode M.2.2.1 pc = .ok (.invokespecial idx, 3)) (hC : aw_ci M.1 idx Y) (hY : aw_my Y) (hp : aw_np Y as.length) (hst : st = as.reverse ++ .ref (G.1 + i) :: rest) (hf9 : fr' + 1 ≤ fr) (hk1 : kc = kc1 + kc') (hk2 : ks = ks1 + ks') (hrest : (rest.map fun v => v.category).sum + (Y.2.2.2.1 + 11) + lo' ≤ lo) (hlen : (lg_sl (.ref (G.1 + i) :: as)).length ≤ Y.2.2.2.1)
    (hent : aw_w G Y fr' lo' kc1 ks1 0 (lv_args 0 (.ref (G.1 + i) :: as)) [] h Qc)
    (kret : ∀ v h', Qc (.inl v) h' → aw_w G M fr lo kc' ks' (pc + 3) lv (v.toList ++ rest) h' Q)
    (kthr : ∀ k9 ci h', Qc (.inr ci) h' → aw_x G M fr lo kc' ks' pc lv rest h' k9 ci Q) : aw_w G M fr lo kc ks pc lv st h Q := by
  refine aw_core Y (as := .ref (G.1 + i) :: as) hd hY hf9 hk1 hk2 hrest hlen ?_ hent kret kthr
  intro p l e R s m args below meth c H locs cells slots ls C hR T hT X
  obtain ⟨hx, hb, hml, hown, hts, -⟩ := id C
  obtain ⟨w1, w2, w3, w4, w5, w6, w7⟩ := hC
  have hpl : e.platform.magicAccessors = ({} : Platform).magicAccessors := by rw [X.admits.platform]
  obtain ⟨mk, methM, cM, kP, vm₁, hnamed, hmethM, -, -, -, -, -, -, hW₁, hs1⟩ := Steps.initColdArgs (e := e) X.here hx X.warmed hpl hown w3 w7 (hts _ w1) (hts _ w2) (hts _ w6) (f := F0 m pc ls st) rfl (argsL := as) (rest := rest) (fun sig h9 => hp.of h9) hst (by rw [hb]; exact hd)
  exact ⟨vm₁, mk, X.noted hW₁, hnamed, fun target h9 => hs1 _ fun acts => by rw [doInvoke_state]; exact h9⟩
theorem aw_obj {idx i : Nat} (hd : decode M.2.2.1 pc = .ok (.invokespecial idx, 3)) (hw : Cond.methodLink M.1 idx objectInit ∈ aw_T ∧ Cond.instanceMethod objectInit ∈ aw_T ∧ Cond.code objectInit ⟨#[0xb1]⟩ 1 none ∈ aw_T) (hf9 : 1 ≤ fr) (hrest : (st.map fun v => v.category).sum + 12 ≤ lo)
    (k : aw_w G M fr lo kc ks (pc + 3) lv st h Q) : aw_w G M fr lo kc ks pc lv (.ref i :: st) h Q := by
  intro p l e R s m args below meth c H locs cells slots mc ms ls C hl hR hO hS hG h1 h2 h3 h4
  obtain ⟨hx, hb, hml, hown, hts, hret, htab, hlk, hnm, hst9, hK, hfr, hlo⟩ := id C
  refine W.objInit hx hb hown (hts _ hw.1) (hts _ hw.2.1) (hts _ hw.2.2) rfl (hl.1.trans hml.symm) rfl hd (by omega) (by show 2 * 0 + (st.map fun v => v.category).sum + 12 ≤ R.locals; omega) ?_
  exact k p l e R s m args below meth c H locs cells slots mc ms ls C hl hR hO hS hG h1 h2 h3 h4
/-- an exception that goes on to the caller -/
theorem aw_out {k9 ci : Nat} (hout : ∀ x ∈ tableOf M.2.2.2.2.2, covers x pc = false) (hq : Q (.inr ci) h) : aw_x G M fr lo kc ks pc lv st h k9 ci Q := by
  intro p l e R s m args below meth c H locs cells slots mc ms ls C hl hR hk hO hS hG h1 h2 h3 h4 T hT X
  obtain ⟨hx, hb, hml, hown, hts, hret, htab, hlk, hnm, hst9, hK, hfr, hlo⟩ := id C
  obtain ⟨st1, hrun, hend, hW, hsm⟩ := X.leaveThrown (G.1 + k9) (g := F0 m pc ls st) rfl rfl rfl (by rw [htab]; exact hout) hlk
  have hth : (T.setFrames (.throwing (G.1 + k9) :: below)).heap = H := hT
  exact ⟨_, st1, .threw (G.1 + k9), hrun, hend, h, locs, by rw [hth]; exact hR, hW, hsm.mono (by omega) (by omega), by rw [hth]; exact hS, Or.inr ⟨k9, ci, rfl, hk, hq⟩⟩
end AWC
end
section
/-! ===== the abstract walk: exceptions: caught by the method's own table, its classes linked or not yet ===== -/
/-- the search for a handler ends with hd, and leaves the tables vm' -/
def ax_F (e : Env) (s : State) (f : JFrame) (a : Addr) (hd : Handler) (vm' : Vm) : Prop :=
  ∀ (Q : Handler → Pre) (E : CtlPost) (d : Bool) (acts : List Action), wp (findHandler f a) Q E e d acts s ↔ Q hd d acts (s.setVm vm')
section AXA
variable {Q : Handler → Pre} {E : CtlPost} {e : Env} {d : Bool} {acts : List Action} {s : State} {f : JFrame} {a : Addr}
theorem ax_yes {x : ExceptionTableEntry} {t : List ExceptionTableEntry} {c : ClassId} {cell : Cell} (hx : covers x f.pc = true) (h0 : x.catchType ≠ 0)
    (hl : s.vm.ClassLinks e.platform f.method.cls x.catchType c) (hcell : s.heap[a]? = some cell) (hobj : ∀ k, cell.vm ≠ .statics k)
    (hk : ∃ k, s.vm.classes[cell.cls]? = some k) (hc : ∃ k, s.vm.classes[c]? = some k) (hfit : s.vm.assignable cell.cls c = true) :
    wp (findHandler.go f a (x :: t)) Q E e d acts s ↔ Q (.found x.handlerPc) d acts (s.setVm (s.vm.noted f.method.cls x.catchType (.cls c))) := by
  simp only [covers] at hx
  obtain ⟨r1, r2⟩ := (resolveClass_links e.toSetting hl).op (op := VmOp.resolveClass f.method.cls x.catchType) rfl
  have hal : s.vm.Alike (s.vm.noted f.method.cls x.catchType (.cls c)) := (Vm.Alike.refl s.vm).noted _ _ _
  obtain ⟨k1, hk1⟩ := hk
  obtain ⟨k2, hk2⟩ := hc
  obtain ⟨j1, hj1, -⟩ := hal.2.2 _ _ hk1
  obtain ⟨j2, hj2, -⟩ := hal.2.2 _ _ hk2
  have hf2 : (s.vm.noted f.method.cls x.catchType (.cls c)).assignable cell.cls c = true := by rw [hal.assignable]; exact hfit
  simp [findHandler.go, hx, h0, r1, r2, hcell, hobj, hj1, hj2, hf2, VmOp.dirties, VmOp.acts]
theorem ax_no {x : ExceptionTableEntry} {t : List ExceptionTableEntry} {c : ClassId} {cell : Cell} (hx : covers x f.pc = true) (h0 : x.catchType ≠ 0)
    (hl : s.vm.ClassLinks e.platform f.method.cls x.catchType c) (hcell : s.heap[a]? = some cell) (hobj : ∀ k, cell.vm ≠ .statics k)
    (hk : ∃ k, s.vm.classes[cell.cls]? = some k) (hc : ∃ k, s.vm.classes[c]? = some k) (hfit : s.vm.assignable cell.cls c = false) :
    wp (findHandler.go f a (x :: t)) Q E e d acts s ↔ wp (findHandler.go f a t) Q E e d acts (s.setVm (s.vm.noted f.method.cls x.catchType (.cls c))) := by
  simp only [covers] at hx
  obtain ⟨r1, r2⟩ := (resolveClass_links e.toSetting hl).op (op := VmOp.resolveClass f.method.cls x.catchType) rfl
  have hal : s.vm.Alike (s.vm.noted f.method.cls x.catchType (.cls c)) := (Vm.Alike.refl s.vm).noted _ _ _
  obtain ⟨k1, hk1⟩ := hk
  obtain ⟨k2, hk2⟩ := hc
  obtain ⟨j1, hj1, -⟩ := hal.2.2 _ _ hk1
  obtain ⟨j2, hj2, -⟩ := hal.2.2 _ _ hk2
  have hf2 : (s.vm.noted f.method.cls x.catchType (.cls c)).assignable cell.cls c = false := by rw [hal.assignable]; exact hfit
  simp [findHandler.go, hx, h0, r1, r2, hcell, hobj, hj1, hj2, hf2, VmOp.dirties, VmOp.acts]
end AXA
/-- a row of a method's table that an exception of the class E passes, or that takes it: by names -/
def ax_pass (own E : String) (pc : Nat) (z : ExceptionTableEntry) : Prop := covers z pc = false ∨ (z.catchType ≠ 0 ∧ ∃ nm : String, Cond.classLink own z.catchType nm ∈ aw_T ∧ (E, nm) ∈ aw_NC)
def ax_take (own E : String) (pc : Nat) (z : ExceptionTableEntry) : Prop := covers z pc = true ∧ z.catchType ≠ 0 ∧ ∃ nm : String, Cond.classLink own z.catchType nm ∈ aw_T ∧ Cond.castable E nm ∈ aw_N
theorem ax_find {own E : String} {args : Array Value} {e : Env} {s : State} {f : JFrame} {a : Addr} {cell : Cell} (hpl : e.platform.magicAccessors = ({} : Platform).magicAccessors) (hown : s.vm.findClass own = some f.method.cls) (hts : ∀ w ∈ aw_T, w.before args s = true) (hN : ∀ w ∈ aw_N, va_Nw w s) (hNC : ∀ q ∈ aw_NC, va_Nc q.1 q.2 s)
    (hobj : ∀ k, cell.vm ≠ .statics k) (hE : s.vm.findClass E = some cell.cls) (x : ExceptionTableEntry) (rest : List ExceptionTableEntry) (hx : ax_take own E f.pc x) :
    ∀ (pre : List ExceptionTableEntry) (S : State), s.WarmedH S.vm → S.heap[a]? = some cell → (∀ y ∈ pre, ax_pass own E f.pc y) →
      ∃ vm', s.WarmedH vm' ∧ ∀ (Q : Handler → Pre) (E' : CtlPost) (d : Bool) (acts : List Action), wp (findHandler.go f a (pre ++ x :: rest)) Q E' e d acts S ↔ Q (.found x.handlerPc) d acts (S.setVm vm') := by
  have hk0 : ∃ k, s.vm.classes[cell.cls]? = some k := by obtain ⟨k9, h9, -⟩ := Vm.findClass_spec hE; exact ⟨k9, h9⟩
  intro pre
  induction pre with
  | nil =>
    intro S hW hcell _
    obtain ⟨hcov, h0, nm, hl, hc⟩ := hx
    obtain ⟨c5, hc5, hcl5⟩ := Cond.classLink_spec hown (hts _ hl) e.platform hpl
    obtain ⟨c3, c4, hc3, hc4, hasg⟩ := Cond.castable_spec (hN _ hc)
    cases Option.some.inj (hc3.symm.trans hE)
    cases Option.some.inj (hc4.symm.trans hc5)
    obtain ⟨dk, _, _, kt, hd, _, _, _, _, hkt, _, hopen⟩ := hcl5.here
    obtain ⟨k1, hk1⟩ := hk0
    obtain ⟨j1, hj1, -⟩ := hW.alike.2.2 _ _ hk1
    obtain ⟨j2, hj2, -⟩ := hW.alike.2.2 _ _ hkt
    exact ⟨_, hW.noted hd hopen (State.rightAt_cls hcl5), fun Q E' d acts => by
      rw [List.nil_append]
      exact ax_yes hcov h0 (hW.classLinks hcl5) hcell hobj ⟨j1, hj1⟩ ⟨j2, hj2⟩ (by rw [hW.alike.assignable]; exact hasg)⟩
  | cons y ys ih =>
    intro S hW hcell hp
    by_cases hcov : covers y f.pc = true
    · rcases hp y List.mem_cons_self with h9 | ⟨h0, nm, hl, hc⟩
      · rw [h9] at hcov; cases hcov
      · obtain ⟨c5, hc5, hcl5⟩ := Cond.classLink_spec hown (hts _ hl) e.platform hpl
        obtain ⟨c3, c4, hc3, hc4, hasg⟩ := hNC _ hc
        cases Option.some.inj (hc3.symm.trans hE)
        cases Option.some.inj (hc4.symm.trans hc5)
        obtain ⟨dk, _, _, kt, hd, _, _, _, _, hkt, _, hopen⟩ := hcl5.here
        obtain ⟨k1, hk1⟩ := hk0
        obtain ⟨j1, hj1, -⟩ := hW.alike.2.2 _ _ hk1
        obtain ⟨j2, hj2, -⟩ := hW.alike.2.2 _ _ hkt
        obtain ⟨vm', hW', hq⟩ := ih (S.setVm (S.vm.noted f.method.cls y.catchType (.cls c5))) (hW.noted hd hopen (State.rightAt_cls hcl5)) hcell (fun z hz => hp z (List.mem_cons_of_mem _ hz))
        exact ⟨vm', hW', fun Q E' d acts => by
          rw [List.cons_append, ax_no hcov h0 (hW.classLinks hcl5) hcell hobj ⟨j1, hj1⟩ ⟨j2, hj2⟩ (by rw [hW.alike.assignable]; exact hasg)]
          exact hq Q E' d acts⟩
    · obtain ⟨vm', hW', hq⟩ := ih S hW hcell (fun z hz => hp z (List.mem_cons_of_mem _ hz))
      exact ⟨vm', hW', fun Q E' d acts => by
        rw [List.cons_append, W.findHandler_go_skip (by simpa using hcov)]
        exact hq Q E' d acts⟩
theorem ax_caught {tb : Tables} {e : Env} {s target : State} {g : JFrame} {c : Code} {below : List Frame} {a : Addr} (h : At s g.method c below) {pc : Nat} {vm' : Vm}
    (hfind : ax_F e ((s.setTop g).pushFrame (.throwing a)) g a (.found pc) vm') (hrest : Steps tb e below ((s.setVm vm').setTop { g with pc := pc, stack := [.ref a] }) target) :
    Steps tb e below ((s.setTop g).pushFrame (.throwing a)) target := by
  obtain ⟨hgo, hw⟩ := h.throwing a
  have key : (stepThrowing e ((s.setTop g).pushFrame (.throwing a)) a (.java g :: s.frames.tail)).1 = (((s.setTop g).pushFrame (.throwing a)).setVm vm').setFrames (.java { g with pc := pc, stack := [.ref a] } :: s.frames.tail) := by
    simp only [stepThrowing, searchFrame, vmDo]
    generalize hr : Sem.go _ e false [] ((s.setTop g).pushFrame (.throwing a)) = res
    obtain ⟨as, rfl, ha⟩ := Sem.eq_ok_of hr (a := Handler.found pc) (s' := ((s.setTop g).pushFrame (.throwing a)).setVm vm') (acts' := []) (by simp [hfind _ _ _ _])
    rfl
  refine Steps.head hgo hw ?_
  rw [stepThread_throwing (frames_entered h.top _), key]
  obtain ⟨g₀, hg⟩ := Option.isSome_iff_exists.mp h.top
  obtain ⟨r, hr⟩ := State.topJava?_eq_some.mp hg
  have hr' : (s.setVm vm').frames = .java g₀ :: r := hr
  rw [State.setTop_of_frames _ hr'] at hrest
  have e1 : ∀ (u : State) (F F' : List Frame), ((u.setFrames F).setVm vm').setFrames F' = (u.setVm vm').setFrames F' := by
    intro u F F'
    show ((u.setVm vm').setFrames F).setFrames F' = _
    rw [State.setFrames_setFrames]
  rw [hr, List.tail_cons, State.pushFrame, e1, State.setTop_of_frames _ hr, e1]
  exact hrest
section AXB
variable {G : ag_T} {M : am_M} {fr lo kc ks pc : Nat} {lv : List (Nat × Value)} {st : List Value} {h : List va_E} {Q : aq_T}
/-- an exception that this method catches -/
theorem aw_catch {k9 ci : Nat} {E : String} (pre : List ExceptionTableEntry) (x : ExceptionTableEntry) (suf : List ExceptionTableEntry) (hE : (am_cl[ci]?).map (·.1) = some E) (hsplit : tableOf M.2.2.2.2.2 = pre ++ x :: suf) (hpass : ∀ z ∈ pre, ax_pass M.1 E pc z) (hx : ax_take M.1 E pc x)
    (k : aw_w G M fr lo kc ks x.handlerPc lv [.ref (G.1 + k9)] h Q) : aw_x G M fr lo kc ks pc lv st h k9 ci Q := by
  intro p l e R s m args below meth c H locs cells slots mc ms ls C hl hR hk hO hS hG h1 h2 h3 h4 T hT X
  obtain ⟨hx0, hb, hml, hown, hts, hret, htab, hlk, hnm, hst9, hK, hfr, hlo⟩ := id C
  have hpl : e.platform.magicAccessors = ({} : Platform).magicAccessors := by rw [X.admits.platform]
  obtain ⟨r, hr, cellB, g1, g2, g3, -⟩ := hR.cell hk
  have hcls : s.vm.findClass E = some cellB.cls := by
    rw [hr] at hE
    rw [← Option.some.inj hE, g2]
    exact (hK.1.1 ci r hr).2.1
  obtain ⟨vm', hW', hq⟩ := ax_find (f := F0 m pc ls st) (a := G.1 + k9) (cell := cellB) hpl hown hts hK.2.1 hK.2.2.1 (fun z h9 => by rw [g3] at h9; cases h9) hcls x suf hx pre ((T.setTop (F0 m pc ls st)).pushFrame (.throwing (G.1 + k9))) X.warmed (by show T.heap[G.1 + k9]? = _; rw [hT]; exact g1) hpass
  obtain ⟨t, a1, b1⟩ := k p l e R s m args below meth c H locs cells slots mc ms ls C hl hR hO hS hG h1 h2 h3 h4 (T.setVm vm') hT (X.noted hW')
  refine ⟨t, ?_, b1⟩
  refine ax_caught (g := F0 m pc ls st) (c := c) X.here (pc := x.handlerPc) (vm' := vm') ?_ a1
  intro Q9 E9 d9 acts9
  rw [W.findHandler_eq (meth := meth) (code := c) X.method' X.code, htab, hsplit]
  exact hq Q9 E9 d9 acts9
end AXB
end
section
/-! ===== the abstract walk: throw new E("text") ===== -/
section AXR
variable {p : Program} {l : Launch} {e : Env} {R : Room} {s : State} {m : MethodId} {args : Array Value} {below : List Frame} {meth : Method} {c : Code} {locs : List Loc} {cells slots : Nat}
/-- the method's frame as it stands now, seen as a call that has just begun -/
theorem ax_re {T : State} (X : Stand p l e R s m args below meth c T locs cells slots) {R' : Room} (hf : R'.frames ≤ R.frames) (hl : R'.locals ≤ R.locals) (hc : cells + R'.cells ≤ R.cells) (hs : slots + R'.slots ≤ R.slots) {s' : State} (hs' : s' = (T.setVm s.vm).setFrames (.invoking m args :: below)) :
    Stand p l e R' s' m args below meth c T [] 0 0 := by
  subst hs'
  have htop : (T.setVm s.vm).topJava?.isSome := X.here.top
  have hF : ((T.setVm s.vm).setFrames (.invoking m args :: below)).frames = .invoking m args :: below := State.frames_setFrames _ (State.cur_lt_of_top htop)
  obtain ⟨g₀, hg0⟩ := Option.isSome_iff_exists.mp htop
  obtain ⟨r, hr⟩ := State.topJava?_eq_some.mp hg0
  obtain ⟨th, hth, -⟩ := State.frames_cons hr
  have hlim : e.platform.stackLimits (T.setVm s.vm).me = e.platform.stackLimits s.me := X.limits
  have hbyt : (T.setVm s.vm).me.stackBytes = s.me.stackBytes := X.bytes
  have hno : T.heap.toList.drop T.heap.size = [] := List.drop_eq_nil_of_le (Nat.le_of_eq Array.length_toList)
  have hroom : ((T.setVm s.vm).setFrames (.invoking m args :: below)).hasRoom e.platform R' = true := by
    have h0 := X.room
    have hU : ((T.setVm s.vm).setFrames (.invoking m args :: below)).localsInUse = s.localsInUse := by
      rw [State.localsInUse_invoking hF (meth := meth) (c := c) X.method X.code, State.localsInUse_invoking X.frames X.method X.code]
    simp only [State.hasRoom, Bool.and_eq_true, decide_eq_true_eq] at h0 ⊢
    obtain ⟨⟨⟨⟨a1, a2, a3, a4, a5, a6⟩, a7⟩, a8⟩, a9⟩ := h0
    rw [X.frames, List.length_cons] at a2 a3
    have q1 := X.heapSize
    have q2 := X.used
    simp only [hF, hU, List.length_cons, State.stackLimits_setFrames, State.stackBytes_setFrames, hlim, hbyt]
    have q3 : ((T.setVm s.vm).setFrames (.invoking m args :: below)).heap.size = T.heap.size := rfl
    have q4 : ((T.setVm s.vm).setFrames (.invoking m args :: below)).slotsUsed = T.slotsUsed := rfl
    rw [q3, q4]
    exact ⟨⟨⟨⟨by omega, by omega, by omega, by omega, by omega, a6⟩, by omega⟩, by omega⟩, X.book⟩
  refine ⟨X.admits, X.cas, X.clock, hF, hroom, X.hears, X.method, X.code, X.here, X.tail, X.warmed, ?_, ?_, ?_⟩
  · rw [State.stackLimits_setFrames]; rfl
  · rw [State.stackBytes_setFrames]; rfl
  · refine ⟨?_, Nat.le_refl _, Nat.le_refl _, ?_, ?_, fun a c9 h9 => ⟨c9, h9, rfl, rfl, fun _ _ => rfl⟩⟩
    · show T.setVm s.vm = { ((T.setVm s.vm).setFrames (.invoking m args :: below)).setFrames (T.setVm s.vm).frames with heap := T.heap, slotsUsed := T.slotsUsed }
      rw [State.setFrames_setFrames, State.setFrames_self hth]
      rfl
    · show T.slotsUsed = T.slotsUsed + ((T.heap.toList.drop T.heap.size).map (·.slots.size)).sum
      rw [hno]; rfl
    · show ((T.heap.toList.drop T.heap.size).map (·.slots.size)).sum ≤ 0
      rw [hno]; exact Nat.le_refl _
end AXR
/-- what has not been written is as it was -/
theorem ax_same {s U : State} {k n : Nat} (h : s.sameButNew ({ U with vm := s.vm } : State) [] k n) : s.heap.size ≤ U.heap.size ∧ U.heap.size ≤ s.heap.size + k ∧ ∀ q : Nat, q < s.heap.size → U.heap[q]? = s.heap[q]? := by
  obtain ⟨-, h2, h3, -, -, h6⟩ := h
  refine ⟨h2, h3, fun q hq => ?_⟩
  obtain ⟨c9, e1, e2, e3, e4⟩ := h6 q _ (Array.getElem?_eq_getElem hq)
  have hsl : c9.slots = (s.heap[q]).slots := Array.ext_getElem? fun i => e4 i (fun hm => nomatch hm)
  have hc9 : c9 = s.heap[q] := by
    rw [hsl] at e2
    exact e2
  have e5 : U.heap[q]? = some c9 := e1
  rw [e5, hc9, Array.getElem?_eq_getElem hq]
def ax_isN (w : Cond) : Bool := decide (w = .isRef (.static Bundle.tN "UNASSIGNED_STACK" Bundle.steD)) || decide (w = .isRef (.static Bundle.tN "SUPPRESSED_SENTINEL" Bundle.listD)) || decide (w = .laysStatic Bundle.tN "UNASSIGNED_STACK" Bundle.steD) || decide (w = .laysStatic Bundle.tN "SUPPRESSED_SENTINEL" Bundle.listD)
/-- the words of a throw stand in the lists, but the four that speak of the heap -/
def ax_thr (own : String) (ik is ic ci : Nat) (cls text : String) (names : List String) : Prop :=
  Bundle.fit cls = true ∧ (∀ n ∈ names, Bundle.fit n = true) ∧ names.length ≤ 2 ∧ Cond.classLink own ik cls ∈ aw_T ∧ Cond.initialized cls ∈ aw_T ∧ (own, is, text) ∈ aw_SR ∧ (am_cl[ci]? = some (cls, fun _ => ("", "", "", false), 0)) ∧
    ∀ w ∈ Bundle.ownAtoms own ic cls names, ax_isN w = true ∨ w ∈ aw_T ∨ (w ∈ aw_N ∧ w.onTables = true)
section AXT
variable {G : ag_T} {M : am_M} {fr lo kc ks pc : Nat} {lv : List (Nat × Value)} {st : List Value} {h : List va_E} {Q : aq_T}
theorem aw_throw (ci : Nat) {ik is ic : Nat} {cls text : String} {names : List String} (hw : ax_thr M.1 ik is ic ci cls text names)
    (d0 : decode M.2.2.1 pc = .ok (.new ik, 3)) (d3 : decode M.2.2.1 (pc + 3) = .ok (.dup, 1)) (d4 : decode M.2.2.1 (pc + 4) = .ok (.ldc is, 2)) (d6 : decode M.2.2.1 (pc + 6) = .ok (.invokespecial ic, 3)) (d9 : decode M.2.2.1 (pc + 9) = .ok (.athrow, 1))
    (hout : ∀ x ∈ tableOf M.2.2.2.2.2, covers x (pc + 9) = false) (hf9 : 6 ≤ fr) (hrest : (st.map fun v => v.category).sum + 83 ≤ lo) (hk1 : 1 ≤ kc) (hk2 : 6 ≤ ks) (hq : Q (.inr ci) (h ++ [.inr (ci, [])])) : aw_w G M fr lo kc ks pc lv st h Q := by
  intro p l e R s m args below meth c H locs cells slots mc ms ls C hl hR hO hS hG h1 h2 h3 h4 T hT X
  obtain ⟨hx, hb, hml, hown, hts, hret, htab, hlk, hnm, hst9, hK, hfr, hlo⟩ := id C
  obtain ⟨w1, w2, w2b, w3, w4, w5, w6, w7⟩ := hw
  have htr : e.platform.stackTraces = false := (show e.platform.stackTraces = l.stackTraces by rw [X.admits.platform]).trans hst9
  obtain ⟨s', hs'⟩ : ∃ z, z = (T.setVm s.vm).setFrames (.invoking m args :: below) := ⟨_, rfl⟩
  have Y := ax_re X (R' := { frames := R.frames, locals := R.locals, cells := 1, slots := 6 }) (Nat.le_refl _) (Nat.le_refl _) (by show cells + 1 ≤ R.cells; omega) (by show slots + 6 ≤ R.slots; omega) hs'
  have hvm : s'.vm = s.vm := by rw [hs']; rfl
  have hhp : s'.heap = H := by rw [hs']; exact hT
  have hW0 : s.WarmedH s'.vm := by rw [hvm]; exact State.WarmedH.refl s
  have hO' : aw_O G s' s'.heap := by
    rw [hhp]
    exact (hO.moved hW0).kept hS.2.1
  have hts' : ∀ w ∈ aw_T, w.before args s' = true := fun w hw => word_at hW0 (aw_good w hw) (hts w hw)
  have hat : ∀ w ∈ Bundle.ownAtoms M.1 ic cls names, w.before args s' = true := by
    intro w hw
    rcases w7 w hw with h9 | h9 | ⟨h9, h10⟩
    · simp only [ax_isN, Bool.or_eq_true, decide_eq_true_eq] at h9
      rcases h9 with ((rfl | rfl) | rfl) | rfl
      · exact hO'.2.2.1.ref
      · exact hO'.2.2.2.1.ref
      · exact hO'.2.2.1.lays
      · exact hO'.2.2.2.1.lays
    · exact hts' w h9
    · exact va_tabs h10 hvm.symm (hK.2.1 w h9)
  have hown' : s'.vm.findClass M.1 = some m.cls := by rw [hvm]; exact hown
  have hins : (Cond.instantiable cls 6).before args s' = true := hat _ (by simp [Bundle.ownAtoms])
  obtain ⟨vm₁, cX, kX, hfX, hkX, -, -, X₁, st1⟩ := Y.newCold hx (own := M.1) (C := cls) (index := ik) (n := 6) hown' (hts' _ w3) hins (hts' _ w4) (g := F0 m pc ls st) rfl (by rw [hb]; exact d0) (Nat.le_refl _) (Nat.le_refl _)
  generalize hT1 : (T.setVm vm₁).pushCell { cls := cX, slots := kX.instanceTypes.map defaultValue, vm := .none } = T1 at X₁ st1
  have hcellA : T1.heap[T.heap.size]? = some (freshCell cX kX) := by rw [← hT1]; exact State.heap_pushCell_size _ _
  obtain ⟨sa, hsr0⟩ := hK.2.2.2 _ w5
  have hsr : vk_R M.1 is text sa s' := vk_R.warm hW0 hsr0
  have hcat : (Value.ref T.heap.size).category = 1 := rfl
  have hsz : ls.size = c.maxLocals := hl.1.trans hml.symm
  have d3' : decode c.code (pc + 3) = .ok (.dup, 1) := by rw [hb]; exact d3
  have d4' : decode c.code (pc + 4) = .ok (.ldc is, 2) := by rw [hb]; exact d4
  obtain ⟨U, hsteps, hrun, hend, hW, hsame, ce, hce, hOc⟩ := X₁.ctorThrowS hx htr (own := M.1) (cls := cls) (names := names) (ic := ic) hown' w1 w2 hat (fun x hx9 => nomatch hx9) hfX hkX hcellA (by rw [hhp, hT]; exact Nat.le_refl _) (msg := .ref sa) rfl
    (g := { method := m, pc := pc + 6, locals := ls, stack := .ref sa :: .ref T.heap.size :: .ref T.heap.size :: st, locked := none }) rfl hsz rfl rfl (rest := st) rfl
    (by rw [hb]; exact d6) (by rw [hb]; exact d9) (by rw [htab]; exact hout) (by show names.length + 3 < R.frames; omega) (by show 2 * 0 + ((Value.ref T.heap.size :: st).map fun v => v.category).sum + (13 * (names.length + 1) + 42) ≤ R.locals; simp only [List.map_cons, List.sum_cons, hcat]; omega) hlk
  obtain ⟨f1, f2, f3⟩ := ax_same hsame
  rw [hhp] at f1 f2 f3
  have hlt : H.size < U.heap.size := by
    have := (Array.getElem?_eq_some_iff.mp hce).1
    rw [hT] at this
    exact this
  have hz : U.heap.size = H.size + 1 := by omega
  have hcls : s.vm.findClass cls = some ce.cls := by
    have h9 := hOc.cls
    rw [hvm] at h9
    exact h9
  have hall : s.sameButNew ({ U with vm := s.vm } : State) locs mc ms := by
    subst hs'
    obtain ⟨e1, e2⟩ := hsame
    rw [State.setFrames_setFrames] at e1
    have h5 : (T.setVm s.vm).sameButNew ({ U with vm := s.vm } : State) [] (0 + 1) (0 + 6) := ⟨e1, e2⟩
    have h6 := X.same.trans h5
    rw [List.append_nil] at h6
    exact h6.mono (by omega) (by omega)
  have eT : T.heap.size = G.1 + h.length := by rw [hT]; exact hR.2
  have hR' : ah_R G (h ++ [.inr (ci, [])]) U.heap := by
    refine hR.push hz f3 ⟨_, w6, ce, by rw [← eT]; exact hce, ?_, hOc.vm, fun k hk => absurd hk (Nat.not_lt_zero k)⟩
    exact Option.some.inj (hcls.symm.trans (hK.1.1 ci _ w6).2.1)
  refine ⟨U, ?_, .threw (G.1 + h.length), hrun, by rw [← eT]; exact hend, h ++ [.inr (ci, [])], locs, hR', State.WarmedH.trans hW0 hW, hall, aw_Sp hS (by omega) f3, Or.inr ⟨h.length, ci, rfl, by simp, hq⟩⟩
  refine st1 _ ?_
  show Steps p.tables e below (T1.setTop { method := m, pc := pc + 3, locals := ls, stack := .ref T.heap.size :: st, locked := none }) _
  jvm_step X₁.here [X₁.here.top, hx, d3', Value.category]
  exact X₁.ldcString hx (own := M.1) (text := text) (index := is) (a := sa) hown' hsr.1 hsr.2
    (g := { method := m, pc := pc + 4, locals := ls, stack := .ref T.heap.size :: .ref T.heap.size :: st, locked := none }) rfl d4' _ hsteps
end AXT
end
section
/-! ===== methods and links as facts: printed by wip/whole/facts.py ===== -/
def mm_ra_init : am_M := ("RoleAnalyser", ⟨"RoleAnalyser", "<init>", "()V"⟩, prog_1_method_1_code, 1, none, [])
theorem my_ra_init : aw_my mm_ra_init := ⟨Or.inl ⟨aw_m1 28 rfl rfl, rfl⟩, by decide +kernel, rfl⟩
def mm_po_init : am_M := ("RoleAnalyser$Policy", ⟨"RoleAnalyser$Policy", "<init>", "()V"⟩, prog_3_method_1_code, 2, none, [])
theorem my_po_init : aw_my mm_po_init := ⟨Or.inl ⟨aw_m1 36 rfl rfl, rfl⟩, by decide +kernel, rfl⟩
def mm_al_init : am_M := ("java/util/ArrayList", ⟨"java/util/ArrayList", "<init>", "()V"⟩, prog_24_method_2_code, 1, none, [])
theorem my_al_init : aw_my mm_al_init := ⟨Or.inl ⟨aw_m1 42 rfl rfl, rfl⟩, by decide +kernel, rfl⟩
def mm_bl_init : am_M := ("java/util/AbstractList", ⟨"java/util/AbstractList", "<init>", "()V"⟩, prog_23_method_1_code, 1, none, [])
theorem my_bl_init : aw_my mm_bl_init := ⟨Or.inl ⟨aw_m1 45 rfl rfl, rfl⟩, by decide +kernel, rfl⟩
def mm_bc_init : am_M := ("java/util/AbstractCollection", ⟨"java/util/AbstractCollection", "<init>", "()V"⟩, prog_22_method_1_code, 1, none, [])
theorem my_bc_init : aw_my mm_bc_init := ⟨Or.inl ⟨aw_m1 48 rfl rfl, rfl⟩, by decide +kernel, rfl⟩
def mm_se_init : am_M := ("RoleAnalyser$Search", ⟨"RoleAnalyser$Search", "<init>", "(LRoleAnalyser$Policy;)V"⟩, prog_5_method_1_code, 2, none, [])
theorem my_se_init : aw_my mm_se_init := ⟨Or.inl ⟨aw_m1 92 rfl rfl, rfl⟩, by decide +kernel, rfl⟩
def mm_ar_fill : am_M := ("java/util/Arrays", ⟨"java/util/Arrays", "fill", "([II)V"⟩, prog_25_method_103_code, 4, none, [])
theorem my_ar_fill : aw_my mm_ar_fill := ⟨Or.inl ⟨aw_m1 112 rfl rfl, rfl⟩, by decide +kernel, rfl⟩
def mm_lw_role : am_M := ("RoleAnalyserLaw", ⟨"RoleAnalyserLaw", "role", "(LRoleAnalyser;[J)I"⟩, method_3_code, 3, (some .int), [(0, 8, 11, 13)])
theorem my_lw_role : aw_my mm_lw_role := ⟨Or.inr (aw_m1 137 rfl rfl), by decide +kernel, rfl⟩
def mm_ra_role : am_M := ("RoleAnalyser", ⟨"RoleAnalyser", "role", "()I"⟩, prog_1_method_2_code, 2, (some .int), [])
theorem my_ra_role : aw_my mm_ra_role := ⟨Or.inl ⟨aw_m1 142 rfl rfl, rfl⟩, by decide +kernel, rfl⟩
def mm_lw_user : am_M := ("RoleAnalyserLaw", ⟨"RoleAnalyserLaw", "user", "(LRoleAnalyser;[J)I"⟩, method_4_code, 3, (some .int), [(0, 8, 11, 13)])
theorem my_lw_user : aw_my mm_lw_user := ⟨Or.inr (aw_m1 214 rfl rfl), by decide +kernel, rfl⟩
def mm_ra_user : am_M := ("RoleAnalyser", ⟨"RoleAnalyser", "user", "()I"⟩, prog_1_method_3_code, 2, (some .int), [])
theorem my_ra_user : aw_my mm_ra_user := ⟨Or.inl ⟨aw_m1 218 rfl rfl, rfl⟩, by decide +kernel, rfl⟩
def mm_lw_above : am_M := ("RoleAnalyserLaw", ⟨"RoleAnalyserLaw", "above", "(LRoleAnalyser;II[J)I"⟩, method_5_code, 5, (some .int), [(0, 17, 20, 22), (0, 17, 24, 24), (0, 17, 28, 13)])
theorem my_lw_above : aw_my mm_lw_above := ⟨Or.inr (aw_m1 222 rfl rfl), by decide +kernel, rfl⟩
def mm_ra_above : am_M := ("RoleAnalyser", ⟨"RoleAnalyser", "above", "(II)Z"⟩, prog_1_method_4_code, 4, (some .boolean), [])
theorem my_ra_above : aw_my mm_ra_above := ⟨Or.inl ⟨aw_m1 228 rfl rfl, rfl⟩, by decide +kernel, rfl⟩
def mm_ra_checkRole : am_M := ("RoleAnalyser", ⟨"RoleAnalyser", "checkRole", "(I)V"⟩, prog_1_method_27_code, 2, none, [])
theorem my_ra_checkRole : aw_my mm_ra_checkRole := ⟨Or.inl ⟨aw_m1 232 rfl rfl, rfl⟩, by decide +kernel, rfl⟩
def mm_po_standsAbove : am_M := ("RoleAnalyser$Policy", ⟨"RoleAnalyser$Policy", "standsAbove", "(II)Z"⟩, prog_3_method_2_code, 3, (some .boolean), [])
theorem my_po_standsAbove : aw_my mm_po_standsAbove := ⟨Or.inl ⟨aw_m2 12 rfl rfl, rfl⟩, by decide +kernel, rfl⟩
def mm_ra_has : am_M := ("RoleAnalyser", ⟨"RoleAnalyser", "has", "(II)Z"⟩, prog_1_method_36_code, 2, (some .boolean), [])
theorem my_ra_has : aw_my mm_ra_has := ⟨Or.inl ⟨aw_m2 15 rfl rfl, rfl⟩, by decide +kernel, rfl⟩
def mm_ra_authorizedRoles : am_M := ("RoleAnalyser", ⟨"RoleAnalyser", "authorizedRoles", "(I)I"⟩, prog_1_method_22_code, 2, (some .int), [])
theorem my_ra_authorizedRoles : aw_my mm_ra_authorizedRoles := ⟨Or.inl ⟨aw_m2 35 rfl rfl, rfl⟩, by decide +kernel, rfl⟩
def mm_po_widened : am_M := ("RoleAnalyser$Policy", ⟨"RoleAnalyser$Policy", "widened", "(III)I"⟩, prog_3_method_3_code, 4, (some .int), [])
theorem my_po_widened : aw_my mm_po_widened := ⟨Or.inl ⟨aw_m2 39 rfl rfl, rfl⟩, by decide +kernel, rfl⟩
def mm_ra_checkStaticLimits : am_M := ("RoleAnalyser", ⟨"RoleAnalyser", "checkStaticLimits", "(I)V"⟩, prog_1_method_32_code, 2, none, [])
theorem my_ra_checkStaticLimits : aw_my mm_ra_checkStaticLimits := ⟨Or.inl ⟨aw_m2 43 rfl rfl, rfl⟩, by decide +kernel, rfl⟩
def mm_ra_areKept : am_M := ("RoleAnalyser", ⟨"RoleAnalyser", "areKept", "(Ljava/util/ArrayList;I)Z"⟩, prog_1_method_37_code, 3, (some .boolean), [])
theorem my_ra_areKept : aw_my mm_ra_areKept := ⟨Or.inl ⟨aw_m2 46 rfl rfl, rfl⟩, by decide +kernel, rfl⟩
def mm_al_size : am_M := ("java/util/ArrayList", ⟨"java/util/ArrayList", "size", "()I"⟩, prog_24_method_8_code, 1, (some .int), [])
theorem my_al_size : aw_my mm_al_size := ⟨Or.inl ⟨aw_m2 50 rfl rfl, rfl⟩, by decide +kernel, rfl⟩
def mm_al_get : am_M := ("java/util/ArrayList", ⟨"java/util/ArrayList", "get", "(I)Ljava/lang/Object;"⟩, prog_24_method_20_code, 2, (some (.object "java/lang/Object")), [])
theorem my_al_get : aw_my mm_al_get := ⟨Or.inl ⟨aw_m2 54 rfl rfl, rfl⟩, by decide +kernel, rfl⟩
def mm_ot_checkIndex : am_M := ("java/util/Objects", ⟨"java/util/Objects", "checkIndex", "(II)I"⟩, prog_28_method_17_code, 2, (some .int), [])
theorem my_ot_checkIndex : aw_my mm_ot_checkIndex := ⟨Or.inl ⟨aw_m2 57 rfl rfl, rfl⟩, by decide +kernel, rfl⟩
def mm_pc_checkIndex : am_M := ("jdk/internal/util/Preconditions", ⟨"jdk/internal/util/Preconditions", "checkIndex", "(IILjava/util/function/BiFunction;)I"⟩, prog_32_method_11_code, 3, (some .int), [])
theorem my_pc_checkIndex : aw_my mm_pc_checkIndex := ⟨Or.inl ⟨aw_m2 60 rfl rfl, rfl⟩, by decide +kernel, rfl⟩
def mm_al_elementData : am_M := ("java/util/ArrayList", ⟨"java/util/ArrayList", "elementData", "(I)Ljava/lang/Object;"⟩, prog_24_method_18_code, 2, (some (.object "java/lang/Object")), [])
theorem my_al_elementData : aw_my mm_al_elementData := ⟨Or.inl ⟨aw_m2 64 rfl rfl, rfl⟩, by decide +kernel, rfl⟩
def mm_li_isKept : am_M := ("RoleAnalyser$Limit", ⟨"RoleAnalyser$Limit", "isKept", "(I)Z"⟩, prog_2_method_2_code, 2, (some .boolean), [])
theorem my_li_isKept : aw_my mm_li_isKept := ⟨Or.inl ⟨aw_m2 69 rfl rfl, rfl⟩, by decide +kernel, rfl⟩
def mm_ig_bitCount : am_M := ("java/lang/Integer", ⟨"java/lang/Integer", "bitCount", "(I)I"⟩, prog_14_method_49_code, 1, (some .int), [])
theorem my_ig_bitCount : aw_my mm_ig_bitCount := ⟨Or.inl ⟨aw_m2 72 rfl rfl, rfl⟩, by decide +kernel, rfl⟩
def mm_po_putAbove : am_M := ("RoleAnalyser$Policy", ⟨"RoleAnalyser$Policy", "putAbove", "(II)V"⟩, prog_3_method_4_code, 4, none, [])
theorem my_po_putAbove : aw_my mm_po_putAbove := ⟨Or.inl ⟨aw_m2 80 rfl rfl, rfl⟩, by decide +kernel, rfl⟩
def mm_lw_grant : am_M := ("RoleAnalyserLaw", ⟨"RoleAnalyserLaw", "grant", "(LRoleAnalyser;II[J)I"⟩, method_6_code, 5, (some .int), [(0, 17, 20, 22)])
theorem my_lw_grant : aw_my mm_lw_grant := ⟨Or.inr (aw_m2 84 rfl rfl), by decide +kernel, rfl⟩
def mm_ra_grant : am_M := ("RoleAnalyser", ⟨"RoleAnalyser", "grant", "(II)Z"⟩, prog_1_method_5_code, 4, (some .boolean), [])
theorem my_ra_grant : aw_my mm_ra_grant := ⟨Or.inl ⟨aw_m2 88 rfl rfl, rfl⟩, by decide +kernel, rfl⟩
def mm_ra_checkPermission : am_M := ("RoleAnalyser", ⟨"RoleAnalyser", "checkPermission", "(I)V"⟩, prog_1_method_34_code, 1, none, [])
theorem my_ra_checkPermission : aw_my mm_ra_checkPermission := ⟨Or.inl ⟨aw_m2 91 rfl rfl, rfl⟩, by decide +kernel, rfl⟩
def mm_lw_limit : am_M := ("RoleAnalyserLaw", ⟨"RoleAnalyserLaw", "limit", "(LRoleAnalyser;ZII)I"⟩, method_7_code, 5, (some .int), [(0, 7, 10, 24), (0, 7, 14, 13)])
theorem my_lw_limit : aw_my mm_lw_limit := ⟨Or.inr (aw_m2 96 rfl rfl), by decide +kernel, rfl⟩
def mm_ra_limit : am_M := ("RoleAnalyser", ⟨"RoleAnalyser", "limit", "(ZII)V"⟩, prog_1_method_6_code, 6, none, [])
theorem my_ra_limit : aw_my mm_ra_limit := ⟨Or.inl ⟨aw_m2 100 rfl rfl, rfl⟩, by decide +kernel, rfl⟩
def mm_ra_checkRoleSet : am_M := ("RoleAnalyser", ⟨"RoleAnalyser", "checkRoleSet", "(I)V"⟩, prog_1_method_35_code, 1, none, [])
theorem my_ra_checkRoleSet : aw_my mm_ra_checkRoleSet := ⟨Or.inl ⟨aw_m2 104 rfl rfl, rfl⟩, by decide +kernel, rfl⟩
def mm_li_init : am_M := ("RoleAnalyser$Limit", ⟨"RoleAnalyser$Limit", "<init>", "(II)V"⟩, prog_2_method_1_code, 3, none, [])
theorem my_li_init : aw_my mm_li_init := ⟨Or.inl ⟨aw_m2 110 rfl rfl, rfl⟩, by decide +kernel, rfl⟩
def mm_ra_isKeptBySessions : am_M := ("RoleAnalyser", ⟨"RoleAnalyser", "isKeptBySessions", "(LRoleAnalyser$Limit;)Z"⟩, prog_1_method_26_code, 3, (some .boolean), [])
theorem my_ra_isKeptBySessions : aw_my mm_ra_isKeptBySessions := ⟨Or.inl ⟨aw_m2 122 rfl rfl, rfl⟩, by decide +kernel, rfl⟩
def mm_ra_isKeptByUsers : am_M := ("RoleAnalyser", ⟨"RoleAnalyser", "isKeptByUsers", "(LRoleAnalyser$Limit;)Z"⟩, prog_1_method_25_code, 3, (some .boolean), [])
theorem my_ra_isKeptByUsers : aw_my mm_ra_isKeptByUsers := ⟨Or.inl ⟨aw_m2 126 rfl rfl, rfl⟩, by decide +kernel, rfl⟩
def mm_al_add1 : am_M := ("java/util/ArrayList", ⟨"java/util/ArrayList", "add", "(Ljava/lang/Object;)Z"⟩, prog_24_method_25_code, 2, (some .boolean), [])
theorem my_al_add1 : aw_my mm_al_add1 := ⟨Or.inl ⟨aw_m2 131 rfl rfl, rfl⟩, by decide +kernel, rfl⟩
def mm_al_add2 : am_M := ("java/util/ArrayList", ⟨"java/util/ArrayList", "add", "(Ljava/lang/Object;[Ljava/lang/Object;I)V"⟩, prog_24_method_24_code, 4, none, [])
theorem my_al_add2 : aw_my mm_al_add2 := ⟨Or.inl ⟨aw_m2 135 rfl rfl, rfl⟩, by decide +kernel, rfl⟩
def mm_al_grow1 : am_M := ("java/util/ArrayList", ⟨"java/util/ArrayList", "grow", "()[Ljava/lang/Object;"⟩, prog_24_method_7_code, 1, (some (.array (.object "java/lang/Object"))), [])
theorem my_al_grow1 : aw_my mm_al_grow1 := ⟨Or.inl ⟨aw_m2 139 rfl rfl, rfl⟩, by decide +kernel, rfl⟩
def mm_al_grow2 : am_M := ("java/util/ArrayList", ⟨"java/util/ArrayList", "grow", "(I)[Ljava/lang/Object;"⟩, prog_24_method_6_code, 4, (some (.array (.object "java/lang/Object"))), [])
theorem my_al_grow2 : aw_my mm_al_grow2 := ⟨Or.inl ⟨aw_m2 143 rfl rfl, rfl⟩, by decide +kernel, rfl⟩
def mm_su_newLength : am_M := ("jdk/internal/util/ArraysSupport", ⟨"jdk/internal/util/ArraysSupport", "newLength", "(III)I"⟩, prog_31_method_27_code, 4, (some .int), [])
theorem my_su_newLength : aw_my mm_su_newLength := ⟨Or.inl ⟨aw_m2 146 rfl rfl, rfl⟩, by decide +kernel, rfl⟩
def mm_ma_max : am_M := ("java/lang/Math", ⟨"java/lang/Math", "max", "(II)I"⟩, prog_16_method_65_code, 2, (some .int), [])
theorem my_ma_max : aw_my mm_ma_max := ⟨Or.inl ⟨aw_m2 149 rfl rfl, rfl⟩, by decide +kernel, rfl⟩
def mm_su_hugeLength : am_M := ("jdk/internal/util/ArraysSupport", ⟨"jdk/internal/util/ArraysSupport", "hugeLength", "(II)I"⟩, prog_31_method_28_code, 3, (some .int), [])
theorem my_su_hugeLength : aw_my mm_su_hugeLength := ⟨Or.inl ⟨aw_m2 153 rfl rfl, rfl⟩, by decide +kernel, rfl⟩
def mm_ar_copyOf1 : am_M := ("java/util/Arrays", ⟨"java/util/Arrays", "copyOf", "([Ljava/lang/Object;I)[Ljava/lang/Object;"⟩, prog_25_method_119_code, 2, (some (.array (.object "java/lang/Object"))), [])
theorem my_ar_copyOf1 : aw_my mm_ar_copyOf1 := ⟨Or.inl ⟨aw_m2 156 rfl rfl, rfl⟩, by decide +kernel, rfl⟩
def mm_ar_copyOf2 : am_M := ("java/util/Arrays", ⟨"java/util/Arrays", "copyOf", "([Ljava/lang/Object;ILjava/lang/Class;)[Ljava/lang/Object;"⟩, prog_25_method_120_code, 4, (some (.array (.object "java/lang/Object"))), [])
theorem my_ar_copyOf2 : aw_my mm_ar_copyOf2 := ⟨Or.inl ⟨aw_m2 174 rfl rfl, rfl⟩, by decide +kernel, rfl⟩
def mm_ma_min : am_M := ("java/lang/Math", ⟨"java/lang/Math", "min", "(II)I"⟩, prog_16_method_69_code, 2, (some .int), [])
theorem my_ma_min : aw_my mm_ma_min := ⟨Or.inl ⟨aw_m2 180 rfl rfl, rfl⟩, by decide +kernel, rfl⟩
def mm_lw_giveRule : am_M := ("RoleAnalyserLaw", ⟨"RoleAnalyserLaw", "giveRule", "(LRoleAnalyser;IIII[J)I"⟩, method_8_code, 7, (some .int), [(0, 14, 17, 22), (0, 14, 21, 24), (0, 14, 25, 13)])
theorem my_lw_giveRule : aw_my mm_lw_giveRule := ⟨Or.inr (aw_m2 188 rfl rfl), by decide +kernel, rfl⟩
def mm_ra_giveRule : am_M := ("RoleAnalyser", ⟨"RoleAnalyser", "giveRule", "(IIII)I"⟩, prog_1_method_7_code, 5, (some .int), [])
theorem my_ra_giveRule : aw_my mm_ra_giveRule := ⟨Or.inl ⟨aw_m2 192 rfl rfl, rfl⟩, by decide +kernel, rfl⟩
def mm_ra_checkRoomForRule : am_M := ("RoleAnalyser", ⟨"RoleAnalyser", "checkRoomForRule", "()V"⟩, prog_1_method_31_code, 1, none, [])
theorem my_ra_checkRoomForRule : aw_my mm_ra_checkRoomForRule := ⟨Or.inl ⟨aw_m2 196 rfl rfl, rfl⟩, by decide +kernel, rfl⟩
def mm_ru_init : am_M := ("RoleAnalyser$Rule", ⟨"RoleAnalyser$Rule", "<init>", "(ZIIII)V"⟩, prog_4_method_1_code, 6, none, [])
theorem my_ru_init : aw_my mm_ru_init := ⟨Or.inl ⟨aw_m2 202 rfl rfl, rfl⟩, by decide +kernel, rfl⟩
def mm_po_addRule : am_M := ("RoleAnalyser$Policy", ⟨"RoleAnalyser$Policy", "addRule", "(LRoleAnalyser$Rule;)I"⟩, prog_3_method_5_code, 2, (some .int), [])
theorem my_po_addRule : aw_my mm_po_addRule := ⟨Or.inl ⟨aw_m2 223 rfl rfl, rfl⟩, by decide +kernel, rfl⟩
def mm_lw_takeRule : am_M := ("RoleAnalyserLaw", ⟨"RoleAnalyserLaw", "takeRule", "(LRoleAnalyser;II[J)I"⟩, method_9_code, 5, (some .int), [(0, 10, 13, 22), (0, 10, 17, 13)])
theorem my_lw_takeRule : aw_my mm_lw_takeRule := ⟨Or.inr (aw_m2 228 rfl rfl), by decide +kernel, rfl⟩
def mm_ra_takeRule : am_M := ("RoleAnalyser", ⟨"RoleAnalyser", "takeRule", "(II)I"⟩, prog_1_method_8_code, 3, (some .int), [])
theorem my_ra_takeRule : aw_my mm_ra_takeRule := ⟨Or.inl ⟨aw_m2 232 rfl rfl, rfl⟩, by decide +kernel, rfl⟩
def mm_lw_assign : am_M := ("RoleAnalyserLaw", ⟨"RoleAnalyserLaw", "assign", "(LRoleAnalyser;II[J)I"⟩, method_10_code, 5, (some .int), [(0, 17, 20, 22), (0, 17, 24, 13)])
theorem my_lw_assign : aw_my mm_lw_assign := ⟨Or.inr (aw_m2 235 rfl rfl), by decide +kernel, rfl⟩
def mm_ra_assign : am_M := ("RoleAnalyser", ⟨"RoleAnalyser", "assign", "(II)Z"⟩, prog_1_method_9_code, 3, (some .boolean), [])
theorem my_ra_assign : aw_my mm_ra_assign := ⟨Or.inl ⟨aw_m2 239 rfl rfl, rfl⟩, by decide +kernel, rfl⟩
def mm_ra_checkUser : am_M := ("RoleAnalyser", ⟨"RoleAnalyser", "checkUser", "(I)V"⟩, prog_1_method_28_code, 2, none, [])
theorem my_ra_checkUser : aw_my mm_ra_checkUser := ⟨Or.inl ⟨aw_m3 3 rfl rfl, rfl⟩, by decide +kernel, rfl⟩
def mm_ra_addAssignment : am_M := ("RoleAnalyser", ⟨"RoleAnalyser", "addAssignment", "(II)Z"⟩, prog_1_method_23_code, 5, (some .boolean), [])
theorem my_ra_addAssignment : aw_my mm_ra_addAssignment := ⟨Or.inl ⟨aw_m3 8 rfl rfl, rfl⟩, by decide +kernel, rfl⟩
def mm_lw_remove : am_M := ("RoleAnalyserLaw", ⟨"RoleAnalyserLaw", "remove", "(LRoleAnalyser;II[J)I"⟩, method_11_code, 5, (some .int), [(0, 17, 20, 22)])
theorem my_lw_remove : aw_my mm_lw_remove := ⟨Or.inr (aw_m3 11 rfl rfl), by decide +kernel, rfl⟩
def mm_ra_remove : am_M := ("RoleAnalyser", ⟨"RoleAnalyser", "remove", "(II)Z"⟩, prog_1_method_10_code, 3, (some .boolean), [])
theorem my_ra_remove : aw_my mm_ra_remove := ⟨Or.inl ⟨aw_m3 15 rfl rfl, rfl⟩, by decide +kernel, rfl⟩
def mm_ra_dropAssignment : am_M := ("RoleAnalyser", ⟨"RoleAnalyser", "dropAssignment", "(II)Z"⟩, prog_1_method_24_code, 5, (some .boolean), [])
theorem my_ra_dropAssignment : aw_my mm_ra_dropAssignment := ⟨Or.inl ⟨aw_m3 19 rfl rfl, rfl⟩, by decide +kernel, rfl⟩
def mm_lw_give : am_M := ("RoleAnalyserLaw", ⟨"RoleAnalyserLaw", "give", "(LRoleAnalyser;III[J)I"⟩, method_12_code, 6, (some .int), [(0, 19, 22, 22), (0, 19, 26, 51), (0, 19, 30, 13)])
theorem my_lw_give : aw_my mm_lw_give := ⟨Or.inr (aw_m3 22 rfl rfl), by decide +kernel, rfl⟩
def mm_ra_give : am_M := ("RoleAnalyser", ⟨"RoleAnalyser", "give", "(III)Z"⟩, prog_1_method_11_code, 4, (some .boolean), [])
theorem my_ra_give : aw_my mm_ra_give := ⟨Or.inl ⟨aw_m3 27 rfl rfl, rfl⟩, by decide +kernel, rfl⟩
def mm_ra_checkLeave : am_M := ("RoleAnalyser", ⟨"RoleAnalyser", "checkLeave", "(ZIII)V"⟩, prog_1_method_33_code, 5, none, [])
theorem my_ra_checkLeave : aw_my mm_ra_checkLeave := ⟨Or.inl ⟨aw_m3 31 rfl rfl, rfl⟩, by decide +kernel, rfl⟩
def mm_po_isAllowed : am_M := ("RoleAnalyser$Policy", ⟨"RoleAnalyser$Policy", "isAllowed", "(ZIII)Z"⟩, prog_3_method_6_code, 7, (some .boolean), [])
theorem my_po_isAllowed : aw_my mm_po_isAllowed := ⟨Or.inl ⟨aw_m3 35 rfl rfl, rfl⟩, by decide +kernel, rfl⟩
def mm_ru_isFor : am_M := ("RoleAnalyser$Rule", ⟨"RoleAnalyser$Rule", "isFor", "(ZI)Z"⟩, prog_4_method_2_code, 3, (some .boolean), [])
theorem my_ru_isFor : aw_my mm_ru_isFor := ⟨Or.inl ⟨aw_m3 41 rfl rfl, rfl⟩, by decide +kernel, rfl⟩
def mm_ru_allows : am_M := ("RoleAnalyser$Rule", ⟨"RoleAnalyser$Rule", "allows", "(II)Z"⟩, prog_4_method_3_code, 3, (some .boolean), [])
theorem my_ru_allows : aw_my mm_ru_allows := ⟨Or.inl ⟨aw_m3 45 rfl rfl, rfl⟩, by decide +kernel, rfl⟩
def mm_lw_take : am_M := ("RoleAnalyserLaw", ⟨"RoleAnalyserLaw", "take", "(LRoleAnalyser;III[J)I"⟩, method_13_code, 6, (some .int), [(0, 19, 22, 22), (0, 19, 26, 51)])
theorem my_lw_take : aw_my mm_lw_take := ⟨Or.inr (aw_m3 65 rfl rfl), by decide +kernel, rfl⟩
def mm_ra_take : am_M := ("RoleAnalyser", ⟨"RoleAnalyser", "take", "(III)Z"⟩, prog_1_method_12_code, 4, (some .boolean), [])
theorem my_ra_take : aw_my mm_ra_take := ⟨Or.inl ⟨aw_m3 69 rfl rfl, rfl⟩, by decide +kernel, rfl⟩
def mm_lw_roles : am_M := ("RoleAnalyserLaw", ⟨"RoleAnalyserLaw", "roles", "(LRoleAnalyser;IZ[J)I"⟩, method_14_code, 5, (some .int), [(0, 10, 13, 22)])
theorem my_lw_roles : aw_my mm_lw_roles := ⟨Or.inr (aw_m3 72 rfl rfl), by decide +kernel, rfl⟩
def mm_ra_roles : am_M := ("RoleAnalyser", ⟨"RoleAnalyser", "roles", "(IZ)I"⟩, prog_1_method_13_code, 3, (some .int), [])
theorem my_ra_roles : aw_my mm_ra_roles := ⟨Or.inl ⟨aw_m3 76 rfl rfl, rfl⟩, by decide +kernel, rfl⟩
def mm_lw_open : am_M := ("RoleAnalyserLaw", ⟨"RoleAnalyserLaw", "open", "(LRoleAnalyser;I[J)I"⟩, method_15_code, 4, (some .int), [(0, 9, 12, 22), (0, 9, 15, 13)])
theorem my_lw_open : aw_my mm_lw_open := ⟨Or.inr (aw_m3 79 rfl rfl), by decide +kernel, rfl⟩
def mm_ra_open : am_M := ("RoleAnalyser", ⟨"RoleAnalyser", "open", "(I)I"⟩, prog_1_method_14_code, 3, (some .int), [])
theorem my_ra_open : aw_my mm_ra_open := ⟨Or.inl ⟨aw_m3 83 rfl rfl, rfl⟩, by decide +kernel, rfl⟩
def mm_lw_close : am_M := ("RoleAnalyserLaw", ⟨"RoleAnalyserLaw", "close", "(LRoleAnalyser;I)I"⟩, method_16_code, 3, (some .int), [(0, 5, 8, 22)])
theorem my_lw_close : aw_my mm_lw_close := ⟨Or.inr (aw_m3 87 rfl rfl), by decide +kernel, rfl⟩
def mm_ra_close : am_M := ("RoleAnalyser", ⟨"RoleAnalyser", "close", "(I)V"⟩, prog_1_method_15_code, 2, none, [])
theorem my_ra_close : aw_my mm_ra_close := ⟨Or.inl ⟨aw_m3 91 rfl rfl, rfl⟩, by decide +kernel, rfl⟩
def mm_ra_checkSession : am_M := ("RoleAnalyser", ⟨"RoleAnalyser", "checkSession", "(I)V"⟩, prog_1_method_29_code, 2, none, [])
theorem my_ra_checkSession : aw_my mm_ra_checkSession := ⟨Or.inl ⟨aw_m3 95 rfl rfl, rfl⟩, by decide +kernel, rfl⟩
def mm_lw_activate : am_M := ("RoleAnalyserLaw", ⟨"RoleAnalyserLaw", "activate", "(LRoleAnalyser;II[J)I"⟩, method_17_code, 5, (some .int), [(0, 17, 20, 22), (0, 17, 24, 51), (0, 17, 28, 13)])
theorem my_lw_activate : aw_my mm_lw_activate := ⟨Or.inr (aw_m3 99 rfl rfl), by decide +kernel, rfl⟩
def mm_ra_activate : am_M := ("RoleAnalyser", ⟨"RoleAnalyser", "activate", "(II)Z"⟩, prog_1_method_16_code, 5, (some .boolean), [])
theorem my_ra_activate : aw_my mm_ra_activate := ⟨Or.inl ⟨aw_m3 103 rfl rfl, rfl⟩, by decide +kernel, rfl⟩
def mm_lw_rest : am_M := ("RoleAnalyserLaw", ⟨"RoleAnalyserLaw", "rest", "(LRoleAnalyser;II[J)I"⟩, method_18_code, 5, (some .int), [(0, 17, 20, 22)])
theorem my_lw_rest : aw_my mm_lw_rest := ⟨Or.inr (aw_m3 108 rfl rfl), by decide +kernel, rfl⟩
def mm_ra_rest : am_M := ("RoleAnalyser", ⟨"RoleAnalyser", "rest", "(II)Z"⟩, prog_1_method_17_code, 4, (some .boolean), [])
theorem my_ra_rest : aw_my mm_ra_rest := ⟨Or.inl ⟨aw_m3 112 rfl rfl, rfl⟩, by decide +kernel, rfl⟩
def mm_lw_active : am_M := ("RoleAnalyserLaw", ⟨"RoleAnalyserLaw", "active", "(LRoleAnalyser;I[J)I"⟩, method_19_code, 4, (some .int), [(0, 9, 12, 22)])
theorem my_lw_active : aw_my mm_lw_active := ⟨Or.inr (aw_m3 115 rfl rfl), by decide +kernel, rfl⟩
def mm_ra_active : am_M := ("RoleAnalyser", ⟨"RoleAnalyser", "active", "(I)I"⟩, prog_1_method_18_code, 2, (some .int), [])
theorem my_ra_active : aw_my mm_ra_active := ⟨Or.inl ⟨aw_m3 119 rfl rfl, rfl⟩, by decide +kernel, rfl⟩
def mm_lw_may : am_M := ("RoleAnalyserLaw", ⟨"RoleAnalyserLaw", "may", "(LRoleAnalyser;II[J)I"⟩, method_20_code, 5, (some .int), [(0, 17, 20, 22)])
theorem my_lw_may : aw_my mm_lw_may := ⟨Or.inr (aw_m3 122 rfl rfl), by decide +kernel, rfl⟩
def mm_ra_may : am_M := ("RoleAnalyser", ⟨"RoleAnalyser", "may", "(II)Z"⟩, prog_1_method_19_code, 5, (some .boolean), [])
theorem my_ra_may : aw_my mm_ra_may := ⟨Or.inl ⟨aw_m3 126 rfl rfl, rfl⟩, by decide +kernel, rfl⟩
def mm_lw_distance : am_M := ("RoleAnalyserLaw", ⟨"RoleAnalyserLaw", "distance", "(LRoleAnalyser;II[J)I"⟩, method_21_code, 5, (some .int), [(0, 10, 13, 22), (0, 10, 17, 51)])
theorem my_lw_distance : aw_my mm_lw_distance := ⟨Or.inr (aw_m3 129 rfl rfl), by decide +kernel, rfl⟩
def mm_ra_distance : am_M := ("RoleAnalyser", ⟨"RoleAnalyser", "distance", "(II)I"⟩, prog_1_method_20_code, 4, (some .int), [])
theorem my_ra_distance : aw_my mm_ra_distance := ⟨Or.inl ⟨aw_m3 133 rfl rfl, rfl⟩, by decide +kernel, rfl⟩
def mm_ra_checkQuestion : am_M := ("RoleAnalyser", ⟨"RoleAnalyser", "checkQuestion", "(II)V"⟩, prog_1_method_30_code, 3, none, [])
theorem my_ra_checkQuestion : aw_my mm_ra_checkQuestion := ⟨Or.inl ⟨aw_m3 137 rfl rfl, rfl⟩, by decide +kernel, rfl⟩
def mm_se_nearestGoal : am_M := ("RoleAnalyser$Search", ⟨"RoleAnalyser$Search", "nearestGoal", "([IIII)I"⟩, prog_5_method_2_code, 7, (some .int), [])
theorem my_se_nearestGoal : aw_my mm_se_nearestGoal := ⟨Or.inl ⟨aw_m3 142 rfl rfl, rfl⟩, by decide +kernel, rfl⟩
def mm_se_begin : am_M := ("RoleAnalyser$Search", ⟨"RoleAnalyser$Search", "begin", "([I)V"⟩, prog_5_method_5_code, 4, none, [])
theorem my_se_begin : aw_my mm_se_begin := ⟨Or.inl ⟨aw_m3 146 rfl rfl, rfl⟩, by decide +kernel, rfl⟩
def mm_se_pairBit : am_M := ("RoleAnalyser$Search", ⟨"RoleAnalyser$Search", "pairBit", "(II)I"⟩, prog_5_method_13_code, 3, (some .int), [])
theorem my_se_pairBit : aw_my mm_se_pairBit := ⟨Or.inl ⟨aw_m3 150 rfl rfl, rfl⟩, by decide +kernel, rfl⟩
def mm_se_reach : am_M := ("RoleAnalyser$Search", ⟨"RoleAnalyser$Search", "reach", "(II)V"⟩, prog_5_method_8_code, 3, none, [])
theorem my_se_reach : aw_my mm_se_reach := ⟨Or.inl ⟨aw_m3 155 rfl rfl, rfl⟩, by decide +kernel, rfl⟩
def mm_se_authorizedIn : am_M := ("RoleAnalyser$Search", ⟨"RoleAnalyser$Search", "authorizedIn", "(II)I"⟩, prog_5_method_11_code, 3, (some .int), [])
theorem my_se_authorizedIn : aw_my mm_se_authorizedIn := ⟨Or.inl ⟨aw_m3 159 rfl rfl, rfl⟩, by decide +kernel, rfl⟩
def mm_se_assignedIn : am_M := ("RoleAnalyser$Search", ⟨"RoleAnalyser$Search", "assignedIn", "(II)I"⟩, prog_5_method_12_code, 3, (some .int), [])
theorem my_se_assignedIn : aw_my mm_se_assignedIn := ⟨Or.inl ⟨aw_m3 163 rfl rfl, rfl⟩, by decide +kernel, rfl⟩
def mm_se_takeSteps : am_M := ("RoleAnalyser$Search", ⟨"RoleAnalyser$Search", "takeSteps", "(I)V"⟩, prog_5_method_6_code, 8, none, [])
theorem my_se_takeSteps : aw_my mm_se_takeSteps := ⟨Or.inl ⟨aw_m3 168 rfl rfl, rfl⟩, by decide +kernel, rfl⟩
def mm_se_authorizedOfAll : am_M := ("RoleAnalyser$Search", ⟨"RoleAnalyser$Search", "authorizedOfAll", "(I)I"⟩, prog_5_method_10_code, 4, (some .int), [])
theorem my_se_authorizedOfAll : aw_my mm_se_authorizedOfAll := ⟨Or.inl ⟨aw_m3 172 rfl rfl, rfl⟩, by decide +kernel, rfl⟩
def mm_se_isStep : am_M := ("RoleAnalyser$Search", ⟨"RoleAnalyser$Search", "isStep", "(III)Z"⟩, prog_5_method_7_code, 4, (some .boolean), [])
theorem my_se_isStep : aw_my mm_se_isStep := ⟨Or.inl ⟨aw_m3 176 rfl rfl, rfl⟩, by decide +kernel, rfl⟩
def mm_se_stepsTo : am_M := ("RoleAnalyser$Search", ⟨"RoleAnalyser$Search", "stepsTo", "(I)I"⟩, prog_5_method_3_code, 4, (some .int), [])
theorem my_se_stepsTo : aw_my mm_se_stepsTo := ⟨Or.inl ⟨aw_m3 182 rfl rfl, rfl⟩, by decide +kernel, rfl⟩
def mm_se_stateBefore : am_M := ("RoleAnalyser$Search", ⟨"RoleAnalyser$Search", "stateBefore", "(I)I"⟩, prog_5_method_9_code, 3, (some .int), [])
theorem my_se_stateBefore : aw_my mm_se_stateBefore := ⟨Or.inl ⟨aw_m3 186 rfl rfl, rfl⟩, by decide +kernel, rfl⟩
def mm_lw_plan : am_M := ("RoleAnalyserLaw", ⟨"RoleAnalyserLaw", "plan", "(LRoleAnalyser;III[J)I"⟩, method_22_code, 6, (some .int), [(0, 12, 15, 22), (0, 12, 19, 51), (0, 12, 23, 13)])
theorem my_lw_plan : aw_my mm_lw_plan := ⟨Or.inr (aw_m3 189 rfl rfl), by decide +kernel, rfl⟩
def mm_ra_plan : am_M := ("RoleAnalyser", ⟨"RoleAnalyser", "plan", "(III)I"⟩, prog_1_method_21_code, 5, (some .int), [])
theorem my_ra_plan : aw_my mm_ra_plan := ⟨Or.inl ⟨aw_m3 193 rfl rfl, rfl⟩, by decide +kernel, rfl⟩
def mm_se_stepCode : am_M := ("RoleAnalyser$Search", ⟨"RoleAnalyser$Search", "stepCode", "(II)I"⟩, prog_5_method_4_code, 6, (some .int), [])
theorem my_se_stepCode : aw_my mm_se_stepCode := ⟨Or.inl ⟨aw_m3 198 rfl rfl, rfl⟩, by decide +kernel, rfl⟩
def mm_mo_init : am_M := ("RoleAnalyserModel", ⟨"RoleAnalyserModel", "<init>", "()V"⟩, prog_7_method_1_code, 1, none, [])
theorem my_mo_init : aw_my mm_mo_init := ⟨Or.inl ⟨aw_m3 204 rfl rfl, rfl⟩, by decide +kernel, rfl⟩
def mm_mo_thrown : am_M := ("RoleAnalyserModel", ⟨"RoleAnalyserModel", "thrown", "()I"⟩, prog_7_method_2_code, 1, (some .int), [])
theorem my_mo_thrown : aw_my mm_mo_thrown := ⟨Or.inl ⟨aw_m4 43 rfl rfl, rfl⟩, by decide +kernel, rfl⟩
def mm_mo_role : am_M := ("RoleAnalyserModel", ⟨"RoleAnalyserModel", "role", "()I"⟩, prog_7_method_13_code, 1, (some .int), [])
theorem my_mo_role : aw_my mm_mo_role := ⟨Or.inl ⟨aw_m4 47 rfl rfl, rfl⟩, by decide +kernel, rfl⟩
def mm_mo_when : am_M := ("RoleAnalyserModel", ⟨"RoleAnalyserModel", "when", "(ZI)Z"⟩, prog_7_method_3_code, 3, (some .boolean), [])
theorem my_mo_when : aw_my mm_mo_when := ⟨Or.inl ⟨aw_m4 51 rfl rfl, rfl⟩, by decide +kernel, rfl⟩
def mm_mo_user : am_M := ("RoleAnalyserModel", ⟨"RoleAnalyserModel", "user", "()I"⟩, prog_7_method_14_code, 1, (some .int), [])
theorem my_mo_user : aw_my mm_mo_user := ⟨Or.inl ⟨aw_m4 55 rfl rfl, rfl⟩, by decide +kernel, rfl⟩
def mm_mo_above : am_M := ("RoleAnalyserModel", ⟨"RoleAnalyserModel", "above", "(II)Z"⟩, prog_7_method_15_code, 5, (some .boolean), [])
theorem my_mo_above : aw_my mm_mo_above := ⟨Or.inl ⟨aw_m4 59 rfl rfl, rfl⟩, by decide +kernel, rfl⟩
def mm_mo_isRole : am_M := ("RoleAnalyserModel", ⟨"RoleAnalyserModel", "isRole", "(I)Z"⟩, prog_7_method_4_code, 2, (some .boolean), [])
theorem my_mo_isRole : aw_my mm_mo_isRole := ⟨Or.inl ⟨aw_m4 63 rfl rfl, rfl⟩, by decide +kernel, rfl⟩
def mm_mo_allStaticKept : am_M := ("RoleAnalyserModel", ⟨"RoleAnalyserModel", "allStaticKept", "()Z"⟩, prog_7_method_10_code, 3, (some .boolean), [])
theorem my_mo_allStaticKept : aw_my mm_mo_allStaticKept := ⟨Or.inl ⟨aw_m4 67 rfl rfl, rfl⟩, by decide +kernel, rfl⟩
def mm_mo_staticKept : am_M := ("RoleAnalyserModel", ⟨"RoleAnalyserModel", "staticKept", "(I)Z"⟩, prog_7_method_9_code, 5, (some .boolean), [])
theorem my_mo_staticKept : aw_my mm_mo_staticKept := ⟨Or.inl ⟨aw_m4 71 rfl rfl, rfl⟩, by decide +kernel, rfl⟩
def mm_mo_closed : am_M := ("RoleAnalyserModel", ⟨"RoleAnalyserModel", "closed", "(I)I"⟩, prog_7_method_8_code, 4, (some .int), [])
theorem my_mo_closed : aw_my mm_mo_closed := ⟨Or.inl ⟨aw_m4 75 rfl rfl, rfl⟩, by decide +kernel, rfl⟩
def mm_mo_count : am_M := ("RoleAnalyserModel", ⟨"RoleAnalyserModel", "count", "(I)I"⟩, prog_7_method_7_code, 3, (some .int), [])
theorem my_mo_count : aw_my mm_mo_count := ⟨Or.inl ⟨aw_m4 78 rfl rfl, rfl⟩, by decide +kernel, rfl⟩
def mm_mo_grant : am_M := ("RoleAnalyserModel", ⟨"RoleAnalyserModel", "grant", "(II)Z"⟩, prog_7_method_16_code, 4, (some .boolean), [])
theorem my_mo_grant : aw_my mm_mo_grant := ⟨Or.inl ⟨aw_m4 82 rfl rfl, rfl⟩, by decide +kernel, rfl⟩
def mm_mo_limit : am_M := ("RoleAnalyserModel", ⟨"RoleAnalyserModel", "limit", "(ZII)V"⟩, prog_7_method_17_code, 8, none, [])
theorem my_mo_limit : aw_my mm_mo_limit := ⟨Or.inl ⟨aw_m4 86 rfl rfl, rfl⟩, by decide +kernel, rfl⟩
def mm_mo_dynamicKept : am_M := ("RoleAnalyserModel", ⟨"RoleAnalyserModel", "dynamicKept", "(I)Z"⟩, prog_7_method_11_code, 4, (some .boolean), [])
theorem my_mo_dynamicKept : aw_my mm_mo_dynamicKept := ⟨Or.inl ⟨aw_m4 90 rfl rfl, rfl⟩, by decide +kernel, rfl⟩
def mm_mo_giveRule : am_M := ("RoleAnalyserModel", ⟨"RoleAnalyserModel", "giveRule", "(IIII)I"⟩, prog_7_method_20_code, 5, (some .int), [])
theorem my_mo_giveRule : aw_my mm_mo_giveRule := ⟨Or.inl ⟨aw_m4 94 rfl rfl, rfl⟩, by decide +kernel, rfl⟩
def mm_mo_isSet : am_M := ("RoleAnalyserModel", ⟨"RoleAnalyserModel", "isSet", "(I)Z"⟩, prog_7_method_19_code, 1, (some .boolean), [])
theorem my_mo_isSet : aw_my mm_mo_isSet := ⟨Or.inl ⟨aw_m4 97 rfl rfl, rfl⟩, by decide +kernel, rfl⟩
def mm_mo_addRule : am_M := ("RoleAnalyserModel", ⟨"RoleAnalyserModel", "addRule", "(ZIIII)I"⟩, prog_7_method_18_code, 6, (some .int), [])
theorem my_mo_addRule : aw_my mm_mo_addRule := ⟨Or.inl ⟨aw_m4 101 rfl rfl, rfl⟩, by decide +kernel, rfl⟩
def mm_mo_takeRule : am_M := ("RoleAnalyserModel", ⟨"RoleAnalyserModel", "takeRule", "(II)I"⟩, prog_7_method_21_code, 3, (some .int), [])
theorem my_mo_takeRule : aw_my mm_mo_takeRule := ⟨Or.inl ⟨aw_m4 105 rfl rfl, rfl⟩, by decide +kernel, rfl⟩
def mm_mo_assign : am_M := ("RoleAnalyserModel", ⟨"RoleAnalyserModel", "assign", "(II)Z"⟩, prog_7_method_25_code, 3, (some .boolean), [])
theorem my_mo_assign : aw_my mm_mo_assign := ⟨Or.inl ⟨aw_m4 109 rfl rfl, rfl⟩, by decide +kernel, rfl⟩
def mm_mo_isUser : am_M := ("RoleAnalyserModel", ⟨"RoleAnalyserModel", "isUser", "(I)Z"⟩, prog_7_method_5_code, 2, (some .boolean), [])
theorem my_mo_isUser : aw_my mm_mo_isUser := ⟨Or.inl ⟨aw_m4 113 rfl rfl, rfl⟩, by decide +kernel, rfl⟩
def mm_mo_put : am_M := ("RoleAnalyserModel", ⟨"RoleAnalyserModel", "put", "(III)Z"⟩, prog_7_method_23_code, 6, (some .boolean), [])
theorem my_mo_put : aw_my mm_mo_put := ⟨Or.inl ⟨aw_m4 117 rfl rfl, rfl⟩, by decide +kernel, rfl⟩
def mm_mo_remove : am_M := ("RoleAnalyserModel", ⟨"RoleAnalyserModel", "remove", "(II)Z"⟩, prog_7_method_26_code, 3, (some .boolean), [])
theorem my_mo_remove : aw_my mm_mo_remove := ⟨Or.inl ⟨aw_m4 121 rfl rfl, rfl⟩, by decide +kernel, rfl⟩
def mm_mo_drop : am_M := ("RoleAnalyserModel", ⟨"RoleAnalyserModel", "drop", "(II)Z"⟩, prog_7_method_24_code, 4, (some .boolean), [])
theorem my_mo_drop : aw_my mm_mo_drop := ⟨Or.inl ⟨aw_m4 125 rfl rfl, rfl⟩, by decide +kernel, rfl⟩
def mm_mo_cutSessions : am_M := ("RoleAnalyserModel", ⟨"RoleAnalyserModel", "cutSessions", "()V"⟩, prog_7_method_12_code, 2, none, [])
theorem my_mo_cutSessions : aw_my mm_mo_cutSessions := ⟨Or.inl ⟨aw_m4 129 rfl rfl, rfl⟩, by decide +kernel, rfl⟩
def mm_mo_give : am_M := ("RoleAnalyserModel", ⟨"RoleAnalyserModel", "give", "(III)Z"⟩, prog_7_method_27_code, 4, (some .boolean), [])
theorem my_mo_give : aw_my mm_mo_give := ⟨Or.inl ⟨aw_m4 133 rfl rfl, rfl⟩, by decide +kernel, rfl⟩
def mm_mo_lets : am_M := ("RoleAnalyserModel", ⟨"RoleAnalyserModel", "lets", "(ZIII)Z"⟩, prog_7_method_22_code, 8, (some .boolean), [])
theorem my_mo_lets : aw_my mm_mo_lets := ⟨Or.inl ⟨aw_m4 137 rfl rfl, rfl⟩, by decide +kernel, rfl⟩
def mm_mo_take : am_M := ("RoleAnalyserModel", ⟨"RoleAnalyserModel", "take", "(III)Z"⟩, prog_7_method_28_code, 4, (some .boolean), [])
theorem my_mo_take : aw_my mm_mo_take := ⟨Or.inl ⟨aw_m4 141 rfl rfl, rfl⟩, by decide +kernel, rfl⟩
def mm_mo_roles : am_M := ("RoleAnalyserModel", ⟨"RoleAnalyserModel", "roles", "(IZ)I"⟩, prog_7_method_29_code, 3, (some .int), [])
theorem my_mo_roles : aw_my mm_mo_roles := ⟨Or.inl ⟨aw_m4 145 rfl rfl, rfl⟩, by decide +kernel, rfl⟩
def mm_mo_open : am_M := ("RoleAnalyserModel", ⟨"RoleAnalyserModel", "open", "(I)I"⟩, prog_7_method_30_code, 3, (some .int), [])
theorem my_mo_open : aw_my mm_mo_open := ⟨Or.inl ⟨aw_m4 149 rfl rfl, rfl⟩, by decide +kernel, rfl⟩
def mm_mo_close : am_M := ("RoleAnalyserModel", ⟨"RoleAnalyserModel", "close", "(I)V"⟩, prog_7_method_31_code, 2, none, [])
theorem my_mo_close : aw_my mm_mo_close := ⟨Or.inl ⟨aw_m4 153 rfl rfl, rfl⟩, by decide +kernel, rfl⟩
def mm_mo_isSession : am_M := ("RoleAnalyserModel", ⟨"RoleAnalyserModel", "isSession", "(I)Z"⟩, prog_7_method_6_code, 2, (some .boolean), [])
theorem my_mo_isSession : aw_my mm_mo_isSession := ⟨Or.inl ⟨aw_m4 157 rfl rfl, rfl⟩, by decide +kernel, rfl⟩
def mm_mo_activate : am_M := ("RoleAnalyserModel", ⟨"RoleAnalyserModel", "activate", "(II)Z"⟩, prog_7_method_32_code, 5, (some .boolean), [])
theorem my_mo_activate : aw_my mm_mo_activate := ⟨Or.inl ⟨aw_m4 161 rfl rfl, rfl⟩, by decide +kernel, rfl⟩
def mm_mo_rest : am_M := ("RoleAnalyserModel", ⟨"RoleAnalyserModel", "rest", "(II)Z"⟩, prog_7_method_33_code, 4, (some .boolean), [])
theorem my_mo_rest : aw_my mm_mo_rest := ⟨Or.inl ⟨aw_m4 165 rfl rfl, rfl⟩, by decide +kernel, rfl⟩
def mm_mo_active : am_M := ("RoleAnalyserModel", ⟨"RoleAnalyserModel", "active", "(I)I"⟩, prog_7_method_34_code, 2, (some .int), [])
theorem my_mo_active : aw_my mm_mo_active := ⟨Or.inl ⟨aw_m4 169 rfl rfl, rfl⟩, by decide +kernel, rfl⟩
def mm_mo_may : am_M := ("RoleAnalyserModel", ⟨"RoleAnalyserModel", "may", "(II)Z"⟩, prog_7_method_35_code, 6, (some .boolean), [])
theorem my_mo_may : aw_my mm_mo_may := ⟨Or.inl ⟨aw_m4 173 rfl rfl, rfl⟩, by decide +kernel, rfl⟩
def mm_mo_distance : am_M := ("RoleAnalyserModel", ⟨"RoleAnalyserModel", "distance", "(II)I"⟩, prog_7_method_40_code, 3, (some .int), [])
theorem my_mo_distance : aw_my mm_mo_distance := ⟨Or.inl ⟨aw_m4 177 rfl rfl, rfl⟩, by decide +kernel, rfl⟩
def mm_mo_search : am_M := ("RoleAnalyserModel", ⟨"RoleAnalyserModel", "search", "(II)V"⟩, prog_7_method_39_code, 8, none, [])
theorem my_mo_search : aw_my mm_mo_search := ⟨Or.inl ⟨aw_m4 181 rfl rfl, rfl⟩, by decide +kernel, rfl⟩
def mm_mo_has : am_M := ("RoleAnalyserModel", ⟨"RoleAnalyserModel", "has", "(III)Z"⟩, prog_7_method_38_code, 4, (some .boolean), [])
theorem my_mo_has : aw_my mm_mo_has := ⟨Or.inl ⟨aw_m4 185 rfl rfl, rfl⟩, by decide +kernel, rfl⟩
def mm_mo_rolesIn : am_M := ("RoleAnalyserModel", ⟨"RoleAnalyserModel", "rolesIn", "(II)I"⟩, prog_7_method_36_code, 3, (some .int), [])
theorem my_mo_rolesIn : aw_my mm_mo_rolesIn := ⟨Or.inl ⟨aw_m4 189 rfl rfl, rfl⟩, by decide +kernel, rfl⟩
def mm_mo_stepTo : am_M := ("RoleAnalyserModel", ⟨"RoleAnalyserModel", "stepTo", "(IIIZ)I"⟩, prog_7_method_37_code, 8, (some .int), [])
theorem my_mo_stepTo : aw_my mm_mo_stepTo := ⟨Or.inl ⟨aw_m4 193 rfl rfl, rfl⟩, by decide +kernel, rfl⟩
def mm_mo_plan : am_M := ("RoleAnalyserModel", ⟨"RoleAnalyserModel", "plan", "(III)I"⟩, prog_7_method_42_code, 10, (some .int), [])
theorem my_mo_plan : aw_my mm_mo_plan := ⟨Or.inl ⟨aw_m4 197 rfl rfl, rfl⟩, by decide +kernel, rfl⟩
def mm_mo_mark : am_M := ("RoleAnalyserModel", ⟨"RoleAnalyserModel", "mark", "(II)V"⟩, prog_7_method_41_code, 7, none, [])
theorem my_mo_mark : aw_my mm_mo_mark := ⟨Or.inl ⟨aw_m4 201 rfl rfl, rfl⟩, by decide +kernel, rfl⟩
def mm_lw_law : am_M := ("RoleAnalyserLaw", x, code, maxLocals, ret, [])
def tp_P (w : Cond) : Prop := ax_isN w = true ∨ w ∈ aw_T ∨ (w ∈ aw_N ∧ w.onTables = true)
theorem tp_0 : ∀ w ∈ Bundle.throwableAtoms, tp_P w := List.forall_mem_cons.mpr ⟨(Or.inr (Or.inl (aw_m1 9 rfl rfl))), List.forall_mem_cons.mpr ⟨(Or.inr (Or.inl (aw_m1 165 rfl rfl))), List.forall_mem_cons.mpr ⟨(Or.inr (Or.inl (aw_m1 174 rfl rfl))), List.forall_mem_cons.mpr ⟨(Or.inr (Or.inl (aw_m1 179 rfl rfl))), List.forall_mem_cons.mpr ⟨(Or.inr (Or.inl (aw_m1 182 rfl rfl))), List.forall_mem_cons.mpr ⟨(Or.inr (Or.inl (aw_m1 184 rfl rfl))), List.forall_mem_cons.mpr ⟨(Or.inr (Or.inl (aw_m1 166 rfl rfl))), List.forall_mem_cons.mpr ⟨(Or.inr (Or.inl (aw_m1 167 rfl rfl))), List.forall_mem_cons.mpr ⟨(Or.inr (Or.inl (aw_m1 30 rfl rfl))), List.forall_mem_cons.mpr ⟨(Or.inr (Or.inl (aw_m1 31 rfl rfl))), List.forall_mem_cons.mpr ⟨(Or.inr (Or.inl (aw_m1 168 rfl rfl))), List.forall_mem_cons.mpr ⟨(Or.inr (Or.inl (aw_m1 173 rfl rfl))), List.forall_mem_cons.mpr ⟨(Or.inr (Or.inl (aw_m1 180 rfl rfl))), List.forall_mem_cons.mpr ⟨(Or.inr (Or.inl (aw_m1 200 rfl rfl))), List.forall_mem_cons.mpr ⟨(Or.inr (Or.inl (aw_m1 155 rfl rfl))), List.forall_mem_cons.mpr ⟨(Or.inr (Or.inl (aw_m1 201 rfl rfl))), List.forall_mem_cons.mpr ⟨(Or.inr (Or.inl (aw_m1 157 rfl rfl))), List.forall_mem_cons.mpr ⟨(Or.inr (Or.inl (aw_m1 202 rfl rfl))), List.forall_mem_cons.mpr ⟨(Or.inr (Or.inl (aw_m1 159 rfl rfl))), List.forall_mem_cons.mpr ⟨(Or.inr (Or.inl (aw_m1 169 rfl rfl))), List.forall_mem_cons.mpr ⟨(Or.inl (by decide +kernel)), List.forall_mem_cons.mpr ⟨(Or.inr (Or.inl (aw_m1 171 rfl rfl))), List.forall_mem_cons.mpr ⟨(Or.inl (by decide +kernel)), List.forall_mem_cons.mpr ⟨(Or.inr (Or.inl (aw_m1 161 rfl rfl))), fun _ h9 => absurd h9 List.not_mem_nil⟩⟩⟩⟩⟩⟩⟩⟩⟩⟩⟩⟩⟩⟩⟩⟩⟩⟩⟩⟩⟩⟩⟩⟩
theorem tp_1 : ∀ w ∈ Bundle.throwableSAtoms, tp_P w := List.forall_mem_cons.mpr ⟨(Or.inr (Or.inl (aw_m1 196 rfl rfl))), List.forall_mem_cons.mpr ⟨(Or.inr (Or.inl (aw_m1 197 rfl rfl))), List.forall_mem_cons.mpr ⟨(Or.inr (Or.inl (aw_m1 199 rfl rfl))), List.forall_mem_cons.mpr ⟨(Or.inr (Or.inl (aw_m1 161 rfl rfl))), fun _ h9 => absurd h9 List.not_mem_nil⟩⟩⟩⟩
theorem tp_c0 : ∀ w ∈ Bundle.chainSAtoms "java/lang/IllegalStateException" ["java/lang/RuntimeException", "java/lang/Exception"], tp_P w := List.forall_mem_cons.mpr ⟨(Or.inr (Or.inl (aw_m1 187 rfl rfl))), List.forall_mem_cons.mpr ⟨(Or.inr (Or.inl (aw_m1 188 rfl rfl))), List.forall_mem_cons.mpr ⟨(Or.inr (Or.inl (aw_m1 189 rfl rfl))), List.forall_mem_cons.mpr ⟨(Or.inr (Or.inl (aw_m1 190 rfl rfl))), List.forall_mem_cons.mpr ⟨(Or.inr (Or.inr ⟨List.mem_of_getElem? (i := 2) rfl, rfl⟩)), List.forall_mem_cons.mpr ⟨(Or.inr (Or.inl (aw_m1 190 rfl rfl))), List.forall_mem_cons.mpr ⟨(Or.inr (Or.inl (aw_m1 191 rfl rfl))), List.forall_mem_cons.mpr ⟨(Or.inr (Or.inl (aw_m1 192 rfl rfl))), List.forall_mem_cons.mpr ⟨(Or.inr (Or.inl (aw_m1 193 rfl rfl))), List.forall_mem_cons.mpr ⟨(Or.inr (Or.inr ⟨List.mem_of_getElem? (i := 4) rfl, rfl⟩)), List.forall_mem_cons.mpr ⟨(Or.inr (Or.inl (aw_m1 193 rfl rfl))), List.forall_mem_cons.mpr ⟨(Or.inr (Or.inl (aw_m1 194 rfl rfl))), List.forall_mem_cons.mpr ⟨(Or.inr (Or.inl (aw_m1 195 rfl rfl))), List.forall_mem_cons.mpr ⟨(Or.inr (Or.inl (aw_m1 196 rfl rfl))), List.forall_mem_cons.mpr ⟨(Or.inr (Or.inr ⟨List.mem_of_getElem? (i := 6) rfl, rfl⟩)), fun _ h9 => absurd h9 List.not_mem_nil⟩⟩⟩⟩⟩⟩⟩⟩⟩⟩⟩⟩⟩⟩⟩
theorem tp_e0 (own : String) (ic : Nat) (hm : Cond.methodLink own ic (Bundle.initS "java/lang/IllegalStateException") ∈ aw_T) : ∀ w ∈ Bundle.ownAtoms own ic "java/lang/IllegalStateException" ["java/lang/RuntimeException", "java/lang/Exception"], tp_P w := List.forall_mem_append.mpr ⟨List.forall_mem_append.mpr ⟨List.forall_mem_append.mpr ⟨tp_0, tp_1⟩, tp_c0⟩, List.forall_mem_cons.mpr ⟨(Or.inr (Or.inl hm)), List.forall_mem_cons.mpr ⟨(Or.inr (Or.inl (aw_m1 144 rfl rfl))), List.forall_mem_cons.mpr ⟨(Or.inr (Or.inr ⟨List.mem_of_getElem? (i := 0) rfl, rfl⟩)), List.forall_mem_cons.mpr ⟨(Or.inr (Or.inl (aw_m1 152 rfl rfl))), List.forall_mem_cons.mpr ⟨(Or.inr (Or.inl (aw_m1 153 rfl rfl))), List.forall_mem_cons.mpr ⟨(Or.inr (Or.inl (aw_m1 154 rfl rfl))), List.forall_mem_cons.mpr ⟨(Or.inr (Or.inl (aw_m1 156 rfl rfl))), List.forall_mem_cons.mpr ⟨(Or.inr (Or.inl (aw_m1 158 rfl rfl))), List.forall_mem_cons.mpr ⟨(Or.inr (Or.inl (aw_m1 160 rfl rfl))), List.forall_mem_cons.mpr ⟨(Or.inl (by decide +kernel)), List.forall_mem_cons.mpr ⟨(Or.inl (by decide +kernel)), List.forall_mem_cons.mpr ⟨(Or.inr (Or.inl (aw_m1 164 rfl rfl))), List.forall_mem_cons.mpr ⟨(Or.inr (Or.inl (aw_m1 163 rfl rfl))), List.forall_mem_cons.mpr ⟨(Or.inr (Or.inl (aw_m1 162 rfl rfl))), fun _ h9 => absurd h9 List.not_mem_nil⟩⟩⟩⟩⟩⟩⟩⟩⟩⟩⟩⟩⟩⟩⟩
theorem tp_c1 : ∀ w ∈ Bundle.chainSAtoms "java/lang/IndexOutOfBoundsException" ["java/lang/RuntimeException", "java/lang/Exception"], tp_P w := List.forall_mem_cons.mpr ⟨(Or.inr (Or.inl (aw_m2 4 rfl rfl))), List.forall_mem_cons.mpr ⟨(Or.inr (Or.inl (aw_m2 5 rfl rfl))), List.forall_mem_cons.mpr ⟨(Or.inr (Or.inl (aw_m2 6 rfl rfl))), List.forall_mem_cons.mpr ⟨(Or.inr (Or.inl (aw_m1 190 rfl rfl))), List.forall_mem_cons.mpr ⟨(Or.inr (Or.inr ⟨List.mem_of_getElem? (i := 2) rfl, rfl⟩)), List.forall_mem_cons.mpr ⟨(Or.inr (Or.inl (aw_m1 190 rfl rfl))), List.forall_mem_cons.mpr ⟨(Or.inr (Or.inl (aw_m1 191 rfl rfl))), List.forall_mem_cons.mpr ⟨(Or.inr (Or.inl (aw_m1 192 rfl rfl))), List.forall_mem_cons.mpr ⟨(Or.inr (Or.inl (aw_m1 193 rfl rfl))), List.forall_mem_cons.mpr ⟨(Or.inr (Or.inr ⟨List.mem_of_getElem? (i := 4) rfl, rfl⟩)), List.forall_mem_cons.mpr ⟨(Or.inr (Or.inl (aw_m1 193 rfl rfl))), List.forall_mem_cons.mpr ⟨(Or.inr (Or.inl (aw_m1 194 rfl rfl))), List.forall_mem_cons.mpr ⟨(Or.inr (Or.inl (aw_m1 195 rfl rfl))), List.forall_mem_cons.mpr ⟨(Or.inr (Or.inl (aw_m1 196 rfl rfl))), List.forall_mem_cons.mpr ⟨(Or.inr (Or.inr ⟨List.mem_of_getElem? (i := 6) rfl, rfl⟩)), fun _ h9 => absurd h9 List.not_mem_nil⟩⟩⟩⟩⟩⟩⟩⟩⟩⟩⟩⟩⟩⟩⟩
theorem tp_e1 (own : String) (ic : Nat) (hm : Cond.methodLink own ic (Bundle.initS "java/lang/IndexOutOfBoundsException") ∈ aw_T) : ∀ w ∈ Bundle.ownAtoms own ic "java/lang/IndexOutOfBoundsException" ["java/lang/RuntimeException", "java/lang/Exception"], tp_P w := List.forall_mem_append.mpr ⟨List.forall_mem_append.mpr ⟨List.forall_mem_append.mpr ⟨tp_0, tp_1⟩, tp_c1⟩, List.forall_mem_cons.mpr ⟨(Or.inr (Or.inl hm)), List.forall_mem_cons.mpr ⟨(Or.inr (Or.inl (aw_m1 234 rfl rfl))), List.forall_mem_cons.mpr ⟨(Or.inr (Or.inr ⟨List.mem_of_getElem? (i := 7) rfl, rfl⟩)), List.forall_mem_cons.mpr ⟨(Or.inr (Or.inl (aw_m1 236 rfl rfl))), List.forall_mem_cons.mpr ⟨(Or.inr (Or.inl (aw_m1 177 rfl rfl))), List.forall_mem_cons.mpr ⟨(Or.inr (Or.inl (aw_m1 237 rfl rfl))), List.forall_mem_cons.mpr ⟨(Or.inr (Or.inl (aw_m1 238 rfl rfl))), List.forall_mem_cons.mpr ⟨(Or.inr (Or.inl (aw_m1 239 rfl rfl))), List.forall_mem_cons.mpr ⟨(Or.inr (Or.inl (aw_m2 0 rfl rfl))), List.forall_mem_cons.mpr ⟨(Or.inl (by decide +kernel)), List.forall_mem_cons.mpr ⟨(Or.inl (by decide +kernel)), List.forall_mem_cons.mpr ⟨(Or.inr (Or.inl (aw_m1 164 rfl rfl))), List.forall_mem_cons.mpr ⟨(Or.inr (Or.inl (aw_m1 163 rfl rfl))), List.forall_mem_cons.mpr ⟨(Or.inr (Or.inl (aw_m2 1 rfl rfl))), fun _ h9 => absurd h9 List.not_mem_nil⟩⟩⟩⟩⟩⟩⟩⟩⟩⟩⟩⟩⟩⟩⟩
theorem tp_c2 : ∀ w ∈ Bundle.chainSAtoms "java/lang/IllegalArgumentException" ["java/lang/RuntimeException", "java/lang/Exception"], tp_P w := List.forall_mem_cons.mpr ⟨(Or.inr (Or.inl (aw_m2 27 rfl rfl))), List.forall_mem_cons.mpr ⟨(Or.inr (Or.inl (aw_m2 28 rfl rfl))), List.forall_mem_cons.mpr ⟨(Or.inr (Or.inl (aw_m2 29 rfl rfl))), List.forall_mem_cons.mpr ⟨(Or.inr (Or.inl (aw_m1 190 rfl rfl))), List.forall_mem_cons.mpr ⟨(Or.inr (Or.inr ⟨List.mem_of_getElem? (i := 2) rfl, rfl⟩)), List.forall_mem_cons.mpr ⟨(Or.inr (Or.inl (aw_m1 190 rfl rfl))), List.forall_mem_cons.mpr ⟨(Or.inr (Or.inl (aw_m1 191 rfl rfl))), List.forall_mem_cons.mpr ⟨(Or.inr (Or.inl (aw_m1 192 rfl rfl))), List.forall_mem_cons.mpr ⟨(Or.inr (Or.inl (aw_m1 193 rfl rfl))), List.forall_mem_cons.mpr ⟨(Or.inr (Or.inr ⟨List.mem_of_getElem? (i := 4) rfl, rfl⟩)), List.forall_mem_cons.mpr ⟨(Or.inr (Or.inl (aw_m1 193 rfl rfl))), List.forall_mem_cons.mpr ⟨(Or.inr (Or.inl (aw_m1 194 rfl rfl))), List.forall_mem_cons.mpr ⟨(Or.inr (Or.inl (aw_m1 195 rfl rfl))), List.forall_mem_cons.mpr ⟨(Or.inr (Or.inl (aw_m1 196 rfl rfl))), List.forall_mem_cons.mpr ⟨(Or.inr (Or.inr ⟨List.mem_of_getElem? (i := 6) rfl, rfl⟩)), fun _ h9 => absurd h9 List.not_mem_nil⟩⟩⟩⟩⟩⟩⟩⟩⟩⟩⟩⟩⟩⟩⟩
theorem tp_e2 (own : String) (ic : Nat) (hm : Cond.methodLink own ic (Bundle.initS "java/lang/IllegalArgumentException") ∈ aw_T) : ∀ w ∈ Bundle.ownAtoms own ic "java/lang/IllegalArgumentException" ["java/lang/RuntimeException", "java/lang/Exception"], tp_P w := List.forall_mem_append.mpr ⟨List.forall_mem_append.mpr ⟨List.forall_mem_append.mpr ⟨tp_0, tp_1⟩, tp_c2⟩, List.forall_mem_cons.mpr ⟨(Or.inr (Or.inl hm)), List.forall_mem_cons.mpr ⟨(Or.inr (Or.inl (aw_m2 17 rfl rfl))), List.forall_mem_cons.mpr ⟨(Or.inr (Or.inr ⟨List.mem_of_getElem? (i := 9) rfl, rfl⟩)), List.forall_mem_cons.mpr ⟨(Or.inr (Or.inl (aw_m2 19 rfl rfl))), List.forall_mem_cons.mpr ⟨(Or.inr (Or.inl (aw_m1 176 rfl rfl))), List.forall_mem_cons.mpr ⟨(Or.inr (Or.inl (aw_m2 20 rfl rfl))), List.forall_mem_cons.mpr ⟨(Or.inr (Or.inl (aw_m2 21 rfl rfl))), List.forall_mem_cons.mpr ⟨(Or.inr (Or.inl (aw_m2 22 rfl rfl))), List.forall_mem_cons.mpr ⟨(Or.inr (Or.inl (aw_m2 23 rfl rfl))), List.forall_mem_cons.mpr ⟨(Or.inl (by decide +kernel)), List.forall_mem_cons.mpr ⟨(Or.inl (by decide +kernel)), List.forall_mem_cons.mpr ⟨(Or.inr (Or.inl (aw_m1 164 rfl rfl))), List.forall_mem_cons.mpr ⟨(Or.inr (Or.inl (aw_m1 163 rfl rfl))), List.forall_mem_cons.mpr ⟨(Or.inr (Or.inl (aw_m2 24 rfl rfl))), fun _ h9 => absurd h9 List.not_mem_nil⟩⟩⟩⟩⟩⟩⟩⟩⟩⟩⟩⟩⟩⟩⟩
theorem tp_c3 : ∀ w ∈ Bundle.chainSAtoms "java/lang/UnsupportedOperationException" ["java/lang/RuntimeException", "java/lang/Exception"], tp_P w := List.forall_mem_cons.mpr ⟨(Or.inr (Or.inl (aw_m3 58 rfl rfl))), List.forall_mem_cons.mpr ⟨(Or.inr (Or.inl (aw_m3 59 rfl rfl))), List.forall_mem_cons.mpr ⟨(Or.inr (Or.inl (aw_m3 60 rfl rfl))), List.forall_mem_cons.mpr ⟨(Or.inr (Or.inl (aw_m1 190 rfl rfl))), List.forall_mem_cons.mpr ⟨(Or.inr (Or.inr ⟨List.mem_of_getElem? (i := 2) rfl, rfl⟩)), List.forall_mem_cons.mpr ⟨(Or.inr (Or.inl (aw_m1 190 rfl rfl))), List.forall_mem_cons.mpr ⟨(Or.inr (Or.inl (aw_m1 191 rfl rfl))), List.forall_mem_cons.mpr ⟨(Or.inr (Or.inl (aw_m1 192 rfl rfl))), List.forall_mem_cons.mpr ⟨(Or.inr (Or.inl (aw_m1 193 rfl rfl))), List.forall_mem_cons.mpr ⟨(Or.inr (Or.inr ⟨List.mem_of_getElem? (i := 4) rfl, rfl⟩)), List.forall_mem_cons.mpr ⟨(Or.inr (Or.inl (aw_m1 193 rfl rfl))), List.forall_mem_cons.mpr ⟨(Or.inr (Or.inl (aw_m1 194 rfl rfl))), List.forall_mem_cons.mpr ⟨(Or.inr (Or.inl (aw_m1 195 rfl rfl))), List.forall_mem_cons.mpr ⟨(Or.inr (Or.inl (aw_m1 196 rfl rfl))), List.forall_mem_cons.mpr ⟨(Or.inr (Or.inr ⟨List.mem_of_getElem? (i := 6) rfl, rfl⟩)), fun _ h9 => absurd h9 List.not_mem_nil⟩⟩⟩⟩⟩⟩⟩⟩⟩⟩⟩⟩⟩⟩⟩
theorem tp_e3 (own : String) (ic : Nat) (hm : Cond.methodLink own ic (Bundle.initS "java/lang/UnsupportedOperationException") ∈ aw_T) : ∀ w ∈ Bundle.ownAtoms own ic "java/lang/UnsupportedOperationException" ["java/lang/RuntimeException", "java/lang/Exception"], tp_P w := List.forall_mem_append.mpr ⟨List.forall_mem_append.mpr ⟨List.forall_mem_append.mpr ⟨tp_0, tp_1⟩, tp_c3⟩, List.forall_mem_cons.mpr ⟨(Or.inr (Or.inl hm)), List.forall_mem_cons.mpr ⟨(Or.inr (Or.inl (aw_m3 48 rfl rfl))), List.forall_mem_cons.mpr ⟨(Or.inr (Or.inr ⟨List.mem_of_getElem? (i := 11) rfl, rfl⟩)), List.forall_mem_cons.mpr ⟨(Or.inr (Or.inl (aw_m3 50 rfl rfl))), List.forall_mem_cons.mpr ⟨(Or.inr (Or.inl (aw_m1 178 rfl rfl))), List.forall_mem_cons.mpr ⟨(Or.inr (Or.inl (aw_m3 51 rfl rfl))), List.forall_mem_cons.mpr ⟨(Or.inr (Or.inl (aw_m3 52 rfl rfl))), List.forall_mem_cons.mpr ⟨(Or.inr (Or.inl (aw_m3 53 rfl rfl))), List.forall_mem_cons.mpr ⟨(Or.inr (Or.inl (aw_m3 54 rfl rfl))), List.forall_mem_cons.mpr ⟨(Or.inl (by decide +kernel)), List.forall_mem_cons.mpr ⟨(Or.inl (by decide +kernel)), List.forall_mem_cons.mpr ⟨(Or.inr (Or.inl (aw_m1 164 rfl rfl))), List.forall_mem_cons.mpr ⟨(Or.inr (Or.inl (aw_m1 163 rfl rfl))), List.forall_mem_cons.mpr ⟨(Or.inr (Or.inl (aw_m3 55 rfl rfl))), fun _ h9 => absurd h9 List.not_mem_nil⟩⟩⟩⟩⟩⟩⟩⟩⟩⟩⟩⟩⟩⟩⟩
theorem ob_ra_3 : Cond.methodLink "RoleAnalyser" 3 objectInit ∈ aw_T ∧ Cond.instanceMethod objectInit ∈ aw_T ∧ Cond.code objectInit ⟨#[0xb1]⟩ 1 none ∈ aw_T := ⟨(aw_m1 29 rfl rfl), (aw_m1 30 rfl rfl), (aw_m1 31 rfl rfl)⟩
theorem nl_ra_9 : aw_nl "RoleAnalyser" 9 1 5 := ⟨_, rfl, rfl, (aw_m1 32 rfl rfl), (aw_m1 33 rfl rfl), (aw_m1 2 rfl rfl)⟩
theorem ci_ra_11 : aw_ci "RoleAnalyser" 11 mm_po_init := ⟨(aw_m1 34 rfl rfl), (aw_m1 35 rfl rfl), rfl, rfl, rfl, (aw_m1 36 rfl rfl), by decide, by decide⟩
theorem fl_ra_12 : aw_fl "RoleAnalyser" 12 0 0 := ⟨_, "RoleAnalyser", rfl, by decide, (aw_m1 113 rfl rfl), Or.inl rfl⟩
theorem nl_ra_16 : aw_nl "RoleAnalyser" 16 2 5 := ⟨_, rfl, rfl, (aw_m1 88 rfl rfl), (aw_m1 89 rfl rfl), (aw_m1 6 rfl rfl)⟩
theorem ci_ra_18 : aw_ci "RoleAnalyser" 18 mm_se_init := ⟨(aw_m1 90 rfl rfl), (aw_m1 91 rfl rfl), rfl, rfl, rfl, (aw_m1 92 rfl rfl), by decide, by decide⟩
theorem fl_ra_21 : aw_fl "RoleAnalyser" 21 0 1 := ⟨_, "RoleAnalyser", rfl, by decide, (aw_m1 114 rfl rfl), Or.inl rfl⟩
theorem fl_ra_25 : aw_fl "RoleAnalyser" 25 0 2 := ⟨_, "RoleAnalyser", rfl, by decide, (aw_m1 115 rfl rfl), Or.inl rfl⟩
theorem fl_ra_29 : aw_fl "RoleAnalyser" 29 0 3 := ⟨_, "RoleAnalyser", rfl, by decide, (aw_m1 116 rfl rfl), Or.inl rfl⟩
theorem fl_ra_32 : aw_fl "RoleAnalyser" 32 0 4 := ⟨_, "RoleAnalyser", rfl, by decide, (aw_m1 117 rfl rfl), Or.inl rfl⟩
theorem fl_ra_35 : aw_fl "RoleAnalyser" 35 0 5 := ⟨_, "RoleAnalyser", rfl, by decide, (aw_m1 118 rfl rfl), Or.inl rfl⟩
theorem cs_ra_38 : aw_cs "RoleAnalyser" 38 mm_ar_fill := ⟨(aw_m1 110 rfl rfl), (aw_m1 111 rfl rfl), (aw_m1 7 rfl rfl), by decide, by decide⟩
theorem ob_po_3 : Cond.methodLink "RoleAnalyser$Policy" 3 objectInit ∈ aw_T ∧ Cond.instanceMethod objectInit ∈ aw_T ∧ Cond.code objectInit ⟨#[0xb1]⟩ 1 none ∈ aw_T := ⟨(aw_m1 37 rfl rfl), (aw_m1 30 rfl rfl), (aw_m1 31 rfl rfl)⟩
theorem fl_po_9 : aw_fl "RoleAnalyser$Policy" 9 1 1 := ⟨_, "RoleAnalyser$Policy", rfl, by decide, (aw_m1 67 rfl rfl), Or.inl rfl⟩
theorem nl_po_15 : aw_nl "RoleAnalyser$Policy" 15 6 3 := ⟨_, rfl, rfl, (aw_m1 38 rfl rfl), (aw_m1 39 rfl rfl), (aw_m1 5 rfl rfl)⟩
theorem ci_po_17 : aw_ci "RoleAnalyser$Policy" 17 mm_al_init := ⟨(aw_m1 40 rfl rfl), (aw_m1 41 rfl rfl), rfl, rfl, rfl, (aw_m1 42 rfl rfl), by decide, by decide⟩
theorem fl_po_18 : aw_fl "RoleAnalyser$Policy" 18 1 2 := ⟨_, "RoleAnalyser$Policy", rfl, by decide, (aw_m1 70 rfl rfl), Or.inl rfl⟩
theorem fl_po_22 : aw_fl "RoleAnalyser$Policy" 22 1 3 := ⟨_, "RoleAnalyser$Policy", rfl, by decide, (aw_m1 73 rfl rfl), Or.inl rfl⟩
theorem fl_po_25 : aw_fl "RoleAnalyser$Policy" 25 1 4 := ⟨_, "RoleAnalyser$Policy", rfl, by decide, (aw_m1 75 rfl rfl), Or.inl rfl⟩
theorem ci_al_1 : aw_ci "java/util/ArrayList" 1 mm_bl_init := ⟨(aw_m1 43 rfl rfl), (aw_m1 44 rfl rfl), rfl, rfl, rfl, (aw_m1 45 rfl rfl), by decide, by decide⟩
theorem fl_al_9 : aw_fl "java/util/ArrayList" 9 6 1 := ⟨_, "java/util/ArrayList", rfl, by decide, (aw_m1 52 rfl rfl), Or.inl rfl⟩
theorem ci_bl_1 : aw_ci "java/util/AbstractList" 1 mm_bc_init := ⟨(aw_m1 46 rfl rfl), (aw_m1 47 rfl rfl), rfl, rfl, rfl, (aw_m1 48 rfl rfl), by decide, by decide⟩
theorem fl_bl_7 : aw_fl "java/util/AbstractList" 7 6 0 := ⟨_, "java/util/AbstractList", rfl, by decide, (aw_m1 54 rfl rfl), Or.inl rfl⟩
theorem ob_bc_1 : Cond.methodLink "java/util/AbstractCollection" 1 objectInit ∈ aw_T ∧ Cond.instanceMethod objectInit ∈ aw_T ∧ Cond.code objectInit ⟨#[0xb1]⟩ 1 none ∈ aw_T := ⟨(aw_m1 49 rfl rfl), (aw_m1 30 rfl rfl), (aw_m1 31 rfl rfl)⟩
theorem ob_se_3 : Cond.methodLink "RoleAnalyser$Search" 3 objectInit ∈ aw_T ∧ Cond.instanceMethod objectInit ∈ aw_T ∧ Cond.code objectInit ⟨#[0xb1]⟩ 1 none ∈ aw_T := ⟨(aw_m1 93 rfl rfl), (aw_m1 30 rfl rfl), (aw_m1 31 rfl rfl)⟩
theorem fl_se_9 : aw_fl "RoleAnalyser$Search" 9 2 0 := ⟨_, "RoleAnalyser$Search", rfl, by decide, (aw_m1 94 rfl rfl), Or.inl rfl⟩
theorem fl_se_15 : aw_fl "RoleAnalyser$Search" 15 2 1 := ⟨_, "RoleAnalyser$Search", rfl, by decide, (aw_m1 95 rfl rfl), Or.inl rfl⟩
theorem fl_se_19 : aw_fl "RoleAnalyser$Search" 19 2 2 := ⟨_, "RoleAnalyser$Search", rfl, by decide, (aw_m1 96 rfl rfl), Or.inl rfl⟩
theorem cv_lw_7 : aw_cv "RoleAnalyserLaw" 7 mm_ra_role := ⟨(aw_m1 139 rfl rfl), (aw_m1 140 rfl rfl), (aw_m1 141 rfl rfl), by decide, by decide⟩
theorem fl_ra_44 : aw_fl "RoleAnalyser" 44 1 0 := ⟨_, "RoleAnalyser$Policy", rfl, by decide, (aw_m1 65 rfl rfl), Or.inl rfl⟩
theorem th_ra_48_50 : ax_thr "RoleAnalyser" 48 50 52 7 "java/lang/IllegalStateException" "there are 6 roles" ["java/lang/RuntimeException", "java/lang/Exception"] := ⟨by decide +kernel, by decide +kernel, by decide, (aw_m1 143 rfl rfl), (aw_m1 12 rfl rfl), List.mem_of_getElem? (i := 0) rfl, rfl, tp_e0 _ _ (aw_m1 186 rfl rfl)⟩
theorem cv_lw_15 : aw_cv "RoleAnalyserLaw" 15 mm_ra_user := ⟨(aw_m1 215 rfl rfl), (aw_m1 216 rfl rfl), (aw_m1 217 rfl rfl), by decide, by decide⟩
theorem fl_ra_55 : aw_fl "RoleAnalyser" 55 0 6 := ⟨_, "RoleAnalyser", rfl, by decide, (aw_m1 119 rfl rfl), Or.inl rfl⟩
theorem th_ra_48_58 : ax_thr "RoleAnalyser" 48 58 52 7 "java/lang/IllegalStateException" "there are 5 users" ["java/lang/RuntimeException", "java/lang/Exception"] := ⟨by decide +kernel, by decide +kernel, by decide, (aw_m1 143 rfl rfl), (aw_m1 12 rfl rfl), List.mem_of_getElem? (i := 1) rfl, rfl, tp_e0 _ _ (aw_m1 186 rfl rfl)⟩
theorem cv_lw_18 : aw_cv "RoleAnalyserLaw" 18 mm_ra_above := ⟨(aw_m1 225 rfl rfl), (aw_m1 226 rfl rfl), (aw_m1 227 rfl rfl), by decide, by decide⟩
theorem cv_ra_60 : aw_cv "RoleAnalyser" 60 mm_ra_checkRole := ⟨(aw_m1 229 rfl rfl), (aw_m1 231 rfl rfl), (aw_ms 1 rfl rfl), by decide, by decide⟩
theorem cv_ra_64 : aw_cv "RoleAnalyser" 64 mm_po_standsAbove := ⟨(aw_m2 9 rfl rfl), (aw_m2 10 rfl rfl), (aw_m2 11 rfl rfl), by decide, by decide⟩
theorem th_ra_68_70 : ax_thr "RoleAnalyser" 68 70 72 9 "java/lang/IllegalArgumentException" "a role would stand above itself" ["java/lang/RuntimeException", "java/lang/Exception"] := ⟨by decide +kernel, by decide +kernel, by decide, (aw_m2 16 rfl rfl), (aw_m1 14 rfl rfl), List.mem_of_getElem? (i := 3) rfl, rfl, tp_e2 _ _ (aw_m2 26 rfl rfl)⟩
theorem cv_ra_73 : aw_cv "RoleAnalyser" 73 mm_ra_authorizedRoles := ⟨(aw_m2 32 rfl rfl), (aw_m2 34 rfl rfl), (aw_ms 2 rfl rfl), by decide, by decide⟩
theorem cv_ra_77 : aw_cv "RoleAnalyser" 77 mm_po_widened := ⟨(aw_m2 36 rfl rfl), (aw_m2 37 rfl rfl), (aw_m2 38 rfl rfl), by decide, by decide⟩
theorem cv_ra_81 : aw_cv "RoleAnalyser" 81 mm_ra_checkStaticLimits := ⟨(aw_m2 40 rfl rfl), (aw_m2 42 rfl rfl), (aw_ms 3 rfl rfl), by decide, by decide⟩
theorem cv_ra_84 : aw_cv "RoleAnalyser" 84 mm_po_putAbove := ⟨(aw_m2 77 rfl rfl), (aw_m2 78 rfl rfl), (aw_m2 79 rfl rfl), by decide, by decide⟩
theorem th_ra_195_197 : ax_thr "RoleAnalyser" 195 197 199 8 "java/lang/IndexOutOfBoundsException" "no such role" ["java/lang/RuntimeException", "java/lang/Exception"] := ⟨by decide +kernel, by decide +kernel, by decide, (aw_m1 233 rfl rfl), (aw_m1 13 rfl rfl), List.mem_of_getElem? (i := 2) rfl, rfl, tp_e1 _ _ (aw_m2 3 rfl rfl)⟩
theorem cs_po_28 : aw_cn "RoleAnalyser$Policy" 28 "RoleAnalyser" mm_ra_has := ⟨List.mem_of_getElem? (i := 8) rfl, (aw_m2 14 rfl rfl), (aw_m1 1 rfl rfl), by decide, by decide⟩
theorem fl_ra_172 : aw_fl "RoleAnalyser" 172 1 1 := ⟨_, "RoleAnalyser$Policy", rfl, by decide, (aw_m1 69 rfl rfl), Or.inl rfl⟩
theorem fl_ra_103 : aw_fl "RoleAnalyser" 103 1 2 := ⟨_, "RoleAnalyser$Policy", rfl, by decide, (aw_m1 71 rfl rfl), Or.inl rfl⟩
theorem cs_ra_166 : aw_cs "RoleAnalyser" 166 mm_ra_areKept := ⟨(aw_m2 44 rfl rfl), (aw_m2 45 rfl rfl), (aw_m1 1 rfl rfl), by decide, by decide⟩
theorem th_ra_48_211 : ax_thr "RoleAnalyser" 48 211 52 7 "java/lang/IllegalStateException" "a static limit would not be kept" ["java/lang/RuntimeException", "java/lang/Exception"] := ⟨by decide +kernel, by decide +kernel, by decide, (aw_m1 143 rfl rfl), (aw_m1 12 rfl rfl), List.mem_of_getElem? (i := 4) rfl, rfl, tp_e0 _ _ (aw_m1 186 rfl rfl)⟩
theorem cv_ra_106 : aw_cv "RoleAnalyser" 106 mm_al_size := ⟨(aw_m2 47 rfl rfl), (aw_m2 48 rfl rfl), (aw_m2 49 rfl rfl), by decide, by decide⟩
theorem cv_ra_223 : aw_cv "RoleAnalyser" 223 mm_al_get := ⟨(aw_m2 51 rfl rfl), (aw_m2 52 rfl rfl), (aw_m2 53 rfl rfl), by decide, by decide⟩
theorem cv_ra_191 : aw_cv "RoleAnalyser" 191 mm_li_isKept := ⟨(aw_m2 66 rfl rfl), (aw_m2 67 rfl rfl), (aw_m2 68 rfl rfl), by decide, by decide⟩
theorem fl_al_48 : aw_fl "java/util/ArrayList" 48 6 2 := ⟨_, "java/util/ArrayList", rfl, by decide, (aw_m1 53 rfl rfl), Or.inl rfl⟩
theorem cs_al_118 : aw_cs "java/util/ArrayList" 118 mm_ot_checkIndex := ⟨(aw_m2 55 rfl rfl), (aw_m2 56 rfl rfl), (aw_m1 15 rfl rfl), by decide, by decide⟩
theorem cv_al_123 : aw_cv "java/util/ArrayList" 123 mm_al_elementData := ⟨(aw_m2 61 rfl rfl), (aw_m2 62 rfl rfl), (aw_m2 63 rfl rfl), by decide, by decide⟩
theorem cs_ot_105 : aw_cs "java/util/Objects" 105 mm_pc_checkIndex := ⟨(aw_m2 58 rfl rfl), (aw_m2 59 rfl rfl), (aw_m1 16 rfl rfl), by decide, by decide⟩
theorem fl_li_7 : aw_fl "RoleAnalyser$Limit" 7 3 0 := ⟨_, "RoleAnalyser$Limit", rfl, by decide, (aw_m2 112 rfl rfl), Or.inl rfl⟩
theorem cs_li_16 : aw_cs "RoleAnalyser$Limit" 16 mm_ig_bitCount := ⟨(aw_m2 70 rfl rfl), (aw_m2 71 rfl rfl), (aw_m1 17 rfl rfl), by decide, by decide⟩
theorem fl_li_13 : aw_fl "RoleAnalyser$Limit" 13 3 1 := ⟨_, "RoleAnalyser$Limit", rfl, by decide, (aw_m2 113 rfl rfl), Or.inl rfl⟩
theorem cv_po_32 : aw_cv "RoleAnalyser$Policy" 32 mm_po_widened := ⟨(aw_m2 81 rfl rfl), (aw_m2 37 rfl rfl), (aw_m2 38 rfl rfl), by decide, by decide⟩
theorem cv_lw_26 : aw_cv "RoleAnalyserLaw" 26 mm_ra_grant := ⟨(aw_m2 85 rfl rfl), (aw_m2 86 rfl rfl), (aw_m2 87 rfl rfl), by decide, by decide⟩
theorem cs_ra_88 : aw_cs "RoleAnalyser" 88 mm_ra_checkPermission := ⟨(aw_m2 89 rfl rfl), (aw_m2 90 rfl rfl), (aw_m1 1 rfl rfl), by decide, by decide⟩
theorem cs_ra_91 : aw_cs "RoleAnalyser" 91 mm_ra_has := ⟨(aw_m2 93 rfl rfl), (aw_m2 14 rfl rfl), (aw_m1 1 rfl rfl), by decide, by decide⟩
theorem th_ra_195_219 : ax_thr "RoleAnalyser" 195 219 199 8 "java/lang/IndexOutOfBoundsException" "no such permission" ["java/lang/RuntimeException", "java/lang/Exception"] := ⟨by decide +kernel, by decide +kernel, by decide, (aw_m1 233 rfl rfl), (aw_m1 13 rfl rfl), List.mem_of_getElem? (i := 5) rfl, rfl, tp_e1 _ _ (aw_m2 3 rfl rfl)⟩
theorem cv_lw_29 : aw_cv "RoleAnalyserLaw" 29 mm_ra_limit := ⟨(aw_m2 97 rfl rfl), (aw_m2 98 rfl rfl), (aw_m2 99 rfl rfl), by decide, by decide⟩
theorem th_ra_68_94 : ax_thr "RoleAnalyser" 68 94 72 9 "java/lang/IllegalArgumentException" "the number of a limit is below 2" ["java/lang/RuntimeException", "java/lang/Exception"] := ⟨by decide +kernel, by decide +kernel, by decide, (aw_m2 16 rfl rfl), (aw_m1 14 rfl rfl), List.mem_of_getElem? (i := 6) rfl, rfl, tp_e2 _ _ (aw_m2 26 rfl rfl)⟩
theorem cs_ra_96 : aw_cs "RoleAnalyser" 96 mm_ra_checkRoleSet := ⟨(aw_m2 102 rfl rfl), (aw_m2 103 rfl rfl), (aw_m1 1 rfl rfl), by decide, by decide⟩
theorem fl_ra_99 : aw_fl "RoleAnalyser" 99 1 3 := ⟨_, "RoleAnalyser$Policy", rfl, by decide, (aw_m1 74 rfl rfl), Or.inl rfl⟩
theorem th_ra_48_112 : ax_thr "RoleAnalyser" 48 112 52 7 "java/lang/IllegalStateException" "there are 4 limits of the kind" ["java/lang/RuntimeException", "java/lang/Exception"] := ⟨by decide +kernel, by decide +kernel, by decide, (aw_m1 143 rfl rfl), (aw_m1 12 rfl rfl), List.mem_of_getElem? (i := 8) rfl, rfl, tp_e0 _ _ (aw_m1 186 rfl rfl)⟩
theorem nl_ra_114 : aw_nl "RoleAnalyser" 114 3 2 := ⟨_, rfl, rfl, (aw_m2 65 rfl rfl), (aw_m2 107 rfl rfl), (aw_m1 18 rfl rfl)⟩
theorem ci_ra_116 : aw_ci "RoleAnalyser" 116 mm_li_init := ⟨(aw_m2 108 rfl rfl), (aw_m2 109 rfl rfl), rfl, rfl, rfl, (aw_m2 110 rfl rfl), by decide, by decide⟩
theorem cv_ra_118 : aw_cv "RoleAnalyser" 118 mm_ra_isKeptBySessions := ⟨(aw_m2 119 rfl rfl), (aw_m2 121 rfl rfl), (aw_ms 4 rfl rfl), by decide, by decide⟩
theorem cv_ra_122 : aw_cv "RoleAnalyser" 122 mm_ra_isKeptByUsers := ⟨(aw_m2 123 rfl rfl), (aw_m2 125 rfl rfl), (aw_ms 5 rfl rfl), by decide, by decide⟩
theorem th_ra_48_125 : ax_thr "RoleAnalyser" 48 125 52 7 "java/lang/IllegalStateException" "the limit is not kept" ["java/lang/RuntimeException", "java/lang/Exception"] := ⟨by decide +kernel, by decide +kernel, by decide, (aw_m1 143 rfl rfl), (aw_m1 12 rfl rfl), List.mem_of_getElem? (i := 9) rfl, rfl, tp_e0 _ _ (aw_m1 186 rfl rfl)⟩
theorem cv_ra_127 : aw_cv "RoleAnalyser" 127 mm_al_add1 := ⟨(aw_m2 128 rfl rfl), (aw_m2 129 rfl rfl), (aw_m2 130 rfl rfl), by decide, by decide⟩
theorem th_ra_68_221 : ax_thr "RoleAnalyser" 68 221 72 9 "java/lang/IllegalArgumentException" "a set of roles is not 0 .. 63" ["java/lang/RuntimeException", "java/lang/Exception"] := ⟨by decide +kernel, by decide +kernel, by decide, (aw_m2 16 rfl rfl), (aw_m1 14 rfl rfl), List.mem_of_getElem? (i := 7) rfl, rfl, tp_e2 _ _ (aw_m2 26 rfl rfl)⟩
theorem ob_li_1 : Cond.methodLink "RoleAnalyser$Limit" 1 objectInit ∈ aw_T ∧ Cond.instanceMethod objectInit ∈ aw_T ∧ Cond.code objectInit ⟨#[0xb1]⟩ 1 none ∈ aw_T := ⟨(aw_m2 111 rfl rfl), (aw_m1 30 rfl rfl), (aw_m1 31 rfl rfl)⟩
theorem fl_al_63 : aw_fl "java/util/ArrayList" 63 6 0 := ⟨_, "java/util/ArrayList", rfl, by decide, (aw_m1 55 rfl rfl), Or.inr (aw_m1 56 rfl rfl)⟩
theorem cv_al_131 : aw_cv "java/util/ArrayList" 131 mm_al_add2 := ⟨(aw_m2 132 rfl rfl), (aw_m2 134 rfl rfl), (aw_ms 6 rfl rfl), by decide, by decide⟩
theorem cv_al_129 : aw_cv "java/util/ArrayList" 129 mm_al_grow1 := ⟨(aw_m2 136 rfl rfl), (aw_m2 138 rfl rfl), (aw_ms 7 rfl rfl), by decide, by decide⟩
theorem cv_al_69 : aw_cv "java/util/ArrayList" 69 mm_al_grow2 := ⟨(aw_m2 140 rfl rfl), (aw_m2 142 rfl rfl), (aw_ms 8 rfl rfl), by decide, by decide⟩
theorem cs_al_73 : aw_cs "java/util/ArrayList" 73 mm_su_newLength := ⟨(aw_m2 144 rfl rfl), (aw_m2 145 rfl rfl), (aw_m1 19 rfl rfl), by decide, by decide⟩
theorem cs_al_66 : aw_cs "java/util/ArrayList" 66 mm_ar_copyOf1 := ⟨(aw_m2 154 rfl rfl), (aw_m2 155 rfl rfl), (aw_m1 7 rfl rfl), by decide, by decide⟩
theorem cs_al_79 : aw_cs "java/util/ArrayList" 79 mm_ma_max := ⟨(aw_m2 184 rfl rfl), (aw_m2 148 rfl rfl), (aw_m1 20 rfl rfl), by decide, by decide⟩
theorem cs_su_194 : aw_cs "jdk/internal/util/ArraysSupport" 194 mm_ma_max := ⟨(aw_m2 147 rfl rfl), (aw_m2 148 rfl rfl), (aw_m1 20 rfl rfl), by decide, by decide⟩
theorem cs_su_201 : aw_cs "jdk/internal/util/ArraysSupport" 201 mm_su_hugeLength := ⟨(aw_m2 151 rfl rfl), (aw_m2 152 rfl rfl), (aw_m1 19 rfl rfl), by decide, by decide⟩
theorem cs_ar_300 : aw_cs "java/util/Arrays" 300 mm_ar_copyOf2 := ⟨(aw_m2 172 rfl rfl), (aw_m2 173 rfl rfl), (aw_m1 7 rfl rfl), by decide, by decide⟩
theorem cs_ar_304 : aw_cs "java/util/Arrays" 304 mm_ma_min := ⟨(aw_m2 178 rfl rfl), (aw_m2 179 rfl rfl), (aw_m1 20 rfl rfl), by decide, by decide⟩
theorem cv_lw_33 : aw_cv "RoleAnalyserLaw" 33 mm_ra_giveRule := ⟨(aw_m2 189 rfl rfl), (aw_m2 190 rfl rfl), (aw_m2 191 rfl rfl), by decide, by decide⟩
theorem cv_ra_131 : aw_cv "RoleAnalyser" 131 mm_ra_checkRoomForRule := ⟨(aw_m2 193 rfl rfl), (aw_m2 195 rfl rfl), (aw_ms 9 rfl rfl), by decide, by decide⟩
theorem nl_ra_134 : aw_nl "RoleAnalyser" 134 4 5 := ⟨_, rfl, rfl, (aw_m2 198 rfl rfl), (aw_m2 199 rfl rfl), (aw_m1 22 rfl rfl)⟩
theorem ci_ra_136 : aw_ci "RoleAnalyser" 136 mm_ru_init := ⟨(aw_m2 200 rfl rfl), (aw_m2 201 rfl rfl), rfl, rfl, rfl, (aw_m2 202 rfl rfl), by decide, by decide⟩
theorem cv_ra_139 : aw_cv "RoleAnalyser" 139 mm_po_addRule := ⟨(aw_m2 220 rfl rfl), (aw_m2 221 rfl rfl), (aw_m2 222 rfl rfl), by decide, by decide⟩
theorem fl_ra_206 : aw_fl "RoleAnalyser" 206 1 4 := ⟨_, "RoleAnalyser$Policy", rfl, by decide, (aw_m1 76 rfl rfl), Or.inl rfl⟩
theorem th_ra_48_209 : ax_thr "RoleAnalyser" 48 209 52 7 "java/lang/IllegalStateException" "there are 8 rules" ["java/lang/RuntimeException", "java/lang/Exception"] := ⟨by decide +kernel, by decide +kernel, by decide, (aw_m1 143 rfl rfl), (aw_m1 12 rfl rfl), List.mem_of_getElem? (i := 10) rfl, rfl, tp_e0 _ _ (aw_m1 186 rfl rfl)⟩
theorem ob_ru_1 : Cond.methodLink "RoleAnalyser$Rule" 1 objectInit ∈ aw_T ∧ Cond.instanceMethod objectInit ∈ aw_T ∧ Cond.code objectInit ⟨#[0xb1]⟩ 1 none ∈ aw_T := ⟨(aw_m2 203 rfl rfl), (aw_m1 30 rfl rfl), (aw_m1 31 rfl rfl)⟩
theorem fl_ru_7 : aw_fl "RoleAnalyser$Rule" 7 4 0 := ⟨_, "RoleAnalyser$Rule", rfl, by decide, (aw_m2 204 rfl rfl), Or.inl rfl⟩
theorem fl_ru_13 : aw_fl "RoleAnalyser$Rule" 13 4 1 := ⟨_, "RoleAnalyser$Rule", rfl, by decide, (aw_m2 205 rfl rfl), Or.inl rfl⟩
theorem fl_ru_17 : aw_fl "RoleAnalyser$Rule" 17 4 2 := ⟨_, "RoleAnalyser$Rule", rfl, by decide, (aw_m2 206 rfl rfl), Or.inl rfl⟩
theorem fl_ru_20 : aw_fl "RoleAnalyser$Rule" 20 4 3 := ⟨_, "RoleAnalyser$Rule", rfl, by decide, (aw_m2 207 rfl rfl), Or.inl rfl⟩
theorem fl_ru_23 : aw_fl "RoleAnalyser$Rule" 23 4 4 := ⟨_, "RoleAnalyser$Rule", rfl, by decide, (aw_m2 208 rfl rfl), Or.inl rfl⟩
theorem cv_po_36 : aw_cv "RoleAnalyser$Policy" 36 mm_al_add1 := ⟨(aw_m2 224 rfl rfl), (aw_m2 129 rfl rfl), (aw_m2 130 rfl rfl), by decide, by decide⟩
theorem cv_po_40 : aw_cv "RoleAnalyser$Policy" 40 mm_al_size := ⟨(aw_m2 225 rfl rfl), (aw_m2 48 rfl rfl), (aw_m2 49 rfl rfl), by decide, by decide⟩
theorem cv_lw_37 : aw_cv "RoleAnalyserLaw" 37 mm_ra_takeRule := ⟨(aw_m2 229 rfl rfl), (aw_m2 230 rfl rfl), (aw_m2 231 rfl rfl), by decide, by decide⟩
theorem cv_lw_41 : aw_cv "RoleAnalyserLaw" 41 mm_ra_assign := ⟨(aw_m2 236 rfl rfl), (aw_m2 237 rfl rfl), (aw_m2 238 rfl rfl), by decide, by decide⟩
theorem cv_ra_143 : aw_cv "RoleAnalyser" 143 mm_ra_checkUser := ⟨(aw_m3 0 rfl rfl), (aw_m3 2 rfl rfl), (aw_ms 10 rfl rfl), by decide, by decide⟩
theorem cv_ra_146 : aw_cv "RoleAnalyser" 146 mm_ra_addAssignment := ⟨(aw_m3 5 rfl rfl), (aw_m3 7 rfl rfl), (aw_ms 11 rfl rfl), by decide, by decide⟩
theorem th_ra_195_200 : ax_thr "RoleAnalyser" 195 200 199 8 "java/lang/IndexOutOfBoundsException" "no such user" ["java/lang/RuntimeException", "java/lang/Exception"] := ⟨by decide +kernel, by decide +kernel, by decide, (aw_m1 233 rfl rfl), (aw_m1 13 rfl rfl), List.mem_of_getElem? (i := 11) rfl, rfl, tp_e1 _ _ (aw_m2 3 rfl rfl)⟩
theorem cv_lw_44 : aw_cv "RoleAnalyserLaw" 44 mm_ra_remove := ⟨(aw_m3 12 rfl rfl), (aw_m3 13 rfl rfl), (aw_m3 14 rfl rfl), by decide, by decide⟩
theorem cv_ra_149 : aw_cv "RoleAnalyser" 149 mm_ra_dropAssignment := ⟨(aw_m3 16 rfl rfl), (aw_m3 18 rfl rfl), (aw_ms 12 rfl rfl), by decide, by decide⟩
theorem cv_lw_47 : aw_cv "RoleAnalyserLaw" 47 mm_ra_give := ⟨(aw_m3 24 rfl rfl), (aw_m3 25 rfl rfl), (aw_m3 26 rfl rfl), by decide, by decide⟩
theorem cv_ra_152 : aw_cv "RoleAnalyser" 152 mm_ra_checkLeave := ⟨(aw_m3 28 rfl rfl), (aw_m3 30 rfl rfl), (aw_ms 13 rfl rfl), by decide, by decide⟩
theorem cv_ra_213 : aw_cv "RoleAnalyser" 213 mm_po_isAllowed := ⟨(aw_m3 32 rfl rfl), (aw_m3 33 rfl rfl), (aw_m3 34 rfl rfl), by decide, by decide⟩
theorem th_ra_161_217 : ax_thr "RoleAnalyser" 161 217 165 10 "java/lang/UnsupportedOperationException" "no rule allows it" ["java/lang/RuntimeException", "java/lang/Exception"] := ⟨by decide +kernel, by decide +kernel, by decide, (aw_m3 47 rfl rfl), (aw_m1 23 rfl rfl), List.mem_of_getElem? (i := 12) rfl, rfl, tp_e3 _ _ (aw_m3 57 rfl rfl)⟩
theorem cv_po_44 : aw_cv "RoleAnalyser$Policy" 44 mm_al_get := ⟨(aw_m3 36 rfl rfl), (aw_m2 52 rfl rfl), (aw_m2 53 rfl rfl), by decide, by decide⟩
theorem cv_po_50 : aw_cv "RoleAnalyser$Policy" 50 mm_ru_isFor := ⟨(aw_m3 38 rfl rfl), (aw_m3 39 rfl rfl), (aw_m3 40 rfl rfl), by decide, by decide⟩
theorem cv_po_54 : aw_cv "RoleAnalyser$Policy" 54 mm_ru_allows := ⟨(aw_m3 42 rfl rfl), (aw_m3 43 rfl rfl), (aw_m3 44 rfl rfl), by decide, by decide⟩
theorem cs_ru_26 : aw_cn "RoleAnalyser$Rule" 26 "RoleAnalyser" mm_ra_has := ⟨List.mem_of_getElem? (i := 10) rfl, (aw_m2 14 rfl rfl), (aw_m1 1 rfl rfl), by decide, by decide⟩
theorem cv_lw_53 : aw_cv "RoleAnalyserLaw" 53 mm_ra_take := ⟨(aw_m3 66 rfl rfl), (aw_m3 67 rfl rfl), (aw_m3 68 rfl rfl), by decide, by decide⟩
theorem cv_lw_56 : aw_cv "RoleAnalyserLaw" 56 mm_ra_roles := ⟨(aw_m3 73 rfl rfl), (aw_m3 74 rfl rfl), (aw_m3 75 rfl rfl), by decide, by decide⟩
theorem cv_lw_60 : aw_cv "RoleAnalyserLaw" 60 mm_ra_open := ⟨(aw_m3 80 rfl rfl), (aw_m3 81 rfl rfl), (aw_m3 82 rfl rfl), by decide, by decide⟩
theorem th_ra_48_156 : ax_thr "RoleAnalyser" 48 156 52 7 "java/lang/IllegalStateException" "4 sessions are open" ["java/lang/RuntimeException", "java/lang/Exception"] := ⟨by decide +kernel, by decide +kernel, by decide, (aw_m1 143 rfl rfl), (aw_m1 12 rfl rfl), List.mem_of_getElem? (i := 13) rfl, rfl, tp_e0 _ _ (aw_m1 186 rfl rfl)⟩
theorem cv_lw_64 : aw_cv "RoleAnalyserLaw" 64 mm_ra_close := ⟨(aw_m3 88 rfl rfl), (aw_m3 89 rfl rfl), (aw_m3 90 rfl rfl), by decide, by decide⟩
theorem cv_ra_158 : aw_cv "RoleAnalyser" 158 mm_ra_checkSession := ⟨(aw_m3 92 rfl rfl), (aw_m3 94 rfl rfl), (aw_ms 14 rfl rfl), by decide, by decide⟩
theorem th_ra_195_202 : ax_thr "RoleAnalyser" 195 202 199 8 "java/lang/IndexOutOfBoundsException" "no such session is open" ["java/lang/RuntimeException", "java/lang/Exception"] := ⟨by decide +kernel, by decide +kernel, by decide, (aw_m1 233 rfl rfl), (aw_m1 13 rfl rfl), List.mem_of_getElem? (i := 14) rfl, rfl, tp_e1 _ _ (aw_m2 3 rfl rfl)⟩
theorem cv_lw_68 : aw_cv "RoleAnalyserLaw" 68 mm_ra_activate := ⟨(aw_m3 100 rfl rfl), (aw_m3 101 rfl rfl), (aw_m3 102 rfl rfl), by decide, by decide⟩
theorem th_ra_161_163 : ax_thr "RoleAnalyser" 161 163 165 10 "java/lang/UnsupportedOperationException" "the user is not authorized for the role" ["java/lang/RuntimeException", "java/lang/Exception"] := ⟨by decide +kernel, by decide +kernel, by decide, (aw_m3 47 rfl rfl), (aw_m1 23 rfl rfl), List.mem_of_getElem? (i := 15) rfl, rfl, tp_e3 _ _ (aw_m3 57 rfl rfl)⟩
theorem th_ra_48_170 : ax_thr "RoleAnalyser" 48 170 52 7 "java/lang/IllegalStateException" "a dynamic limit would not be kept" ["java/lang/RuntimeException", "java/lang/Exception"] := ⟨by decide +kernel, by decide +kernel, by decide, (aw_m1 143 rfl rfl), (aw_m1 12 rfl rfl), List.mem_of_getElem? (i := 16) rfl, rfl, tp_e0 _ _ (aw_m1 186 rfl rfl)⟩
theorem cv_lw_71 : aw_cv "RoleAnalyserLaw" 71 mm_ra_rest := ⟨(aw_m3 109 rfl rfl), (aw_m3 110 rfl rfl), (aw_m3 111 rfl rfl), by decide, by decide⟩
theorem cv_lw_74 : aw_cv "RoleAnalyserLaw" 74 mm_ra_active := ⟨(aw_m3 116 rfl rfl), (aw_m3 117 rfl rfl), (aw_m3 118 rfl rfl), by decide, by decide⟩
theorem cv_lw_77 : aw_cv "RoleAnalyserLaw" 77 mm_ra_may := ⟨(aw_m3 123 rfl rfl), (aw_m3 124 rfl rfl), (aw_m3 125 rfl rfl), by decide, by decide⟩
theorem cv_lw_80 : aw_cv "RoleAnalyserLaw" 80 mm_ra_distance := ⟨(aw_m3 130 rfl rfl), (aw_m3 131 rfl rfl), (aw_m3 132 rfl rfl), by decide, by decide⟩
theorem cv_ra_175 : aw_cv "RoleAnalyser" 175 mm_ra_checkQuestion := ⟨(aw_m3 134 rfl rfl), (aw_m3 136 rfl rfl), (aw_ms 15 rfl rfl), by decide, by decide⟩
theorem cv_ra_178 : aw_cv "RoleAnalyser" 178 mm_se_nearestGoal := ⟨(aw_m3 139 rfl rfl), (aw_m3 140 rfl rfl), (aw_m3 141 rfl rfl), by decide, by decide⟩
theorem cv_ra_182 : aw_cv "RoleAnalyser" 182 mm_se_stepsTo := ⟨(aw_m3 179 rfl rfl), (aw_m3 180 rfl rfl), (aw_m3 181 rfl rfl), by decide, by decide⟩
theorem th_ra_161_204 : ax_thr "RoleAnalyser" 161 204 165 10 "java/lang/UnsupportedOperationException" "there are more than 12 pairs" ["java/lang/RuntimeException", "java/lang/Exception"] := ⟨by decide +kernel, by decide +kernel, by decide, (aw_m3 47 rfl rfl), (aw_m1 23 rfl rfl), List.mem_of_getElem? (i := 17) rfl, rfl, tp_e3 _ _ (aw_m3 57 rfl rfl)⟩
theorem fl_se_22 : aw_fl "RoleAnalyser$Search" 22 2 4 := ⟨_, "RoleAnalyser$Search", rfl, by decide, (aw_m1 98 rfl rfl), Or.inl rfl⟩
theorem cv_se_26 : aw_cv "RoleAnalyser$Search" 26 mm_se_begin := ⟨(aw_m3 143 rfl rfl), (aw_m3 145 rfl rfl), (aw_ms 16 rfl rfl), by decide, by decide⟩
theorem fl_se_30 : aw_fl "RoleAnalyser$Search" 30 2 3 := ⟨_, "RoleAnalyser$Search", rfl, by decide, (aw_m1 97 rfl rfl), Or.inl rfl⟩
theorem cv_se_33 : aw_cv "RoleAnalyser$Search" 33 mm_se_authorizedIn := ⟨(aw_m3 156 rfl rfl), (aw_m3 158 rfl rfl), (aw_ms 19 rfl rfl), by decide, by decide⟩
theorem cs_se_37 : aw_cn "RoleAnalyser$Search" 37 "RoleAnalyser" mm_ra_has := ⟨List.mem_of_getElem? (i := 12) rfl, (aw_m2 14 rfl rfl), (aw_m1 1 rfl rfl), by decide, by decide⟩
theorem cv_se_41 : aw_cv "RoleAnalyser$Search" 41 mm_se_takeSteps := ⟨(aw_m3 165 rfl rfl), (aw_m3 167 rfl rfl), (aw_ms 21 rfl rfl), by decide, by decide⟩
theorem cv_se_52 : aw_cv "RoleAnalyser$Search" 52 mm_se_pairBit := ⟨(aw_m3 147 rfl rfl), (aw_m3 149 rfl rfl), (aw_ms 17 rfl rfl), by decide, by decide⟩
theorem cs_se_55 : aw_cs "RoleAnalyser$Search" 55 mm_ar_fill := ⟨(aw_m3 151 rfl rfl), (aw_m1 111 rfl rfl), (aw_m1 7 rfl rfl), by decide, by decide⟩
theorem cv_se_61 : aw_cv "RoleAnalyser$Search" 61 mm_se_reach := ⟨(aw_m3 152 rfl rfl), (aw_m3 154 rfl rfl), (aw_ms 18 rfl rfl), by decide, by decide⟩
theorem fl_se_71 : aw_fl "RoleAnalyser$Search" 71 1 0 := ⟨_, "RoleAnalyser$Policy", rfl, by decide, (aw_m1 66 rfl rfl), Or.inl rfl⟩
theorem fl_se_80 : aw_fl "RoleAnalyser$Search" 80 1 1 := ⟨_, "RoleAnalyser$Policy", rfl, by decide, (aw_m1 68 rfl rfl), Or.inl rfl⟩
theorem cv_se_68 : aw_cv "RoleAnalyser$Search" 68 mm_se_assignedIn := ⟨(aw_m3 160 rfl rfl), (aw_m3 162 rfl rfl), (aw_ms 20 rfl rfl), by decide, by decide⟩
theorem cv_se_65 : aw_cv "RoleAnalyser$Search" 65 mm_se_authorizedOfAll := ⟨(aw_m3 169 rfl rfl), (aw_m3 171 rfl rfl), (aw_ms 22 rfl rfl), by decide, by decide⟩
theorem cv_se_76 : aw_cv "RoleAnalyser$Search" 76 mm_se_isStep := ⟨(aw_m3 173 rfl rfl), (aw_m3 175 rfl rfl), (aw_ms 23 rfl rfl), by decide, by decide⟩
theorem cv_se_83 : aw_cv "RoleAnalyser$Search" 83 mm_po_isAllowed := ⟨(aw_m3 177 rfl rfl), (aw_m3 33 rfl rfl), (aw_m3 34 rfl rfl), by decide, by decide⟩
theorem fl_se_87 : aw_fl "RoleAnalyser$Search" 87 1 2 := ⟨_, "RoleAnalyser$Policy", rfl, by decide, (aw_m1 72 rfl rfl), Or.inl rfl⟩
theorem cs_se_91 : aw_cn "RoleAnalyser$Search" 91 "RoleAnalyser" mm_ra_areKept := ⟨List.mem_of_getElem? (i := 13) rfl, (aw_m2 45 rfl rfl), (aw_m1 1 rfl rfl), by decide, by decide⟩
theorem cv_se_45 : aw_cv "RoleAnalyser$Search" 45 mm_se_stateBefore := ⟨(aw_m3 183 rfl rfl), (aw_m3 185 rfl rfl), (aw_ms 24 rfl rfl), by decide, by decide⟩
theorem cv_lw_83 : aw_cv "RoleAnalyserLaw" 83 mm_ra_plan := ⟨(aw_m3 190 rfl rfl), (aw_m3 191 rfl rfl), (aw_m3 192 rfl rfl), by decide, by decide⟩
theorem th_ra_48_185 : ax_thr "RoleAnalyser" 48 185 52 7 "java/lang/IllegalStateException" "no steps lead there" ["java/lang/RuntimeException", "java/lang/Exception"] := ⟨by decide +kernel, by decide +kernel, by decide, (aw_m1 143 rfl rfl), (aw_m1 12 rfl rfl), List.mem_of_getElem? (i := 18) rfl, rfl, tp_e0 _ _ (aw_m1 186 rfl rfl)⟩
theorem cv_ra_187 : aw_cv "RoleAnalyser" 187 mm_se_stepCode := ⟨(aw_m3 195 rfl rfl), (aw_m3 196 rfl rfl), (aw_m3 197 rfl rfl), by decide, by decide⟩
theorem cv_se_49 : aw_cv "RoleAnalyser$Search" 49 mm_se_stepsTo := ⟨(aw_m3 199 rfl rfl), (aw_m3 180 rfl rfl), (aw_m3 181 rfl rfl), by decide, by decide⟩
theorem ob_mo_1 : Cond.methodLink "RoleAnalyserModel" 1 objectInit ∈ aw_T ∧ Cond.instanceMethod objectInit ∈ aw_T ∧ Cond.code objectInit ⟨#[0xb1]⟩ 1 none ∈ aw_T := ⟨(aw_m3 205 rfl rfl), (aw_m1 30 rfl rfl), (aw_m1 31 rfl rfl)⟩
theorem fl_mo_7 : aw_fl "RoleAnalyserModel" 7 5 3 := ⟨_, "RoleAnalyserModel", rfl, by decide, (aw_m3 209 rfl rfl), Or.inl rfl⟩
theorem fl_mo_13 : aw_fl "RoleAnalyserModel" 13 5 4 := ⟨_, "RoleAnalyserModel", rfl, by decide, (aw_m3 210 rfl rfl), Or.inl rfl⟩
theorem fl_mo_16 : aw_fl "RoleAnalyserModel" 16 5 5 := ⟨_, "RoleAnalyserModel", rfl, by decide, (aw_m3 211 rfl rfl), Or.inl rfl⟩
theorem fl_mo_19 : aw_fl "RoleAnalyserModel" 19 5 6 := ⟨_, "RoleAnalyserModel", rfl, by decide, (aw_m3 212 rfl rfl), Or.inl rfl⟩
theorem fl_mo_22 : aw_fl "RoleAnalyserModel" 22 5 7 := ⟨_, "RoleAnalyserModel", rfl, by decide, (aw_m3 213 rfl rfl), Or.inl rfl⟩
theorem fl_mo_25 : aw_fl "RoleAnalyserModel" 25 5 8 := ⟨_, "RoleAnalyserModel", rfl, by decide, (aw_m3 214 rfl rfl), Or.inl rfl⟩
theorem fl_mo_28 : aw_fl "RoleAnalyserModel" 28 5 9 := ⟨_, "RoleAnalyserModel", rfl, by decide, (aw_m3 215 rfl rfl), Or.inl rfl⟩
theorem fl_mo_31 : aw_fl "RoleAnalyserModel" 31 5 10 := ⟨_, "RoleAnalyserModel", rfl, by decide, (aw_m3 216 rfl rfl), Or.inl rfl⟩
theorem fl_mo_35 : aw_fl "RoleAnalyserModel" 35 5 11 := ⟨_, "RoleAnalyserModel", rfl, by decide, (aw_m3 217 rfl rfl), Or.inl rfl⟩
theorem fl_mo_38 : aw_fl "RoleAnalyserModel" 38 5 12 := ⟨_, "RoleAnalyserModel", rfl, by decide, (aw_m3 218 rfl rfl), Or.inl rfl⟩
theorem fl_mo_41 : aw_fl "RoleAnalyserModel" 41 5 14 := ⟨_, "RoleAnalyserModel", rfl, by decide, (aw_m3 220 rfl rfl), Or.inl rfl⟩
theorem fl_mo_44 : aw_fl "RoleAnalyserModel" 44 5 15 := ⟨_, "RoleAnalyserModel", rfl, by decide, (aw_m3 221 rfl rfl), Or.inl rfl⟩
theorem fl_mo_47 : aw_fl "RoleAnalyserModel" 47 5 16 := ⟨_, "RoleAnalyserModel", rfl, by decide, (aw_m3 222 rfl rfl), Or.inl rfl⟩
theorem fl_mo_50 : aw_fl "RoleAnalyserModel" 50 5 17 := ⟨_, "RoleAnalyserModel", rfl, by decide, (aw_m3 223 rfl rfl), Or.inl rfl⟩
theorem fl_mo_53 : aw_fl "RoleAnalyserModel" 53 5 18 := ⟨_, "RoleAnalyserModel", rfl, by decide, (aw_m3 224 rfl rfl), Or.inl rfl⟩
theorem fl_mo_56 : aw_fl "RoleAnalyserModel" 56 5 19 := ⟨_, "RoleAnalyserModel", rfl, by decide, (aw_m3 225 rfl rfl), Or.inl rfl⟩
theorem fl_mo_59 : aw_fl "RoleAnalyserModel" 59 5 20 := ⟨_, "RoleAnalyserModel", rfl, by decide, (aw_m3 226 rfl rfl), Or.inl rfl⟩
theorem fl_mo_62 : aw_fl "RoleAnalyserModel" 62 5 21 := ⟨_, "RoleAnalyserModel", rfl, by decide, (aw_m3 227 rfl rfl), Or.inl rfl⟩
theorem fl_mo_65 : aw_fl "RoleAnalyserModel" 65 5 0 := ⟨_, "RoleAnalyserModel", rfl, by decide, (aw_m3 206 rfl rfl), Or.inl rfl⟩
theorem fl_mo_69 : aw_fl "RoleAnalyserModel" 69 5 1 := ⟨_, "RoleAnalyserModel", rfl, by decide, (aw_m3 207 rfl rfl), Or.inl rfl⟩
theorem cv_mo_86 : aw_cv "RoleAnalyserModel" 86 mm_mo_when := ⟨(aw_m4 48 rfl rfl), (aw_m4 50 rfl rfl), (aw_ms 25 rfl rfl), by decide, by decide⟩
theorem fl_mo_72 : aw_fl "RoleAnalyserModel" 72 5 2 := ⟨_, "RoleAnalyserModel", rfl, by decide, (aw_m3 208 rfl rfl), Or.inl rfl⟩
theorem cv_mo_90 : aw_cv "RoleAnalyserModel" 90 mm_mo_isRole := ⟨(aw_m4 60 rfl rfl), (aw_m4 62 rfl rfl), (aw_ms 26 rfl rfl), by decide, by decide⟩
theorem cv_mo_93 : aw_cv "RoleAnalyserModel" 93 mm_mo_allStaticKept := ⟨(aw_m4 64 rfl rfl), (aw_m4 66 rfl rfl), (aw_ms 27 rfl rfl), by decide, by decide⟩
theorem cv_mo_82 : aw_cv "RoleAnalyserModel" 82 mm_mo_staticKept := ⟨(aw_m4 68 rfl rfl), (aw_m4 70 rfl rfl), (aw_ms 28 rfl rfl), by decide, by decide⟩
theorem cv_mo_75 : aw_cv "RoleAnalyserModel" 75 mm_mo_closed := ⟨(aw_m4 72 rfl rfl), (aw_m4 74 rfl rfl), (aw_ms 29 rfl rfl), by decide, by decide⟩
theorem cs_mo_79 : aw_cs "RoleAnalyserModel" 79 mm_mo_count := ⟨(aw_m4 76 rfl rfl), (aw_m4 77 rfl rfl), (aw_m1 8 rfl rfl), by decide, by decide⟩
theorem cv_mo_97 : aw_cv "RoleAnalyserModel" 97 mm_mo_dynamicKept := ⟨(aw_m4 87 rfl rfl), (aw_m4 89 rfl rfl), (aw_ms 30 rfl rfl), by decide, by decide⟩
theorem cs_mo_103 : aw_cs "RoleAnalyserModel" 103 mm_mo_isSet := ⟨(aw_m4 95 rfl rfl), (aw_m4 96 rfl rfl), (aw_m1 8 rfl rfl), by decide, by decide⟩
theorem fl_mo_100 : aw_fl "RoleAnalyserModel" 100 5 13 := ⟨_, "RoleAnalyserModel", rfl, by decide, (aw_m3 219 rfl rfl), Or.inl rfl⟩
theorem cv_mo_106 : aw_cv "RoleAnalyserModel" 106 mm_mo_addRule := ⟨(aw_m4 98 rfl rfl), (aw_m4 100 rfl rfl), (aw_ms 31 rfl rfl), by decide, by decide⟩
theorem cv_mo_113 : aw_cv "RoleAnalyserModel" 113 mm_mo_isUser := ⟨(aw_m4 110 rfl rfl), (aw_m4 112 rfl rfl), (aw_ms 32 rfl rfl), by decide, by decide⟩
theorem cv_mo_116 : aw_cv "RoleAnalyserModel" 116 mm_mo_put := ⟨(aw_m4 114 rfl rfl), (aw_m4 116 rfl rfl), (aw_ms 33 rfl rfl), by decide, by decide⟩
theorem cv_mo_120 : aw_cv "RoleAnalyserModel" 120 mm_mo_drop := ⟨(aw_m4 122 rfl rfl), (aw_m4 124 rfl rfl), (aw_ms 34 rfl rfl), by decide, by decide⟩
theorem cv_mo_110 : aw_cv "RoleAnalyserModel" 110 mm_mo_cutSessions := ⟨(aw_m4 126 rfl rfl), (aw_m4 128 rfl rfl), (aw_ms 35 rfl rfl), by decide, by decide⟩
theorem cv_mo_124 : aw_cv "RoleAnalyserModel" 124 mm_mo_lets := ⟨(aw_m4 134 rfl rfl), (aw_m4 136 rfl rfl), (aw_ms 36 rfl rfl), by decide, by decide⟩
theorem cv_mo_128 : aw_cv "RoleAnalyserModel" 128 mm_mo_isSession := ⟨(aw_m4 154 rfl rfl), (aw_m4 156 rfl rfl), (aw_ms 37 rfl rfl), by decide, by decide⟩
theorem cv_mo_148 : aw_cv "RoleAnalyserModel" 148 mm_mo_search := ⟨(aw_m4 178 rfl rfl), (aw_m4 180 rfl rfl), (aw_ms 38 rfl rfl), by decide, by decide⟩
theorem fl_mo_138 : aw_fl "RoleAnalyserModel" 138 5 23 := ⟨_, "RoleAnalyserModel", rfl, by decide, (aw_m3 229 rfl rfl), Or.inl rfl⟩
theorem fl_mo_135 : aw_fl "RoleAnalyserModel" 135 5 22 := ⟨_, "RoleAnalyserModel", rfl, by decide, (aw_m3 228 rfl rfl), Or.inl rfl⟩
theorem cv_mo_141 : aw_cv "RoleAnalyserModel" 141 mm_mo_has := ⟨(aw_m4 182 rfl rfl), (aw_m4 184 rfl rfl), (aw_ms 39 rfl rfl), by decide, by decide⟩
theorem cv_mo_144 : aw_cv "RoleAnalyserModel" 144 mm_mo_stepTo := ⟨(aw_m4 190 rfl rfl), (aw_m4 192 rfl rfl), (aw_ms 41 rfl rfl), by decide, by decide⟩
theorem cv_mo_131 : aw_cv "RoleAnalyserModel" 131 mm_mo_rolesIn := ⟨(aw_m4 186 rfl rfl), (aw_m4 188 rfl rfl), (aw_ms 40 rfl rfl), by decide, by decide⟩
theorem cv_mo_152 : aw_cv "RoleAnalyserModel" 152 mm_mo_mark := ⟨(aw_m4 198 rfl rfl), (aw_m4 200 rfl rfl), (aw_ms 42 rfl rfl), by decide, by decide⟩
theorem nl_lw_8 : aw_nl "RoleAnalyserLaw" 8 0 7 := ⟨_, rfl, rfl, (aw_m1 24 rfl rfl), (aw_m1 25 rfl rfl), (aw_m1 1 rfl rfl)⟩
theorem ci_lw_87 : aw_ci "RoleAnalyserLaw" 87 mm_ra_init := ⟨(aw_m1 26 rfl rfl), (aw_m1 27 rfl rfl), rfl, rfl, rfl, (aw_m1 28 rfl rfl), by decide, by decide⟩
theorem nl_lw_88 : aw_nl "RoleAnalyserLaw" 88 5 24 := ⟨_, rfl, rfl, (aw_m3 200 rfl rfl), (aw_m3 201 rfl rfl), (aw_m1 8 rfl rfl)⟩
theorem ci_lw_90 : aw_ci "RoleAnalyserLaw" 90 mm_mo_init := ⟨(aw_m3 202 rfl rfl), (aw_m3 203 rfl rfl), rfl, rfl, rfl, (aw_m3 204 rfl rfl), by decide, by decide⟩
theorem cs_lw_91 : aw_cs "RoleAnalyserLaw" 91 mm_lw_role := ⟨(aw_m1 135 rfl rfl), (aw_m1 136 rfl rfl), (aw_m1 0 rfl rfl), by decide, by decide⟩
theorem cv_lw_96 : aw_cv "RoleAnalyserLaw" 96 mm_mo_role := ⟨(aw_m4 44 rfl rfl), (aw_m4 45 rfl rfl), (aw_m4 46 rfl rfl), by decide, by decide⟩
theorem cv_lw_97 : aw_cv "RoleAnalyserLaw" 97 mm_mo_thrown := ⟨(aw_m4 40 rfl rfl), (aw_m4 41 rfl rfl), (aw_m4 42 rfl rfl), by decide, by decide⟩
theorem cs_lw_100 : aw_cs "RoleAnalyserLaw" 100 mm_lw_user := ⟨(aw_m1 212 rfl rfl), (aw_m1 213 rfl rfl), (aw_m1 0 rfl rfl), by decide, by decide⟩
theorem cv_lw_102 : aw_cv "RoleAnalyserLaw" 102 mm_mo_user := ⟨(aw_m4 52 rfl rfl), (aw_m4 53 rfl rfl), (aw_m4 54 rfl rfl), by decide, by decide⟩
theorem cs_lw_103 : aw_cs "RoleAnalyserLaw" 103 mm_lw_above := ⟨(aw_m1 220 rfl rfl), (aw_m1 221 rfl rfl), (aw_m1 0 rfl rfl), by decide, by decide⟩
theorem cv_lw_106 : aw_cv "RoleAnalyserLaw" 106 mm_mo_above := ⟨(aw_m4 56 rfl rfl), (aw_m4 57 rfl rfl), (aw_m4 58 rfl rfl), by decide, by decide⟩
theorem cs_lw_107 : aw_cs "RoleAnalyserLaw" 107 mm_lw_grant := ⟨(aw_m2 82 rfl rfl), (aw_m2 83 rfl rfl), (aw_m1 0 rfl rfl), by decide, by decide⟩
theorem cv_lw_109 : aw_cv "RoleAnalyserLaw" 109 mm_mo_grant := ⟨(aw_m4 79 rfl rfl), (aw_m4 80 rfl rfl), (aw_m4 81 rfl rfl), by decide, by decide⟩
theorem cs_lw_110 : aw_cs "RoleAnalyserLaw" 110 mm_lw_limit := ⟨(aw_m2 94 rfl rfl), (aw_m2 95 rfl rfl), (aw_m1 0 rfl rfl), by decide, by decide⟩
theorem cv_lw_113 : aw_cv "RoleAnalyserLaw" 113 mm_mo_limit := ⟨(aw_m4 83 rfl rfl), (aw_m4 84 rfl rfl), (aw_m4 85 rfl rfl), by decide, by decide⟩
theorem cs_lw_114 : aw_cs "RoleAnalyserLaw" 114 mm_lw_giveRule := ⟨(aw_m2 186 rfl rfl), (aw_m2 187 rfl rfl), (aw_m1 0 rfl rfl), by decide, by decide⟩
theorem cv_lw_117 : aw_cv "RoleAnalyserLaw" 117 mm_mo_giveRule := ⟨(aw_m4 91 rfl rfl), (aw_m4 92 rfl rfl), (aw_m4 93 rfl rfl), by decide, by decide⟩
theorem cs_lw_118 : aw_cs "RoleAnalyserLaw" 118 mm_lw_takeRule := ⟨(aw_m2 226 rfl rfl), (aw_m2 227 rfl rfl), (aw_m1 0 rfl rfl), by decide, by decide⟩
theorem cv_lw_120 : aw_cv "RoleAnalyserLaw" 120 mm_mo_takeRule := ⟨(aw_m4 102 rfl rfl), (aw_m4 103 rfl rfl), (aw_m4 104 rfl rfl), by decide, by decide⟩
theorem cs_lw_121 : aw_cs "RoleAnalyserLaw" 121 mm_lw_assign := ⟨(aw_m2 233 rfl rfl), (aw_m2 234 rfl rfl), (aw_m1 0 rfl rfl), by decide, by decide⟩
theorem cv_lw_123 : aw_cv "RoleAnalyserLaw" 123 mm_mo_assign := ⟨(aw_m4 106 rfl rfl), (aw_m4 107 rfl rfl), (aw_m4 108 rfl rfl), by decide, by decide⟩
theorem cs_lw_124 : aw_cs "RoleAnalyserLaw" 124 mm_lw_remove := ⟨(aw_m3 9 rfl rfl), (aw_m3 10 rfl rfl), (aw_m1 0 rfl rfl), by decide, by decide⟩
theorem cv_lw_126 : aw_cv "RoleAnalyserLaw" 126 mm_mo_remove := ⟨(aw_m4 118 rfl rfl), (aw_m4 119 rfl rfl), (aw_m4 120 rfl rfl), by decide, by decide⟩
theorem cs_lw_127 : aw_cs "RoleAnalyserLaw" 127 mm_lw_give := ⟨(aw_m3 20 rfl rfl), (aw_m3 21 rfl rfl), (aw_m1 0 rfl rfl), by decide, by decide⟩
theorem cv_lw_130 : aw_cv "RoleAnalyserLaw" 130 mm_mo_give := ⟨(aw_m4 130 rfl rfl), (aw_m4 131 rfl rfl), (aw_m4 132 rfl rfl), by decide, by decide⟩
theorem cs_lw_131 : aw_cs "RoleAnalyserLaw" 131 mm_lw_take := ⟨(aw_m3 63 rfl rfl), (aw_m3 64 rfl rfl), (aw_m1 0 rfl rfl), by decide, by decide⟩
theorem cv_lw_133 : aw_cv "RoleAnalyserLaw" 133 mm_mo_take := ⟨(aw_m4 138 rfl rfl), (aw_m4 139 rfl rfl), (aw_m4 140 rfl rfl), by decide, by decide⟩
theorem cs_lw_134 : aw_cs "RoleAnalyserLaw" 134 mm_lw_roles := ⟨(aw_m3 70 rfl rfl), (aw_m3 71 rfl rfl), (aw_m1 0 rfl rfl), by decide, by decide⟩
theorem cv_lw_137 : aw_cv "RoleAnalyserLaw" 137 mm_mo_roles := ⟨(aw_m4 142 rfl rfl), (aw_m4 143 rfl rfl), (aw_m4 144 rfl rfl), by decide, by decide⟩
theorem cs_lw_138 : aw_cs "RoleAnalyserLaw" 138 mm_lw_open := ⟨(aw_m3 77 rfl rfl), (aw_m3 78 rfl rfl), (aw_m1 0 rfl rfl), by decide, by decide⟩
theorem cv_lw_141 : aw_cv "RoleAnalyserLaw" 141 mm_mo_open := ⟨(aw_m4 146 rfl rfl), (aw_m4 147 rfl rfl), (aw_m4 148 rfl rfl), by decide, by decide⟩
theorem cs_lw_142 : aw_cs "RoleAnalyserLaw" 142 mm_lw_close := ⟨(aw_m3 85 rfl rfl), (aw_m3 86 rfl rfl), (aw_m1 0 rfl rfl), by decide, by decide⟩
theorem cv_lw_145 : aw_cv "RoleAnalyserLaw" 145 mm_mo_close := ⟨(aw_m4 150 rfl rfl), (aw_m4 151 rfl rfl), (aw_m4 152 rfl rfl), by decide, by decide⟩
theorem cs_lw_146 : aw_cs "RoleAnalyserLaw" 146 mm_lw_activate := ⟨(aw_m3 97 rfl rfl), (aw_m3 98 rfl rfl), (aw_m1 0 rfl rfl), by decide, by decide⟩
theorem cv_lw_148 : aw_cv "RoleAnalyserLaw" 148 mm_mo_activate := ⟨(aw_m4 158 rfl rfl), (aw_m4 159 rfl rfl), (aw_m4 160 rfl rfl), by decide, by decide⟩
theorem cs_lw_149 : aw_cs "RoleAnalyserLaw" 149 mm_lw_rest := ⟨(aw_m3 106 rfl rfl), (aw_m3 107 rfl rfl), (aw_m1 0 rfl rfl), by decide, by decide⟩
theorem cv_lw_151 : aw_cv "RoleAnalyserLaw" 151 mm_mo_rest := ⟨(aw_m4 162 rfl rfl), (aw_m4 163 rfl rfl), (aw_m4 164 rfl rfl), by decide, by decide⟩
theorem cs_lw_152 : aw_cs "RoleAnalyserLaw" 152 mm_lw_active := ⟨(aw_m3 113 rfl rfl), (aw_m3 114 rfl rfl), (aw_m1 0 rfl rfl), by decide, by decide⟩
theorem cv_lw_154 : aw_cv "RoleAnalyserLaw" 154 mm_mo_active := ⟨(aw_m4 166 rfl rfl), (aw_m4 167 rfl rfl), (aw_m4 168 rfl rfl), by decide, by decide⟩
theorem cs_lw_155 : aw_cs "RoleAnalyserLaw" 155 mm_lw_may := ⟨(aw_m3 120 rfl rfl), (aw_m3 121 rfl rfl), (aw_m1 0 rfl rfl), by decide, by decide⟩
theorem cv_lw_157 : aw_cv "RoleAnalyserLaw" 157 mm_mo_may := ⟨(aw_m4 170 rfl rfl), (aw_m4 171 rfl rfl), (aw_m4 172 rfl rfl), by decide, by decide⟩
theorem cs_lw_158 : aw_cs "RoleAnalyserLaw" 158 mm_lw_distance := ⟨(aw_m3 127 rfl rfl), (aw_m3 128 rfl rfl), (aw_m1 0 rfl rfl), by decide, by decide⟩
theorem cv_lw_160 : aw_cv "RoleAnalyserLaw" 160 mm_mo_distance := ⟨(aw_m4 174 rfl rfl), (aw_m4 175 rfl rfl), (aw_m4 176 rfl rfl), by decide, by decide⟩
theorem cs_lw_161 : aw_cs "RoleAnalyserLaw" 161 mm_lw_plan := ⟨(aw_m3 187 rfl rfl), (aw_m3 188 rfl rfl), (aw_m1 0 rfl rfl), by decide, by decide⟩
theorem cv_lw_163 : aw_cv "RoleAnalyserLaw" 163 mm_mo_plan := ⟨(aw_m4 194 rfl rfl), (aw_m4 195 rfl rfl), (aw_m4 196 rfl rfl), by decide, by decide⟩
theorem ac_int : Cond.arrayClass .int ∈ aw_T := aw_m1 64 rfl rfl
theorem ac_bool : Cond.arrayClass .boolean ∈ aw_T := aw_m4 39 rfl rfl
theorem ac_long : Cond.arrayClass .long ∈ aw_T := aw_m4 202 rfl rfl
theorem ff_ra_0 : aw_ff "RoleAnalyser" 0 0 := fun r h => by cases h; exact ⟨rfl, rfl⟩
theorem ff_ra_1 : aw_ff "RoleAnalyser" 0 1 := fun r h => by cases h; exact ⟨rfl, rfl⟩
theorem ff_ra_2 : aw_ff "RoleAnalyser" 0 2 := fun r h => by cases h; exact ⟨rfl, rfl⟩
theorem ff_ra_3 : aw_ff "RoleAnalyser" 0 3 := fun r h => by cases h; exact ⟨rfl, rfl⟩
theorem ff_ra_4 : aw_ff "RoleAnalyser" 0 4 := fun r h => by cases h; exact ⟨rfl, rfl⟩
theorem ff_ra_5 : aw_ff "RoleAnalyser" 0 5 := fun r h => by cases h; exact ⟨rfl, rfl⟩
theorem nf_ra_6 : aw_nf 0 6 := fun r h => by cases h; rfl
theorem nf_po_0 : aw_nf 1 0 := fun r h => by cases h; rfl
theorem ff_po_1 : aw_ff "RoleAnalyser$Policy" 1 1 := fun r h => by cases h; exact ⟨rfl, rfl⟩
theorem ff_po_2 : aw_ff "RoleAnalyser$Policy" 1 2 := fun r h => by cases h; exact ⟨rfl, rfl⟩
theorem ff_po_3 : aw_ff "RoleAnalyser$Policy" 1 3 := fun r h => by cases h; exact ⟨rfl, rfl⟩
theorem ff_po_4 : aw_ff "RoleAnalyser$Policy" 1 4 := fun r h => by cases h; exact ⟨rfl, rfl⟩
theorem ff_se_0 : aw_ff "RoleAnalyser$Search" 2 0 := fun r h => by cases h; exact ⟨rfl, rfl⟩
theorem ff_se_1 : aw_ff "RoleAnalyser$Search" 2 1 := fun r h => by cases h; exact ⟨rfl, rfl⟩
theorem ff_se_2 : aw_ff "RoleAnalyser$Search" 2 2 := fun r h => by cases h; exact ⟨rfl, rfl⟩
theorem nf_se_3 : aw_nf 2 3 := fun r h => by cases h; rfl
theorem nf_se_4 : aw_nf 2 4 := fun r h => by cases h; rfl
theorem ff_li_0 : aw_ff "RoleAnalyser$Limit" 3 0 := fun r h => by cases h; exact ⟨rfl, rfl⟩
theorem ff_li_1 : aw_ff "RoleAnalyser$Limit" 3 1 := fun r h => by cases h; exact ⟨rfl, rfl⟩
theorem ff_ru_0 : aw_ff "RoleAnalyser$Rule" 4 0 := fun r h => by cases h; exact ⟨rfl, rfl⟩
theorem ff_ru_1 : aw_ff "RoleAnalyser$Rule" 4 1 := fun r h => by cases h; exact ⟨rfl, rfl⟩
theorem ff_ru_2 : aw_ff "RoleAnalyser$Rule" 4 2 := fun r h => by cases h; exact ⟨rfl, rfl⟩
theorem ff_ru_3 : aw_ff "RoleAnalyser$Rule" 4 3 := fun r h => by cases h; exact ⟨rfl, rfl⟩
theorem ff_ru_4 : aw_ff "RoleAnalyser$Rule" 4 4 := fun r h => by cases h; exact ⟨rfl, rfl⟩
theorem nf_mo_0 : aw_nf 5 0 := fun r h => by cases h; rfl
theorem nf_mo_1 : aw_nf 5 1 := fun r h => by cases h; rfl
theorem nf_mo_2 : aw_nf 5 2 := fun r h => by cases h; rfl
theorem ff_mo_3 : aw_ff "RoleAnalyserModel" 5 3 := fun r h => by cases h; exact ⟨rfl, rfl⟩
theorem ff_mo_4 : aw_ff "RoleAnalyserModel" 5 4 := fun r h => by cases h; exact ⟨rfl, rfl⟩
theorem ff_mo_5 : aw_ff "RoleAnalyserModel" 5 5 := fun r h => by cases h; exact ⟨rfl, rfl⟩
theorem ff_mo_6 : aw_ff "RoleAnalyserModel" 5 6 := fun r h => by cases h; exact ⟨rfl, rfl⟩
theorem ff_mo_7 : aw_ff "RoleAnalyserModel" 5 7 := fun r h => by cases h; exact ⟨rfl, rfl⟩
theorem ff_mo_8 : aw_ff "RoleAnalyserModel" 5 8 := fun r h => by cases h; exact ⟨rfl, rfl⟩
theorem ff_mo_9 : aw_ff "RoleAnalyserModel" 5 9 := fun r h => by cases h; exact ⟨rfl, rfl⟩
theorem ff_mo_10 : aw_ff "RoleAnalyserModel" 5 10 := fun r h => by cases h; exact ⟨rfl, rfl⟩
theorem ff_mo_11 : aw_ff "RoleAnalyserModel" 5 11 := fun r h => by cases h; exact ⟨rfl, rfl⟩
theorem ff_mo_12 : aw_ff "RoleAnalyserModel" 5 12 := fun r h => by cases h; exact ⟨rfl, rfl⟩
theorem nf_mo_13 : aw_nf 5 13 := fun r h => by cases h; rfl
theorem ff_mo_14 : aw_ff "RoleAnalyserModel" 5 14 := fun r h => by cases h; exact ⟨rfl, rfl⟩
theorem ff_mo_15 : aw_ff "RoleAnalyserModel" 5 15 := fun r h => by cases h; exact ⟨rfl, rfl⟩
theorem ff_mo_16 : aw_ff "RoleAnalyserModel" 5 16 := fun r h => by cases h; exact ⟨rfl, rfl⟩
theorem ff_mo_17 : aw_ff "RoleAnalyserModel" 5 17 := fun r h => by cases h; exact ⟨rfl, rfl⟩
theorem ff_mo_18 : aw_ff "RoleAnalyserModel" 5 18 := fun r h => by cases h; exact ⟨rfl, rfl⟩
theorem ff_mo_19 : aw_ff "RoleAnalyserModel" 5 19 := fun r h => by cases h; exact ⟨rfl, rfl⟩
theorem ff_mo_20 : aw_ff "RoleAnalyserModel" 5 20 := fun r h => by cases h; exact ⟨rfl, rfl⟩
theorem ff_mo_21 : aw_ff "RoleAnalyserModel" 5 21 := fun r h => by cases h; exact ⟨rfl, rfl⟩
theorem nf_mo_22 : aw_nf 5 22 := fun r h => by cases h; rfl
theorem nf_mo_23 : aw_nf 5 23 := fun r h => by cases h; rfl
theorem nf_al_0 : aw_nf 6 0 := fun r h => by cases h; rfl
theorem nf_al_1 : aw_nf 6 1 := fun r h => by cases h; rfl
theorem nf_al_2 : aw_nf 6 2 := fun r h => by cases h; rfl
end
