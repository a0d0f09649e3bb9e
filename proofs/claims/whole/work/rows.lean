section
-- ===== PART A: goes FIRST, ahead of the names: the tables' words, and 'selects' of the private methods out of them =====
/-- a private method of a class that the tables say can be made, by its rows of tables_1 -/
def lw_okq (q : MethodName × Nat) : Prop := (q.1.cls ≠ "java/lang/invoke/MethodHandle" ∧ q.1.cls ≠ "java/lang/invoke/VarHandle") ∧ Cond.instantiable q.1.cls q.2 ∈ tables_1 ∧ Cond.privateMethod q.1 ∈ tables_1 ∧ Cond.instanceMethod q.1 ∈ tables_1
theorem lw_p0 : lw_okq (⟨"java/lang/Throwable", "fillInStackTrace", "(I)Ljava/lang/Throwable;"⟩, 6) := ⟨⟨by decide +kernel, by decide +kernel⟩, List.mem_of_getElem? (i := 183) (by decide +kernel), List.mem_of_getElem? (i := 181) (by decide +kernel), List.mem_of_getElem? (i := 182) (by decide +kernel)⟩
theorem lw_p1 : lw_okq (⟨"RoleAnalyser", "checkRole", "(I)V"⟩, 7) := ⟨⟨by decide +kernel, by decide +kernel⟩, List.mem_of_getElem? (i := 25) (by decide +kernel), List.mem_of_getElem? (i := 230) (by decide +kernel), List.mem_of_getElem? (i := 231) (by decide +kernel)⟩
theorem lw_p2 : lw_okq (⟨"RoleAnalyser", "authorizedRoles", "(I)I"⟩, 7) := ⟨⟨by decide +kernel, by decide +kernel⟩, List.mem_of_getElem? (i := 25) (by decide +kernel), List.mem_of_getElem? (i := 273) (by decide +kernel), List.mem_of_getElem? (i := 274) (by decide +kernel)⟩
theorem lw_p3 : lw_okq (⟨"RoleAnalyser", "checkStaticLimits", "(I)V"⟩, 7) := ⟨⟨by decide +kernel, by decide +kernel⟩, List.mem_of_getElem? (i := 25) (by decide +kernel), List.mem_of_getElem? (i := 281) (by decide +kernel), List.mem_of_getElem? (i := 282) (by decide +kernel)⟩
theorem lw_p4 : lw_okq (⟨"RoleAnalyser", "isKeptBySessions", "(LRoleAnalyser$Limit;)Z"⟩, 7) := ⟨⟨by decide +kernel, by decide +kernel⟩, List.mem_of_getElem? (i := 25) (by decide +kernel), List.mem_of_getElem? (i := 360) (by decide +kernel), List.mem_of_getElem? (i := 361) (by decide +kernel)⟩
theorem lw_p5 : lw_okq (⟨"RoleAnalyser", "isKeptByUsers", "(LRoleAnalyser$Limit;)Z"⟩, 7) := ⟨⟨by decide +kernel, by decide +kernel⟩, List.mem_of_getElem? (i := 25) (by decide +kernel), List.mem_of_getElem? (i := 364) (by decide +kernel), List.mem_of_getElem? (i := 365) (by decide +kernel)⟩
theorem lw_p6 : lw_okq (⟨"java/util/ArrayList", "add", "(Ljava/lang/Object;[Ljava/lang/Object;I)V"⟩, 3) := ⟨⟨by decide +kernel, by decide +kernel⟩, List.mem_of_getElem? (i := 39) (by decide +kernel), List.mem_of_getElem? (i := 373) (by decide +kernel), List.mem_of_getElem? (i := 374) (by decide +kernel)⟩
theorem lw_p7 : lw_okq (⟨"java/util/ArrayList", "grow", "()[Ljava/lang/Object;"⟩, 3) := ⟨⟨by decide +kernel, by decide +kernel⟩, List.mem_of_getElem? (i := 39) (by decide +kernel), List.mem_of_getElem? (i := 377) (by decide +kernel), List.mem_of_getElem? (i := 378) (by decide +kernel)⟩
theorem lw_p8 : lw_okq (⟨"java/util/ArrayList", "grow", "(I)[Ljava/lang/Object;"⟩, 3) := ⟨⟨by decide +kernel, by decide +kernel⟩, List.mem_of_getElem? (i := 39) (by decide +kernel), List.mem_of_getElem? (i := 381) (by decide +kernel), List.mem_of_getElem? (i := 382) (by decide +kernel)⟩
theorem lw_p9 : lw_okq (⟨"RoleAnalyser", "checkRoomForRule", "()V"⟩, 7) := ⟨⟨by decide +kernel, by decide +kernel⟩, List.mem_of_getElem? (i := 25) (by decide +kernel), List.mem_of_getElem? (i := 434) (by decide +kernel), List.mem_of_getElem? (i := 435) (by decide +kernel)⟩
theorem lw_p10 : lw_okq (⟨"RoleAnalyser", "checkUser", "(I)V"⟩, 7) := ⟨⟨by decide +kernel, by decide +kernel⟩, List.mem_of_getElem? (i := 25) (by decide +kernel), List.mem_of_getElem? (i := 481) (by decide +kernel), List.mem_of_getElem? (i := 482) (by decide +kernel)⟩
theorem lw_p11 : lw_okq (⟨"RoleAnalyser", "addAssignment", "(II)Z"⟩, 7) := ⟨⟨by decide +kernel, by decide +kernel⟩, List.mem_of_getElem? (i := 25) (by decide +kernel), List.mem_of_getElem? (i := 486) (by decide +kernel), List.mem_of_getElem? (i := 487) (by decide +kernel)⟩
theorem lw_p12 : lw_okq (⟨"RoleAnalyser", "dropAssignment", "(II)Z"⟩, 7) := ⟨⟨by decide +kernel, by decide +kernel⟩, List.mem_of_getElem? (i := 25) (by decide +kernel), List.mem_of_getElem? (i := 497) (by decide +kernel), List.mem_of_getElem? (i := 498) (by decide +kernel)⟩
theorem lw_p13 : lw_okq (⟨"RoleAnalyser", "checkLeave", "(ZIII)V"⟩, 7) := ⟨⟨by decide +kernel, by decide +kernel⟩, List.mem_of_getElem? (i := 25) (by decide +kernel), List.mem_of_getElem? (i := 509) (by decide +kernel), List.mem_of_getElem? (i := 510) (by decide +kernel)⟩
theorem lw_p14 : lw_okq (⟨"RoleAnalyser", "checkSession", "(I)V"⟩, 7) := ⟨⟨by decide +kernel, by decide +kernel⟩, List.mem_of_getElem? (i := 25) (by decide +kernel), List.mem_of_getElem? (i := 573) (by decide +kernel), List.mem_of_getElem? (i := 574) (by decide +kernel)⟩
theorem lw_p15 : lw_okq (⟨"RoleAnalyser", "checkQuestion", "(II)V"⟩, 7) := ⟨⟨by decide +kernel, by decide +kernel⟩, List.mem_of_getElem? (i := 25) (by decide +kernel), List.mem_of_getElem? (i := 615) (by decide +kernel), List.mem_of_getElem? (i := 616) (by decide +kernel)⟩
def lw_privs_1 : List (MethodName × Nat) := [(⟨"java/lang/Throwable", "fillInStackTrace", "(I)Ljava/lang/Throwable;"⟩, 6), (⟨"RoleAnalyser", "checkRole", "(I)V"⟩, 7), (⟨"RoleAnalyser", "authorizedRoles", "(I)I"⟩, 7), (⟨"RoleAnalyser", "checkStaticLimits", "(I)V"⟩, 7), (⟨"RoleAnalyser", "isKeptBySessions", "(LRoleAnalyser$Limit;)Z"⟩, 7), (⟨"RoleAnalyser", "isKeptByUsers", "(LRoleAnalyser$Limit;)Z"⟩, 7), (⟨"java/util/ArrayList", "add", "(Ljava/lang/Object;[Ljava/lang/Object;I)V"⟩, 3), (⟨"java/util/ArrayList", "grow", "()[Ljava/lang/Object;"⟩, 3), (⟨"java/util/ArrayList", "grow", "(I)[Ljava/lang/Object;"⟩, 3), (⟨"RoleAnalyser", "checkRoomForRule", "()V"⟩, 7), (⟨"RoleAnalyser", "checkUser", "(I)V"⟩, 7), (⟨"RoleAnalyser", "addAssignment", "(II)Z"⟩, 7), (⟨"RoleAnalyser", "dropAssignment", "(II)Z"⟩, 7), (⟨"RoleAnalyser", "checkLeave", "(ZIII)V"⟩, 7), (⟨"RoleAnalyser", "checkSession", "(I)V"⟩, 7), (⟨"RoleAnalyser", "checkQuestion", "(II)V"⟩, 7)]
theorem lw_r1 : ∀ q ∈ lw_privs_1, lw_okq q := List.forall_mem_cons.mpr ⟨lw_p0, List.forall_mem_cons.mpr ⟨lw_p1, List.forall_mem_cons.mpr ⟨lw_p2, List.forall_mem_cons.mpr ⟨lw_p3, List.forall_mem_cons.mpr ⟨lw_p4, List.forall_mem_cons.mpr ⟨lw_p5, List.forall_mem_cons.mpr ⟨lw_p6, List.forall_mem_cons.mpr ⟨lw_p7, List.forall_mem_cons.mpr ⟨lw_p8, List.forall_mem_cons.mpr ⟨lw_p9, List.forall_mem_cons.mpr ⟨lw_p10, List.forall_mem_cons.mpr ⟨lw_p11, List.forall_mem_cons.mpr ⟨lw_p12, List.forall_mem_cons.mpr ⟨lw_p13, List.forall_mem_cons.mpr ⟨lw_p14, List.forall_mem_cons.mpr ⟨lw_p15, fun _ h => absurd h List.not_mem_nil⟩⟩⟩⟩⟩⟩⟩⟩⟩⟩⟩⟩⟩⟩⟩⟩
theorem lw_p16 : lw_okq (⟨"RoleAnalyser$Search", "begin", "([I)V"⟩, 5) := ⟨⟨by decide +kernel, by decide +kernel⟩, List.mem_of_getElem? (i := 89) (by decide +kernel), List.mem_of_getElem? (i := 624) (by decide +kernel), List.mem_of_getElem? (i := 625) (by decide +kernel)⟩
theorem lw_p17 : lw_okq (⟨"RoleAnalyser$Search", "pairBit", "(II)I"⟩, 5) := ⟨⟨by decide +kernel, by decide +kernel⟩, List.mem_of_getElem? (i := 89) (by decide +kernel), List.mem_of_getElem? (i := 628) (by decide +kernel), List.mem_of_getElem? (i := 629) (by decide +kernel)⟩
theorem lw_p18 : lw_okq (⟨"RoleAnalyser$Search", "reach", "(II)V"⟩, 5) := ⟨⟨by decide +kernel, by decide +kernel⟩, List.mem_of_getElem? (i := 89) (by decide +kernel), List.mem_of_getElem? (i := 633) (by decide +kernel), List.mem_of_getElem? (i := 634) (by decide +kernel)⟩
theorem lw_p19 : lw_okq (⟨"RoleAnalyser$Search", "authorizedIn", "(II)I"⟩, 5) := ⟨⟨by decide +kernel, by decide +kernel⟩, List.mem_of_getElem? (i := 89) (by decide +kernel), List.mem_of_getElem? (i := 637) (by decide +kernel), List.mem_of_getElem? (i := 638) (by decide +kernel)⟩
theorem lw_p20 : lw_okq (⟨"RoleAnalyser$Search", "assignedIn", "(II)I"⟩, 5) := ⟨⟨by decide +kernel, by decide +kernel⟩, List.mem_of_getElem? (i := 89) (by decide +kernel), List.mem_of_getElem? (i := 641) (by decide +kernel), List.mem_of_getElem? (i := 642) (by decide +kernel)⟩
theorem lw_p21 : lw_okq (⟨"RoleAnalyser$Search", "takeSteps", "(I)V"⟩, 5) := ⟨⟨by decide +kernel, by decide +kernel⟩, List.mem_of_getElem? (i := 89) (by decide +kernel), List.mem_of_getElem? (i := 646) (by decide +kernel), List.mem_of_getElem? (i := 647) (by decide +kernel)⟩
theorem lw_p22 : lw_okq (⟨"RoleAnalyser$Search", "authorizedOfAll", "(I)I"⟩, 5) := ⟨⟨by decide +kernel, by decide +kernel⟩, List.mem_of_getElem? (i := 89) (by decide +kernel), List.mem_of_getElem? (i := 650) (by decide +kernel), List.mem_of_getElem? (i := 651) (by decide +kernel)⟩
theorem lw_p23 : lw_okq (⟨"RoleAnalyser$Search", "isStep", "(III)Z"⟩, 5) := ⟨⟨by decide +kernel, by decide +kernel⟩, List.mem_of_getElem? (i := 89) (by decide +kernel), List.mem_of_getElem? (i := 654) (by decide +kernel), List.mem_of_getElem? (i := 655) (by decide +kernel)⟩
theorem lw_p24 : lw_okq (⟨"RoleAnalyser$Search", "stateBefore", "(I)I"⟩, 5) := ⟨⟨by decide +kernel, by decide +kernel⟩, List.mem_of_getElem? (i := 89) (by decide +kernel), List.mem_of_getElem? (i := 664) (by decide +kernel), List.mem_of_getElem? (i := 665) (by decide +kernel)⟩
theorem lw_p25 : lw_okq (⟨"RoleAnalyserModel", "when", "(ZI)Z"⟩, 24) := ⟨⟨by decide +kernel, by decide +kernel⟩, List.mem_of_getElem? (i := 681) (by decide +kernel), List.mem_of_getElem? (i := 769) (by decide +kernel), List.mem_of_getElem? (i := 770) (by decide +kernel)⟩
theorem lw_p26 : lw_okq (⟨"RoleAnalyserModel", "isRole", "(I)Z"⟩, 24) := ⟨⟨by decide +kernel, by decide +kernel⟩, List.mem_of_getElem? (i := 681) (by decide +kernel), List.mem_of_getElem? (i := 781) (by decide +kernel), List.mem_of_getElem? (i := 782) (by decide +kernel)⟩
theorem lw_p27 : lw_okq (⟨"RoleAnalyserModel", "allStaticKept", "()Z"⟩, 24) := ⟨⟨by decide +kernel, by decide +kernel⟩, List.mem_of_getElem? (i := 681) (by decide +kernel), List.mem_of_getElem? (i := 785) (by decide +kernel), List.mem_of_getElem? (i := 786) (by decide +kernel)⟩
theorem lw_p28 : lw_okq (⟨"RoleAnalyserModel", "staticKept", "(I)Z"⟩, 24) := ⟨⟨by decide +kernel, by decide +kernel⟩, List.mem_of_getElem? (i := 681) (by decide +kernel), List.mem_of_getElem? (i := 789) (by decide +kernel), List.mem_of_getElem? (i := 790) (by decide +kernel)⟩
theorem lw_p29 : lw_okq (⟨"RoleAnalyserModel", "closed", "(I)I"⟩, 24) := ⟨⟨by decide +kernel, by decide +kernel⟩, List.mem_of_getElem? (i := 681) (by decide +kernel), List.mem_of_getElem? (i := 793) (by decide +kernel), List.mem_of_getElem? (i := 794) (by decide +kernel)⟩
theorem lw_p30 : lw_okq (⟨"RoleAnalyserModel", "dynamicKept", "(I)Z"⟩, 24) := ⟨⟨by decide +kernel, by decide +kernel⟩, List.mem_of_getElem? (i := 681) (by decide +kernel), List.mem_of_getElem? (i := 808) (by decide +kernel), List.mem_of_getElem? (i := 809) (by decide +kernel)⟩
theorem lw_p31 : lw_okq (⟨"RoleAnalyserModel", "addRule", "(ZIIII)I"⟩, 24) := ⟨⟨by decide +kernel, by decide +kernel⟩, List.mem_of_getElem? (i := 681) (by decide +kernel), List.mem_of_getElem? (i := 819) (by decide +kernel), List.mem_of_getElem? (i := 820) (by decide +kernel)⟩
def lw_privs_2 : List (MethodName × Nat) := [(⟨"RoleAnalyser$Search", "begin", "([I)V"⟩, 5), (⟨"RoleAnalyser$Search", "pairBit", "(II)I"⟩, 5), (⟨"RoleAnalyser$Search", "reach", "(II)V"⟩, 5), (⟨"RoleAnalyser$Search", "authorizedIn", "(II)I"⟩, 5), (⟨"RoleAnalyser$Search", "assignedIn", "(II)I"⟩, 5), (⟨"RoleAnalyser$Search", "takeSteps", "(I)V"⟩, 5), (⟨"RoleAnalyser$Search", "authorizedOfAll", "(I)I"⟩, 5), (⟨"RoleAnalyser$Search", "isStep", "(III)Z"⟩, 5), (⟨"RoleAnalyser$Search", "stateBefore", "(I)I"⟩, 5), (⟨"RoleAnalyserModel", "when", "(ZI)Z"⟩, 24), (⟨"RoleAnalyserModel", "isRole", "(I)Z"⟩, 24), (⟨"RoleAnalyserModel", "allStaticKept", "()Z"⟩, 24), (⟨"RoleAnalyserModel", "staticKept", "(I)Z"⟩, 24), (⟨"RoleAnalyserModel", "closed", "(I)I"⟩, 24), (⟨"RoleAnalyserModel", "dynamicKept", "(I)Z"⟩, 24), (⟨"RoleAnalyserModel", "addRule", "(ZIIII)I"⟩, 24)]
theorem lw_r2 : ∀ q ∈ lw_privs_2, lw_okq q := List.forall_mem_cons.mpr ⟨lw_p16, List.forall_mem_cons.mpr ⟨lw_p17, List.forall_mem_cons.mpr ⟨lw_p18, List.forall_mem_cons.mpr ⟨lw_p19, List.forall_mem_cons.mpr ⟨lw_p20, List.forall_mem_cons.mpr ⟨lw_p21, List.forall_mem_cons.mpr ⟨lw_p22, List.forall_mem_cons.mpr ⟨lw_p23, List.forall_mem_cons.mpr ⟨lw_p24, List.forall_mem_cons.mpr ⟨lw_p25, List.forall_mem_cons.mpr ⟨lw_p26, List.forall_mem_cons.mpr ⟨lw_p27, List.forall_mem_cons.mpr ⟨lw_p28, List.forall_mem_cons.mpr ⟨lw_p29, List.forall_mem_cons.mpr ⟨lw_p30, List.forall_mem_cons.mpr ⟨lw_p31, fun _ h => absurd h List.not_mem_nil⟩⟩⟩⟩⟩⟩⟩⟩⟩⟩⟩⟩⟩⟩⟩⟩
theorem lw_p32 : lw_okq (⟨"RoleAnalyserModel", "isUser", "(I)Z"⟩, 24) := ⟨⟨by decide +kernel, by decide +kernel⟩, List.mem_of_getElem? (i := 681) (by decide +kernel), List.mem_of_getElem? (i := 831) (by decide +kernel), List.mem_of_getElem? (i := 832) (by decide +kernel)⟩
theorem lw_p33 : lw_okq (⟨"RoleAnalyserModel", "put", "(III)Z"⟩, 24) := ⟨⟨by decide +kernel, by decide +kernel⟩, List.mem_of_getElem? (i := 681) (by decide +kernel), List.mem_of_getElem? (i := 835) (by decide +kernel), List.mem_of_getElem? (i := 836) (by decide +kernel)⟩
theorem lw_p34 : lw_okq (⟨"RoleAnalyserModel", "drop", "(II)Z"⟩, 24) := ⟨⟨by decide +kernel, by decide +kernel⟩, List.mem_of_getElem? (i := 681) (by decide +kernel), List.mem_of_getElem? (i := 843) (by decide +kernel), List.mem_of_getElem? (i := 844) (by decide +kernel)⟩
theorem lw_p35 : lw_okq (⟨"RoleAnalyserModel", "cutSessions", "()V"⟩, 24) := ⟨⟨by decide +kernel, by decide +kernel⟩, List.mem_of_getElem? (i := 681) (by decide +kernel), List.mem_of_getElem? (i := 847) (by decide +kernel), List.mem_of_getElem? (i := 848) (by decide +kernel)⟩
theorem lw_p36 : lw_okq (⟨"RoleAnalyserModel", "lets", "(ZIII)Z"⟩, 24) := ⟨⟨by decide +kernel, by decide +kernel⟩, List.mem_of_getElem? (i := 681) (by decide +kernel), List.mem_of_getElem? (i := 855) (by decide +kernel), List.mem_of_getElem? (i := 856) (by decide +kernel)⟩
theorem lw_p37 : lw_okq (⟨"RoleAnalyserModel", "isSession", "(I)Z"⟩, 24) := ⟨⟨by decide +kernel, by decide +kernel⟩, List.mem_of_getElem? (i := 681) (by decide +kernel), List.mem_of_getElem? (i := 875) (by decide +kernel), List.mem_of_getElem? (i := 876) (by decide +kernel)⟩
theorem lw_p38 : lw_okq (⟨"RoleAnalyserModel", "search", "(II)V"⟩, 24) := ⟨⟨by decide +kernel, by decide +kernel⟩, List.mem_of_getElem? (i := 681) (by decide +kernel), List.mem_of_getElem? (i := 899) (by decide +kernel), List.mem_of_getElem? (i := 900) (by decide +kernel)⟩
theorem lw_p39 : lw_okq (⟨"RoleAnalyserModel", "has", "(III)Z"⟩, 24) := ⟨⟨by decide +kernel, by decide +kernel⟩, List.mem_of_getElem? (i := 681) (by decide +kernel), List.mem_of_getElem? (i := 903) (by decide +kernel), List.mem_of_getElem? (i := 904) (by decide +kernel)⟩
theorem lw_p40 : lw_okq (⟨"RoleAnalyserModel", "rolesIn", "(II)I"⟩, 24) := ⟨⟨by decide +kernel, by decide +kernel⟩, List.mem_of_getElem? (i := 681) (by decide +kernel), List.mem_of_getElem? (i := 907) (by decide +kernel), List.mem_of_getElem? (i := 908) (by decide +kernel)⟩
theorem lw_p41 : lw_okq (⟨"RoleAnalyserModel", "stepTo", "(IIIZ)I"⟩, 24) := ⟨⟨by decide +kernel, by decide +kernel⟩, List.mem_of_getElem? (i := 681) (by decide +kernel), List.mem_of_getElem? (i := 911) (by decide +kernel), List.mem_of_getElem? (i := 912) (by decide +kernel)⟩
theorem lw_p42 : lw_okq (⟨"RoleAnalyserModel", "mark", "(II)V"⟩, 24) := ⟨⟨by decide +kernel, by decide +kernel⟩, List.mem_of_getElem? (i := 681) (by decide +kernel), List.mem_of_getElem? (i := 919) (by decide +kernel), List.mem_of_getElem? (i := 920) (by decide +kernel)⟩
def lw_privs_3 : List (MethodName × Nat) := [(⟨"RoleAnalyserModel", "isUser", "(I)Z"⟩, 24), (⟨"RoleAnalyserModel", "put", "(III)Z"⟩, 24), (⟨"RoleAnalyserModel", "drop", "(II)Z"⟩, 24), (⟨"RoleAnalyserModel", "cutSessions", "()V"⟩, 24), (⟨"RoleAnalyserModel", "lets", "(ZIII)Z"⟩, 24), (⟨"RoleAnalyserModel", "isSession", "(I)Z"⟩, 24), (⟨"RoleAnalyserModel", "search", "(II)V"⟩, 24), (⟨"RoleAnalyserModel", "has", "(III)Z"⟩, 24), (⟨"RoleAnalyserModel", "rolesIn", "(II)I"⟩, 24), (⟨"RoleAnalyserModel", "stepTo", "(IIIZ)I"⟩, 24), (⟨"RoleAnalyserModel", "mark", "(II)V"⟩, 24)]
theorem lw_r3 : ∀ q ∈ lw_privs_3, lw_okq q := List.forall_mem_cons.mpr ⟨lw_p32, List.forall_mem_cons.mpr ⟨lw_p33, List.forall_mem_cons.mpr ⟨lw_p34, List.forall_mem_cons.mpr ⟨lw_p35, List.forall_mem_cons.mpr ⟨lw_p36, List.forall_mem_cons.mpr ⟨lw_p37, List.forall_mem_cons.mpr ⟨lw_p38, List.forall_mem_cons.mpr ⟨lw_p39, List.forall_mem_cons.mpr ⟨lw_p40, List.forall_mem_cons.mpr ⟨lw_p41, List.forall_mem_cons.mpr ⟨lw_p42, fun _ h => absurd h List.not_mem_nil⟩⟩⟩⟩⟩⟩⟩⟩⟩⟩⟩
def lw_privs : List (MethodName × Nat) := lw_privs_1 ++ (lw_privs_2 ++ (lw_privs_3))
def lw_tbl : List Cond := k2_sels lw_privs ++ tables_1
theorem lw_privs_ok : ∀ q ∈ lw_privs, lw_okq q := by
  show ∀ q ∈ lw_privs_1 ++ (lw_privs_2 ++ (lw_privs_3)), lw_okq q
  exact List.forall_mem_append.mpr ⟨lw_r1, List.forall_mem_append.mpr ⟨lw_r2, lw_r3⟩⟩
end
section
/-! ===== names: printed by wip/whole/names.py out of the tables and of javap's listing ===== -/
def aw_T : List Cond := lw_tbl.filter goodWord
theorem aw_good : ∀ w ∈ aw_T, (w.onTables && w.keeps) = true ∨ ∃ ty, w = .arrayClass ty := fun w hw => good_of_word (List.mem_filter.mp hw).2
theorem aw_m1 {w : Cond} (i : Nat) (h : tables_1_1[i]? = some w) (hg : goodWord w = true) : w ∈ aw_T := List.mem_filter.mpr ⟨List.mem_append_right _ (List.mem_append_left _ (List.mem_of_getElem? h)), hg⟩
theorem aw_m2 {w : Cond} (i : Nat) (h : tables_1_2[i]? = some w) (hg : goodWord w = true) : w ∈ aw_T := List.mem_filter.mpr ⟨List.mem_append_right _ (List.mem_append_right _ (List.mem_append_left _ (List.mem_of_getElem? h))), hg⟩
theorem aw_m3 {w : Cond} (i : Nat) (h : tables_1_3[i]? = some w) (hg : goodWord w = true) : w ∈ aw_T := List.mem_filter.mpr ⟨List.mem_append_right _ (List.mem_append_right _ (List.mem_append_right _ (List.mem_append_left _ (List.mem_of_getElem? h)))), hg⟩
theorem aw_m4 {w : Cond} (i : Nat) (h : tables_1_4[i]? = some w) (hg : goodWord w = true) : w ∈ aw_T := List.mem_filter.mpr ⟨List.mem_append_right _ (List.mem_append_right _ (List.mem_append_right _ (List.mem_append_right _ (List.mem_of_getElem? h)))), hg⟩
theorem aw_ms {w : Cond} (i : Nat) (h : (k2_sels lw_privs)[i]? = some w) (hg : goodWord w = true) : w ∈ aw_T := List.mem_filter.mpr ⟨List.mem_append_left _ (List.mem_of_getElem? h), hg⟩
def aw_N : List Cond := [(Cond.castable "java/lang/IllegalStateException" "java/lang/IllegalStateException"), (Cond.declares ({ cls := "java/lang/RuntimeException", name := "<init>", desc := "()V" } : MethodName)), (Cond.declares ({ cls := "java/lang/RuntimeException", name := "<init>", desc := "(Ljava/lang/String;)V" } : MethodName)), (Cond.declares ({ cls := "java/lang/Exception", name := "<init>", desc := "()V" } : MethodName)), (Cond.declares ({ cls := "java/lang/Exception", name := "<init>", desc := "(Ljava/lang/String;)V" } : MethodName)), (Cond.declares ({ cls := "java/lang/Throwable", name := "<init>", desc := "()V" } : MethodName)), (Cond.declares ({ cls := "java/lang/Throwable", name := "<init>", desc := "(Ljava/lang/String;)V" } : MethodName)), (Cond.castable "java/lang/IndexOutOfBoundsException" "java/lang/IndexOutOfBoundsException"), (Cond.methodLinkNest "RoleAnalyser$Policy" (28 : Nat) ({ cls := "RoleAnalyser", name := "has", desc := "(II)Z" } : MethodName) "RoleAnalyser"), (Cond.castable "java/lang/IllegalArgumentException" "java/lang/IllegalArgumentException"), (Cond.methodLinkNest "RoleAnalyser$Rule" (26 : Nat) ({ cls := "RoleAnalyser", name := "has", desc := "(II)Z" } : MethodName) "RoleAnalyser"), (Cond.castable "java/lang/UnsupportedOperationException" "java/lang/UnsupportedOperationException"), (Cond.methodLinkNest "RoleAnalyser$Search" (37 : Nat) ({ cls := "RoleAnalyser", name := "has", desc := "(II)Z" } : MethodName) "RoleAnalyser"), (Cond.methodLinkNest "RoleAnalyser$Search" (91 : Nat) ({ cls := "RoleAnalyser", name := "areKept", desc := "(Ljava/util/ArrayList;I)Z" } : MethodName) "RoleAnalyser"), (Cond.castable "RoleAnalyser$Limit" "RoleAnalyser$Limit"), (Cond.castable "RoleAnalyser$Rule" "RoleAnalyser$Rule"), (Cond.declares ({ cls := "java/lang/Object", name := "getClass", desc := "()Ljava/lang/Class;" } : MethodName)), (Cond.castable "RoleAnalyser" "java/lang/Object"), (Cond.castable "RoleAnalyser$Policy" "java/lang/Object"), (Cond.castable "RoleAnalyser$Search" "java/lang/Object"), (Cond.castable "RoleAnalyserModel" "java/lang/Object"), (Cond.castable "RoleAnalyser$Limit" "java/lang/Object"), (Cond.castable "RoleAnalyser$Rule" "java/lang/Object"), (Cond.castable "java/lang/String" "java/lang/Object")]
theorem aw_Nwarm (w : Cond) (hw : w ∈ aw_N) {s U : State} (hW : s.WarmedH U.vm) (h : va_Nw w s) : va_Nw w U := by
  simp only [aw_N, List.mem_cons, List.not_mem_nil, or_false] at hw
  rcases hw with rfl | rfl | rfl | rfl | rfl | rfl | rfl | rfl | rfl | rfl | rfl | rfl | rfl | rfl | rfl | rfl | rfl | rfl | rfl | rfl | rfl | rfl | rfl | rfl
  all_goals first | exact va_Nw.warmC hW h | exact va_Nw.warmM hW h | exact va_Nw.warmD hW h
def aw_NC : List (String × String) := [("java/lang/IndexOutOfBoundsException", "java/lang/IllegalStateException"), ("java/lang/IllegalArgumentException", "java/lang/IllegalStateException"), ("java/lang/UnsupportedOperationException", "java/lang/IllegalStateException"), ("java/lang/IllegalStateException", "java/lang/IndexOutOfBoundsException"), ("java/lang/IllegalArgumentException", "java/lang/IndexOutOfBoundsException"), ("java/lang/UnsupportedOperationException", "java/lang/IndexOutOfBoundsException"), ("java/lang/IllegalStateException", "java/lang/IllegalArgumentException"), ("java/lang/IndexOutOfBoundsException", "java/lang/IllegalArgumentException"), ("java/lang/UnsupportedOperationException", "java/lang/IllegalArgumentException"), ("java/lang/IllegalStateException", "java/lang/UnsupportedOperationException"), ("java/lang/IndexOutOfBoundsException", "java/lang/UnsupportedOperationException"), ("java/lang/IllegalArgumentException", "java/lang/UnsupportedOperationException")]
def aw_SR : List (String × Nat × String) := [("RoleAnalyser", 50, "there are 6 roles"), ("RoleAnalyser", 58, "there are 5 users"), ("RoleAnalyser", 197, "no such role"), ("RoleAnalyser", 70, "a role would stand above itself"), ("RoleAnalyser", 211, "a static limit would not be kept"), ("RoleAnalyser", 219, "no such permission"), ("RoleAnalyser", 94, "the number of a limit is below 2"), ("RoleAnalyser", 221, "a set of roles is not 0 .. 63"), ("RoleAnalyser", 112, "there are 4 limits of the kind"), ("RoleAnalyser", 125, "the limit is not kept"), ("RoleAnalyser", 209, "there are 8 rules"), ("RoleAnalyser", 200, "no such user"), ("RoleAnalyser", 217, "no rule allows it"), ("RoleAnalyser", 156, "4 sessions are open"), ("RoleAnalyser", 202, "no such session is open"), ("RoleAnalyser", 163, "the user is not authorized for the role"), ("RoleAnalyser", 170, "a dynamic limit would not be kept"), ("RoleAnalyser", 204, "there are more than 12 pairs"), ("RoleAnalyser", 185, "no steps lead there")]
def ct_ra : u_T := fun k => match k with
  | 0 => ("RoleAnalyser", "policy", "LRoleAnalyser$Policy;", true)
  | 1 => ("RoleAnalyser", "search", "LRoleAnalyser$Search;", true)
  | 2 => ("RoleAnalyser", "assigned", "[I", true)
  | 3 => ("RoleAnalyser", "granted", "[I", true)
  | 4 => ("RoleAnalyser", "sessionUser", "[I", true)
  | 5 => ("RoleAnalyser", "sessionActive", "[I", true)
  | _ => ("RoleAnalyser", "userCount", "I", false)
def cy_ra : Nat → FieldType := fun k => match k with
  | 0 => .object "RoleAnalyser$Policy"
  | 1 => .object "RoleAnalyser$Search"
  | 2 => .array .int
  | 3 => .array .int
  | 4 => .array .int
  | 5 => .array .int
  | _ => .int
def ct_po : u_T := fun k => match k with
  | 0 => ("RoleAnalyser$Policy", "roleCount", "I", false)
  | 1 => ("RoleAnalyser$Policy", "authorizedBy", "[I", true)
  | 2 => ("RoleAnalyser$Policy", "staticLimits", "Ljava/util/ArrayList;", true)
  | 3 => ("RoleAnalyser$Policy", "dynamicLimits", "Ljava/util/ArrayList;", true)
  | _ => ("RoleAnalyser$Policy", "rules", "Ljava/util/ArrayList;", true)
def cy_po : Nat → FieldType := fun k => match k with
  | 0 => .int
  | 1 => .array .int
  | 2 => .object "java/util/ArrayList"
  | 3 => .object "java/util/ArrayList"
  | _ => .object "java/util/ArrayList"
def ct_se : u_T := fun k => match k with
  | 0 => ("RoleAnalyser$Search", "policy", "LRoleAnalyser$Policy;", true)
  | 1 => ("RoleAnalyser$Search", "found", "[I", true)
  | 2 => ("RoleAnalyser$Search", "lastStep", "[I", true)
  | 3 => ("RoleAnalyser$Search", "foundCount", "I", false)
  | _ => ("RoleAnalyser$Search", "users", "I", false)
def cy_se : Nat → FieldType := fun k => match k with
  | 0 => .object "RoleAnalyser$Policy"
  | 1 => .array .int
  | 2 => .array .int
  | 3 => .int
  | _ => .int
def ct_li : u_T := fun k => match k with
  | 0 => ("RoleAnalyser$Limit", "set", "I", true)
  | _ => ("RoleAnalyser$Limit", "number", "I", true)
def cy_li : Nat → FieldType := fun k => match k with
  | 0 => .int
  | _ => .int
def ct_ru : u_T := fun k => match k with
  | 0 => ("RoleAnalyser$Rule", "gives", "Z", true)
  | 1 => ("RoleAnalyser$Rule", "administratorRole", "I", true)
  | 2 => ("RoleAnalyser$Rule", "needed", "I", true)
  | 3 => ("RoleAnalyser$Rule", "unwanted", "I", true)
  | _ => ("RoleAnalyser$Rule", "movedRole", "I", true)
def cy_ru : Nat → FieldType := fun k => match k with
  | 0 => .boolean
  | 1 => .int
  | 2 => .int
  | 3 => .int
  | _ => .int
def ct_mo : u_T := fun k => match k with
  | 0 => ("RoleAnalyserModel", "fault", "I", false)
  | 1 => ("RoleAnalyserModel", "roleCount", "I", false)
  | 2 => ("RoleAnalyserModel", "userCount", "I", false)
  | 3 => ("RoleAnalyserModel", "below", "[I", true)
  | 4 => ("RoleAnalyserModel", "granted", "[I", true)
  | 5 => ("RoleAnalyserModel", "trial", "[I", true)
  | 6 => ("RoleAnalyserModel", "assigned", "[I", true)
  | 7 => ("RoleAnalyserModel", "limits", "[I", true)
  | 8 => ("RoleAnalyserModel", "limitSet", "[I", true)
  | 9 => ("RoleAnalyserModel", "limitMany", "[I", true)
  | 10 => ("RoleAnalyserModel", "isOpen", "[Z", true)
  | 11 => ("RoleAnalyserModel", "owner", "[I", true)
  | 12 => ("RoleAnalyserModel", "activeIn", "[I", true)
  | 13 => ("RoleAnalyserModel", "rules", "I", false)
  | 14 => ("RoleAnalyserModel", "gives", "[Z", true)
  | 15 => ("RoleAnalyserModel", "admin", "[I", true)
  | 16 => ("RoleAnalyserModel", "needed", "[I", true)
  | 17 => ("RoleAnalyserModel", "unwanted", "[I", true)
  | 18 => ("RoleAnalyserModel", "about", "[I", true)
  | 19 => ("RoleAnalyserModel", "reached", "[I", true)
  | 20 => ("RoleAnalyserModel", "leads", "[Z", true)
  | 21 => ("RoleAnalyserModel", "queue", "[I", true)
  | 22 => ("RoleAnalyserModel", "queued", "I", false)
  | _ => ("RoleAnalyserModel", "nearest", "I", false)
def cy_mo : Nat → FieldType := fun k => match k with
  | 0 => .int
  | 1 => .int
  | 2 => .int
  | 3 => .array .int
  | 4 => .array .int
  | 5 => .array .int
  | 6 => .array .int
  | 7 => .array .int
  | 8 => .array .int
  | 9 => .array .int
  | 10 => .array .boolean
  | 11 => .array .int
  | 12 => .array .int
  | 13 => .int
  | 14 => .array .boolean
  | 15 => .array .int
  | 16 => .array .int
  | 17 => .array .int
  | 18 => .array .int
  | 19 => .array .int
  | 20 => .array .boolean
  | 21 => .array .int
  | 22 => .int
  | _ => .int
def ct_al : u_T := fun k => match k with
  | 0 => ("java/util/AbstractList", "modCount", "I", false)
  | 1 => ("java/util/ArrayList", "elementData", "[Ljava/lang/Object;", false)
  | _ => ("java/util/ArrayList", "size", "I", false)
def cy_al : Nat → FieldType := fun k => match k with
  | 0 => .int
  | 1 => .array (.object "java/lang/Object")
  | _ => .int
def am_cl : List vw_C := [("RoleAnalyser", ct_ra, 7), ("RoleAnalyser$Policy", ct_po, 5), ("RoleAnalyser$Search", ct_se, 5), ("RoleAnalyser$Limit", ct_li, 2), ("RoleAnalyser$Rule", ct_ru, 5), ("RoleAnalyserModel", ct_mo, 24), ("java/util/ArrayList", ct_al, 3), ("java/lang/IllegalStateException", fun _ => ("", "", "", false), 0), ("java/lang/IndexOutOfBoundsException", fun _ => ("", "", "", false), 0), ("java/lang/IllegalArgumentException", fun _ => ("", "", "", false), 0), ("java/lang/UnsupportedOperationException", fun _ => ("", "", "", false), 0)]
def am_ty (ci k : Nat) : FieldType := match ci with
  | 0 => cy_ra k
  | 1 => cy_po k
  | 2 => cy_se k
  | 3 => cy_li k
  | 4 => cy_ru k
  | 5 => cy_mo k
  | 6 => cy_al k
  | _ => .int
theorem ok_ra : (∀ w ∈ u_ws "RoleAnalyser" ct_ra 7, w ∈ aw_T) ∧ (∀ k, k < 7 → parseFieldDescriptor (ct_ra k).2.2.1 = some (cy_ra k)) ∧ (∀ a, a < 7 → ∀ b, b < 7 → a ≠ b → (ct_ra a).2.1 ≠ (ct_ra b).2.1) := by
  refine ⟨?_, by decide +kernel, by decide +kernel⟩
  show ∀ w ∈ [(Cond.laysFinal "RoleAnalyser" "RoleAnalyser" "policy" "LRoleAnalyser$Policy;"), (Cond.laysFinal "RoleAnalyser" "RoleAnalyser" "search" "LRoleAnalyser$Search;"), (Cond.laysFinal "RoleAnalyser" "RoleAnalyser" "assigned" "[I"), (Cond.laysFinal "RoleAnalyser" "RoleAnalyser" "granted" "[I"), (Cond.laysFinal "RoleAnalyser" "RoleAnalyser" "sessionUser" "[I"), (Cond.laysFinal "RoleAnalyser" "RoleAnalyser" "sessionActive" "[I"), (Cond.lays "RoleAnalyser" "RoleAnalyser" "userCount" "I")], w ∈ aw_T
  intro w hw
  simp only [List.mem_cons, List.not_mem_nil, or_false] at hw
  rcases hw with rfl | rfl | rfl | rfl | rfl | rfl | rfl
  · exact aw_m1 120 rfl rfl
  · exact aw_m1 122 rfl rfl
  · exact aw_m1 124 rfl rfl
  · exact aw_m1 126 rfl rfl
  · exact aw_m1 128 rfl rfl
  · exact aw_m1 130 rfl rfl
  · exact aw_m1 132 rfl rfl
theorem ok_po : (∀ w ∈ u_ws "RoleAnalyser$Policy" ct_po 5, w ∈ aw_T) ∧ (∀ k, k < 5 → parseFieldDescriptor (ct_po k).2.2.1 = some (cy_po k)) ∧ (∀ a, a < 5 → ∀ b, b < 5 → a ≠ b → (ct_po a).2.1 ≠ (ct_po b).2.1) := by
  refine ⟨?_, by decide +kernel, by decide +kernel⟩
  show ∀ w ∈ [(Cond.lays "RoleAnalyser$Policy" "RoleAnalyser$Policy" "roleCount" "I"), (Cond.laysFinal "RoleAnalyser$Policy" "RoleAnalyser$Policy" "authorizedBy" "[I"), (Cond.laysFinal "RoleAnalyser$Policy" "RoleAnalyser$Policy" "staticLimits" "Ljava/util/ArrayList;"), (Cond.laysFinal "RoleAnalyser$Policy" "RoleAnalyser$Policy" "dynamicLimits" "Ljava/util/ArrayList;"), (Cond.laysFinal "RoleAnalyser$Policy" "RoleAnalyser$Policy" "rules" "Ljava/util/ArrayList;")], w ∈ aw_T
  intro w hw
  simp only [List.mem_cons, List.not_mem_nil, or_false] at hw
  rcases hw with rfl | rfl | rfl | rfl | rfl
  · exact aw_m1 77 rfl rfl
  · exact aw_m1 79 rfl rfl
  · exact aw_m1 81 rfl rfl
  · exact aw_m1 83 rfl rfl
  · exact aw_m1 85 rfl rfl
theorem ok_se : (∀ w ∈ u_ws "RoleAnalyser$Search" ct_se 5, w ∈ aw_T) ∧ (∀ k, k < 5 → parseFieldDescriptor (ct_se k).2.2.1 = some (cy_se k)) ∧ (∀ a, a < 5 → ∀ b, b < 5 → a ≠ b → (ct_se a).2.1 ≠ (ct_se b).2.1) := by
  refine ⟨?_, by decide +kernel, by decide +kernel⟩
  show ∀ w ∈ [(Cond.laysFinal "RoleAnalyser$Search" "RoleAnalyser$Search" "policy" "LRoleAnalyser$Policy;"), (Cond.laysFinal "RoleAnalyser$Search" "RoleAnalyser$Search" "found" "[I"), (Cond.laysFinal "RoleAnalyser$Search" "RoleAnalyser$Search" "lastStep" "[I"), (Cond.lays "RoleAnalyser$Search" "RoleAnalyser$Search" "foundCount" "I"), (Cond.lays "RoleAnalyser$Search" "RoleAnalyser$Search" "users" "I")], w ∈ aw_T
  intro w hw
  simp only [List.mem_cons, List.not_mem_nil, or_false] at hw
  rcases hw with rfl | rfl | rfl | rfl | rfl
  · exact aw_m1 99 rfl rfl
  · exact aw_m1 101 rfl rfl
  · exact aw_m1 103 rfl rfl
  · exact aw_m1 105 rfl rfl
  · exact aw_m1 107 rfl rfl
theorem ok_li : (∀ w ∈ u_ws "RoleAnalyser$Limit" ct_li 2, w ∈ aw_T) ∧ (∀ k, k < 2 → parseFieldDescriptor (ct_li k).2.2.1 = some (cy_li k)) ∧ (∀ a, a < 2 → ∀ b, b < 2 → a ≠ b → (ct_li a).2.1 ≠ (ct_li b).2.1) := by
  refine ⟨?_, by decide +kernel, by decide +kernel⟩
  show ∀ w ∈ [(Cond.laysFinal "RoleAnalyser$Limit" "RoleAnalyser$Limit" "set" "I"), (Cond.laysFinal "RoleAnalyser$Limit" "RoleAnalyser$Limit" "number" "I")], w ∈ aw_T
  intro w hw
  simp only [List.mem_cons, List.not_mem_nil, or_false] at hw
  rcases hw with rfl | rfl
  · exact aw_m2 114 rfl rfl
  · exact aw_m2 116 rfl rfl
theorem ok_ru : (∀ w ∈ u_ws "RoleAnalyser$Rule" ct_ru 5, w ∈ aw_T) ∧ (∀ k, k < 5 → parseFieldDescriptor (ct_ru k).2.2.1 = some (cy_ru k)) ∧ (∀ a, a < 5 → ∀ b, b < 5 → a ≠ b → (ct_ru a).2.1 ≠ (ct_ru b).2.1) := by
  refine ⟨?_, by decide +kernel, by decide +kernel⟩
  show ∀ w ∈ [(Cond.laysFinal "RoleAnalyser$Rule" "RoleAnalyser$Rule" "gives" "Z"), (Cond.laysFinal "RoleAnalyser$Rule" "RoleAnalyser$Rule" "administratorRole" "I"), (Cond.laysFinal "RoleAnalyser$Rule" "RoleAnalyser$Rule" "needed" "I"), (Cond.laysFinal "RoleAnalyser$Rule" "RoleAnalyser$Rule" "unwanted" "I"), (Cond.laysFinal "RoleAnalyser$Rule" "RoleAnalyser$Rule" "movedRole" "I")], w ∈ aw_T
  intro w hw
  simp only [List.mem_cons, List.not_mem_nil, or_false] at hw
  rcases hw with rfl | rfl | rfl | rfl | rfl
  · exact aw_m2 209 rfl rfl
  · exact aw_m2 211 rfl rfl
  · exact aw_m2 213 rfl rfl
  · exact aw_m2 215 rfl rfl
  · exact aw_m2 217 rfl rfl
theorem ok_mo : (∀ w ∈ u_ws "RoleAnalyserModel" ct_mo 24, w ∈ aw_T) ∧ (∀ k, k < 24 → parseFieldDescriptor (ct_mo k).2.2.1 = some (cy_mo k)) ∧ (∀ a, a < 24 → ∀ b, b < 24 → a ≠ b → (ct_mo a).2.1 ≠ (ct_mo b).2.1) := by
  refine ⟨?_, by decide +kernel, by decide +kernel⟩
  show ∀ w ∈ [(Cond.lays "RoleAnalyserModel" "RoleAnalyserModel" "fault" "I"), (Cond.lays "RoleAnalyserModel" "RoleAnalyserModel" "roleCount" "I"), (Cond.lays "RoleAnalyserModel" "RoleAnalyserModel" "userCount" "I"), (Cond.laysFinal "RoleAnalyserModel" "RoleAnalyserModel" "below" "[I"), (Cond.laysFinal "RoleAnalyserModel" "RoleAnalyserModel" "granted" "[I"), (Cond.laysFinal "RoleAnalyserModel" "RoleAnalyserModel" "trial" "[I"), (Cond.laysFinal "RoleAnalyserModel" "RoleAnalyserModel" "assigned" "[I"), (Cond.laysFinal "RoleAnalyserModel" "RoleAnalyserModel" "limits" "[I"), (Cond.laysFinal "RoleAnalyserModel" "RoleAnalyserModel" "limitSet" "[I"), (Cond.laysFinal "RoleAnalyserModel" "RoleAnalyserModel" "limitMany" "[I"), (Cond.laysFinal "RoleAnalyserModel" "RoleAnalyserModel" "isOpen" "[Z"), (Cond.laysFinal "RoleAnalyserModel" "RoleAnalyserModel" "owner" "[I"), (Cond.laysFinal "RoleAnalyserModel" "RoleAnalyserModel" "activeIn" "[I"), (Cond.lays "RoleAnalyserModel" "RoleAnalyserModel" "rules" "I"), (Cond.laysFinal "RoleAnalyserModel" "RoleAnalyserModel" "gives" "[Z"), (Cond.laysFinal "RoleAnalyserModel" "RoleAnalyserModel" "admin" "[I"), (Cond.laysFinal "RoleAnalyserModel" "RoleAnalyserModel" "needed" "[I"), (Cond.laysFinal "RoleAnalyserModel" "RoleAnalyserModel" "unwanted" "[I"), (Cond.laysFinal "RoleAnalyserModel" "RoleAnalyserModel" "about" "[I"), (Cond.laysFinal "RoleAnalyserModel" "RoleAnalyserModel" "reached" "[I"), (Cond.laysFinal "RoleAnalyserModel" "RoleAnalyserModel" "leads" "[Z"), (Cond.laysFinal "RoleAnalyserModel" "RoleAnalyserModel" "queue" "[I"), (Cond.lays "RoleAnalyserModel" "RoleAnalyserModel" "queued" "I"), (Cond.lays "RoleAnalyserModel" "RoleAnalyserModel" "nearest" "I")], w ∈ aw_T
  intro w hw
  simp only [List.mem_cons, List.not_mem_nil, or_false] at hw
  rcases hw with rfl | rfl | rfl | rfl | rfl | rfl | rfl | rfl | rfl | rfl | rfl | rfl | rfl | rfl | rfl | rfl | rfl | rfl | rfl | rfl | rfl | rfl | rfl | rfl
  · exact aw_m3 230 rfl rfl
  · exact aw_m3 232 rfl rfl
  · exact aw_m3 234 rfl rfl
  · exact aw_m3 236 rfl rfl
  · exact aw_m3 238 rfl rfl
  · exact aw_m4 0 rfl rfl
  · exact aw_m4 2 rfl rfl
  · exact aw_m4 4 rfl rfl
  · exact aw_m4 6 rfl rfl
  · exact aw_m4 8 rfl rfl
  · exact aw_m4 10 rfl rfl
  · exact aw_m4 12 rfl rfl
  · exact aw_m4 14 rfl rfl
  · exact aw_m4 16 rfl rfl
  · exact aw_m4 18 rfl rfl
  · exact aw_m4 20 rfl rfl
  · exact aw_m4 22 rfl rfl
  · exact aw_m4 24 rfl rfl
  · exact aw_m4 26 rfl rfl
  · exact aw_m4 28 rfl rfl
  · exact aw_m4 30 rfl rfl
  · exact aw_m4 32 rfl rfl
  · exact aw_m4 34 rfl rfl
  · exact aw_m4 36 rfl rfl
theorem ok_al : (∀ w ∈ u_ws "java/util/ArrayList" ct_al 3, w ∈ aw_T) ∧ (∀ k, k < 3 → parseFieldDescriptor (ct_al k).2.2.1 = some (cy_al k)) ∧ (∀ a, a < 3 → ∀ b, b < 3 → a ≠ b → (ct_al a).2.1 ≠ (ct_al b).2.1) := by
  refine ⟨?_, by decide +kernel, by decide +kernel⟩
  show ∀ w ∈ [(Cond.lays "java/util/ArrayList" "java/util/AbstractList" "modCount" "I"), (Cond.lays "java/util/ArrayList" "java/util/ArrayList" "elementData" "[Ljava/lang/Object;"), (Cond.lays "java/util/ArrayList" "java/util/ArrayList" "size" "I")], w ∈ aw_T
  intro w hw
  simp only [List.mem_cons, List.not_mem_nil, or_false] at hw
  rcases hw with rfl | rfl | rfl
  · exact aw_m1 61 rfl rfl
  · exact aw_m1 57 rfl rfl
  · exact aw_m1 59 rfl rfl
theorem am_ok : ∀ (ci : Nat) (r : vw_C), am_cl[ci]? = some r → (∀ w ∈ u_ws r.1 r.2.1 r.2.2, w ∈ aw_T) ∧ (∀ k, k < r.2.2 → parseFieldDescriptor (r.2.1 k).2.2.1 = some (am_ty ci k)) ∧ (∀ a, a < r.2.2 → ∀ b, b < r.2.2 → a ≠ b → (r.2.1 a).2.1 ≠ (r.2.1 b).2.1)
  | 0, _, h => by cases h; exact ok_ra
  | 1, _, h => by cases h; exact ok_po
  | 2, _, h => by cases h; exact ok_se
  | 3, _, h => by cases h; exact ok_li
  | 4, _, h => by cases h; exact ok_ru
  | 5, _, h => by cases h; exact ok_mo
  | 6, _, h => by cases h; exact ok_al
  | 7, _, h => by cases h; exact ⟨fun w hw => absurd hw List.not_mem_nil, fun k hk => absurd hk (Nat.not_lt_zero k), fun a ha => absurd ha (Nat.not_lt_zero a)⟩
  | 8, _, h => by cases h; exact ⟨fun w hw => absurd hw List.not_mem_nil, fun k hk => absurd hk (Nat.not_lt_zero k), fun a ha => absurd ha (Nat.not_lt_zero a)⟩
  | 9, _, h => by cases h; exact ⟨fun w hw => absurd hw List.not_mem_nil, fun k hk => absurd hk (Nat.not_lt_zero k), fun a ha => absurd ha (Nat.not_lt_zero a)⟩
  | 10, _, h => by cases h; exact ⟨fun w hw => absurd hw List.not_mem_nil, fun k hk => absurd hk (Nat.not_lt_zero k), fun a ha => absurd ha (Nat.not_lt_zero a)⟩
  | n + 11, _, h => by cases h
end
section
/-! ===== the abstract heap: a list of cells, the k-th of them at the address G.1 + k; all that the run has made since its start ===== -/
abbrev ag_T : Type := Nat × va_G × (Nat → ClassId) × (Nat × Nat × (Nat → Int32)) × Nat
def ah_ws (G : ag_T) : Nat → List va_E → va_W
  | _, [] => []
  | k, e :: t => (G.1 + k, e) :: ah_ws G (k + 1) t
theorem ah_get (G : ag_T) : ∀ (h : List va_E) (k i : Nat), (ah_ws G k h)[i]? = (h[i]?).map (fun e => (G.1 + (k + i), e))
  | [], k, i => by simp [ah_ws]
  | e :: t, k, 0 => by simp [ah_ws]
  | e :: t, k, i + 1 => by
    have h1 := ah_get G t (k + 1) i
    rw [show k + 1 + i = k + (i + 1) by omega] at h1
    simpa [ah_ws] using h1
theorem ah_at {G : ag_T} {h : List va_E} {i : Nat} {e : va_E} (hi : h[i]? = some e) : (ah_ws G 0 h)[i]? = some (G.1 + i, e) := by
  rw [ah_get, hi]
  simp
theorem ah_len (G : ag_T) : ∀ (h : List va_E) (k : Nat), (ah_ws G k h).length = h.length
  | [], _ => rfl
  | _ :: t, k => by simp [ah_ws, ah_len G t (k + 1)]
theorem ah_set (G : ag_T) : ∀ (h : List va_E) (k i : Nat) (e : va_E), (ah_ws G k h).set i (G.1 + (k + i), e) = ah_ws G k (h.set i e)
  | [], _, _, _ => by simp [ah_ws]
  | a :: t, k, 0, e => by simp [ah_ws]
  | a :: t, k, i + 1, e => by
    have h1 := ah_set G t (k + 1) i e
    rw [show k + 1 + i = k + (i + 1) by omega] at h1
    simp [ah_ws, h1]
theorem ah_set0 (G : ag_T) (h : List va_E) (i : Nat) (e : va_E) : (ah_ws G 0 h).set i (G.1 + i, e) = ah_ws G 0 (h.set i e) := by
  have h1 := ah_set G h 0 i e
  rw [Nat.zero_add] at h1
  exact h1
theorem ah_app (G : ag_T) : ∀ (h : List va_E) (k : Nat) (e : va_E), ah_ws G k (h ++ [e]) = ah_ws G k h ++ [(G.1 + (k + h.length), e)]
  | [], k, e => by simp [ah_ws]
  | a :: t, k, e => by
    have h1 := ah_app G t (k + 1) e
    rw [show k + 1 + t.length = k + (t.length + 1) by omega] at h1
    simp [ah_ws, h1]
theorem ah_app0 (G : ag_T) (h : List va_E) (e : va_E) : ah_ws G 0 (h ++ [e]) = ah_ws G 0 h ++ [(G.1 + h.length, e)] := by
  have h1 := ah_app G h 0 e
  rw [Nat.zero_add] at h1
  exact h1
/-- what a method may change: what was made since the start -/
def aw_A (G : ag_T) : Nat → Prop := fun q => G.1 ≤ q
theorem ah_D (G : ag_T) (h : List va_E) : va_D (aw_A G) (ah_ws G 0 h) := by
  have key : ∀ (k : Nat) (q : Nat × va_E), (ah_ws G 0 h)[k]? = some q → q.1 = G.1 + k := by
    intro k q hk
    rw [ah_get] at hk
    cases he : h[k]? with
    | none => rw [he] at hk; cases hk
    | some e =>
      rw [he] at hk
      rw [← Option.some.inj hk]
      simp
  refine ⟨fun i j x y hi hj hxy => ?_, fun k q hk => ?_⟩
  · have h1 := key i x hi
    have h2 := key j y hj
    omega
  · rw [key k q hk]
    exact Nat.le_add_right _ _
/-- the heap H holds the list h -/
def ah_R (G : ag_T) (h : List va_E) (H : Heap) : Prop := va_P G.2.1 am_cl (ah_ws G 0 h) H ∧ H.size = G.1 + h.length
theorem ah_R.cell {G : ag_T} {h : List va_E} {H : Heap} (r : ah_R G h H) {i : Nat} {e : va_E} (hi : h[i]? = some e) : va_at G.2.1 am_cl (G.1 + i, e) H := r.1 i _ (ah_at hi)
theorem ah_R.set {G : ag_T} {h : List va_E} {H H1 : Heap} (r : ah_R G h H) {i : Nat} {e0 e : va_E} (hi : h[i]? = some e0) (hz : H1.size = H.size) (ho : ∀ q : Nat, q ≠ G.1 + i → H1[q]? = H[q]?) (he : va_at G.2.1 am_cl (G.1 + i, e) H1) : ah_R G (h.set i e) H1 := by
  refine ⟨?_, by rw [hz, r.2, List.length_set]⟩
  rw [← ah_set0]
  exact va_P.set r.1 (ah_D G h) (ah_at hi) he ho
theorem ah_R.push {G : ag_T} {h : List va_E} {H H1 : Heap} (r : ah_R G h H) {e : va_E} (hz : H1.size = H.size + 1) (ho : ∀ q : Nat, q < H.size → H1[q]? = H[q]?) (he : va_at G.2.1 am_cl (G.1 + h.length, e) H1) : ah_R G (h ++ [e]) H1 := by
  refine ⟨?_, by rw [hz, r.2, List.length_append]; rfl⟩
  rw [ah_app0]
  refine va_P.app (r.1.kept fun k q hk => ho _ (r.1 k q hk).lt) (fun k q hk => ?_)
  have hk1 : k < 1 := (List.getElem?_eq_some_iff.mp hk).1
  rw [show k = 0 by omega] at hk
  rw [← Option.some.inj hk]
  exact he
end
section
/-! ===== what stood before the run and stays: the script, the statics of Throwable and of ArrayList ===== -/
/-- a static field that holds null or a reference, its statics' cell in H -/
def ax_S (C n d : String) (A : Nat → Prop) (U : State) (H : Heap) : Prop :=
  ∃ (c : ClassId) (k : Class) (i : Nat) (f : Field) (a : Nat) (cell : Cell) (v : Value), U.vm.findClass C = some c ∧ U.fieldFound? C n d = some (c, k, i, f) ∧ f.isStatic = true ∧ k.statics = some a ∧ k.staticTypes[f.slot]? = some f.type ∧ H[a]? = some cell ∧ cell.vm.isStatics = true ∧ cell.cls = c ∧ f.slot < cell.slots.size ∧ cell.slots[f.slot]? = some v ∧ v.isRef = true ∧ ¬ A a
theorem ax_S.moved {C n d : String} {A : Nat → Prop} {u U : State} {H : Heap} (hvm : u.vm.Alike U.vm) (h : ax_S C n d A u H) : ax_S C n d A U H := by
  obtain ⟨c, k, i, f, a, cell, v, h1, h2, h3, h4, h5, h6⟩ := h
  obtain ⟨k', hi', he⟩ := State.fieldFound?_setVm hvm h2
  exact ⟨c, k', i, f, a, cell, v, by rw [hvm.findClass]; exact h1, hi', h3, by rw [he]; exact h4, by rw [he]; exact h5, h6⟩
theorem ax_S.kept {C n d : String} {A : Nat → Prop} {U : State} {H H1 : Heap} (h : ax_S C n d A U H) (hq : ∀ a : Nat, a < H.size → ¬ A a → H1[a]? = H[a]?) : ax_S C n d A U H1 := by
  obtain ⟨c, k, i, f, a, cell, v, h1, h2, h3, h4, h5, h6, h7, h8, h9, h10, h11, h12⟩ := h
  exact ⟨c, k, i, f, a, cell, v, h1, h2, h3, h4, h5, by rw [hq a (Array.getElem?_eq_some_iff.mp h6).1 h12]; exact h6, h7, h8, h9, h10, h11, h12⟩
theorem ax_S.lays {C n d : String} {A : Nat → Prop} {s : State} {args : Array Value} (h : ax_S C n d A s s.heap) : (Cond.laysStatic C n d).before args s = true := by
  obtain ⟨c, k, i, f, a, cell, v, h1, h2, h3, h4, h5, h6, h7, h8, h9, h10, h11, h12⟩ := h
  exact Cond.laysStatic_of h1 h2 h3 h4 h6 h7 h8 h9 h5
theorem ax_S.ref {C n d : String} {A : Nat → Prop} {s : State} {args : Array Value} (h : ax_S C n d A s s.heap) : (Cond.isRef (.static C n d)).before args s = true := by
  obtain ⟨c, k, i, f, a, cell, v, h1, h2, h3, h4, h5, h6, h7, h8, h9, h10, h11, h12⟩ := h
  have he : (Term.static C n d).eval args s none [] s = some v := by
    simp [Term.eval, State.fieldNamed?, h2, h3, h4, h6, h7, h10]
  simp only [Cond.before, Cond.holds, Cond.value, he]
  cases v <;> simp_all [Value.isRef]
theorem ax_S.of {C n d : String} {A : Nat → Prop} {s : State} {args : Array Value} (hl : (Cond.laysStatic C n d).before args s = true) (hr : (Cond.isRef (.static C n d)).before args s = true) (hA : ∀ a : Nat, a < s.heap.size → ¬ A a) : ax_S C n d A s s.heap := by
  obtain ⟨c, k, i, f, a, cell, h1, h2, h3, h4, h6, h7, h8, h9, h5⟩ := Cond.laysStatic_spec hl
  obtain ⟨v, hv⟩ : ∃ v, cell.slots[f.slot]? = some v := ⟨_, Array.getElem?_eq_getElem h9⟩
  have he : (Term.static C n d).eval args s none [] s = some v := by
    simp [Term.eval, State.fieldNamed?, h2, h3, h4, h6, h7, hv]
  refine ⟨c, k, i, f, a, cell, v, h1, h2, h3, h4, h5, h6, h7, h8, h9, hv, ?_, hA a (Array.getElem?_eq_some_iff.mp h6).1⟩
  simp only [Cond.before, Cond.holds, Cond.value, he] at hr
  cases v <;> simp_all [Value.isRef]
/-- an empty array of references that stood before -/
def ax_E (e0 : Nat) (A : Nat → Prop) (U : State) (H : Heap) : Prop := ∃ (cell : Cell) (ty : FieldType), H[e0]? = some cell ∧ U.isArrayOf cell ty ∧ cell.slots.size = 0 ∧ ¬ A e0
def aw_O (G : ag_T) (U : State) (H : Heap) : Prop :=
  va_X G.2.2.2.1.1 G.2.2.2.1.2.1 G.2.2.2.1.2.2 U H ∧ G.2.2.2.1.1 < G.1 ∧ ax_S Bundle.tN "UNASSIGNED_STACK" Bundle.steD (aw_A G) U H ∧ ax_S Bundle.tN "SUPPRESSED_SENTINEL" Bundle.listD (aw_A G) U H ∧
    va_Z "java/util/ArrayList" "DEFAULTCAPACITY_EMPTY_ELEMENTDATA" "[Ljava/lang/Object;" (.ref G.2.2.2.2) (aw_A G) U H ∧ ax_E G.2.2.2.2 (aw_A G) U H
theorem aw_O.moved {G : ag_T} {u U : State} {H : Heap} (hW : u.WarmedH U.vm) (h : aw_O G u H) : aw_O G U H := by
  obtain ⟨h1, h2, h3, h4, h5, cell, ty, e1, e2, e3⟩ := h
  exact ⟨h1.moved hW.alike, h2, h3.moved hW.alike, h4.moved hW.alike, h5.moved hW.alike, cell, ty, e1, State.isArrayOf_alike hW.alike e2, e3⟩
theorem aw_O.kept {G : ag_T} {U : State} {H H1 : Heap} (h : aw_O G U H) (hq : ∀ a : Nat, a < H.size → ¬ aw_A G a → H1[a]? = H[a]?) : aw_O G U H1 := by
  obtain ⟨h1, h2, h3, h4, h5, cell, ty, e1, e2, e3, e4⟩ := h
  obtain ⟨scr, g1, g2⟩ := id h1
  exact ⟨h1.kept (hq _ (Array.getElem?_eq_some_iff.mp g1).1 (Nat.not_le.mpr h2)), h2, h3.kept hq, h4.kept hq, h5.kept hq, cell, ty, by rw [hq _ (Array.getElem?_eq_some_iff.mp e1).1 e4]; exact e1, e2, e3, e4⟩
end
section
/-! ===== the abstract walk: aw_w says of a method's frame at pc, with known locals lv, stack st, over the abstract heap h, that it comes to the method's end with Q ===== -/
abbrev am_M : Type := String × MethodName × ByteArray × Nat × Option FieldType × List (Nat × Nat × Nat × Nat)
abbrev aq_T : Type := (Option Value ⊕ Nat) → List va_E → Prop
def ag_ty (G : ag_T) : List (ClassId × FieldType) := [(G.2.2.1 0, .int), (G.2.2.1 1, .boolean), (G.2.2.1 2, .long), (G.2.2.1 3, .object "java/lang/Object")]
def aw_rm (fr lo kc ks : Nat) : Room := { frames := fr, cells := kc, slots := ks, locals := lo }
/-- the tables as the walk needs them -/
def aw_K (G : ag_T) (U : State) : Prop := va_K G.2.1 am_cl (ag_ty G) U ∧ (∀ w ∈ aw_N, va_Nw w U) ∧ (∀ q ∈ aw_NC, va_Nc q.1 q.2 U) ∧ ∀ q ∈ aw_SR, ∃ a, vk_R q.1 q.2.1 q.2.2 a U
theorem aw_K.moved {G : ag_T} {u U : State} (hW : u.WarmedH U.vm) (h : aw_K G u) : aw_K G U :=
  ⟨va_K.moved hW.alike h.1, fun w hw => aw_Nwarm w hw hW (h.2.1 w hw), fun q hq => (h.2.2.1 q hq).moved hW.alike, fun q hq => by obtain ⟨a, ha⟩ := h.2.2.2 q hq; exact ⟨a, vk_R.warm hW ha⟩⟩
/-- what stands around a method's frame -/
def aw_C (G : ag_T) (M : am_M) (fr lo : Nat) (p : Program) (l : Launch) (R : Room) (s : State) (m : MethodId) (args : Array Value) (meth : Method) (c : Code) : Prop :=
  p.tables.exec = Jvm.exec ∧ c.code = M.2.2.1 ∧ c.maxLocals = M.2.2.2.1 ∧ s.vm.findClass M.1 = some m.cls ∧ (∀ w ∈ aw_T, w.before args s = true) ∧ meth.sig.returnType = M.2.2.2.2.1 ∧ c.exceptionTable.toList = tableOf M.2.2.2.2.2 ∧ meth.locks = false ∧ meth.name = M.2.1.name ∧ l.stackTraces = false ∧ aw_K G s ∧ fr ≤ R.frames ∧ lo ≤ R.locals
/-- how a method ends: with a value, or with an exception of the class numbered ci -/
def aw_E (G : ag_T) (Q : aq_T) (mc ms : Nat) (s : State) (o : Outcome) (t : State) : Prop :=
  ∃ (h' : List va_E) (L : List Loc), ah_R G h' t.heap ∧ s.WarmedH t.vm ∧ s.sameButNew ({ t with vm := s.vm } : State) L mc ms ∧ va_S (aw_A G) s.heap t.heap L ∧
    ((∃ v, o = .returned v ∧ Q (.inl v) h') ∨ ∃ (k ci : Nat), o = .threw (G.1 + k) ∧ h'[k]? = some (.inr (ci, [])) ∧ Q (.inr ci) h')
def aw_Z (G : ag_T) (Q : aq_T) (below : List Frame) (mc ms : Nat) (s : State) : State → Prop := fun t => ∃ o, t.status = .running ∧ Ended t below o ∧ aw_E G Q mc ms s o t
def aw_w (G : ag_T) (M : am_M) (fr lo kc ks pc : Nat) (lv : List (Nat × Value)) (st : List Value) (h : List va_E) (Q : aq_T) : Prop :=
  ∀ (p : Program) (l : Launch) (e : Env) (R : Room) (s : State) (m : MethodId) (args : Array Value) (below : List Frame) (meth : Method) (c : Code) (H : Heap) (locs : List Loc) (cells slots mc ms : Nat) (ls : Array Slot),
    aw_C G M fr lo p l R s m args meth c → lv_has ls M.2.2.2.1 lv → ah_R G h H → aw_O G s s.heap → va_S (aw_A G) s.heap H locs → G.1 ≤ s.heap.size → cells + kc ≤ mc → slots + ks ≤ ms → mc ≤ R.cells → ms ≤ R.slots →
    W p l e R s m args below meth c H locs cells slots (aw_Z G Q below mc ms s) (F0 m pc ls st)
section AWP
variable {G : ag_T} {M : am_M} {fr lo kc ks pc : Nat} {lv : List (Nat × Value)} {st : List Value} {h : List va_E} {Q : aq_T}
theorem aw_step {pc' : Nat} {st' : List Value} (hs : ∀ (p : Program) (l : Launch) (e : Env) (R : Room) (s : State) (m : MethodId) (args : Array Value) (below : List Frame) (meth : Method) (c : Code) (H : Heap) (locs : List Loc) (cells slots : Nat) (Z : State → Prop) (ls : Array Slot), p.tables.exec = Jvm.exec → c.code = M.2.2.1 → lv_has ls M.2.2.2.1 lv →
      W p l e R s m args below meth c H locs cells slots Z (F0 m pc' ls st') → W p l e R s m args below meth c H locs cells slots Z (F0 m pc ls st)) (k : aw_w G M fr lo kc ks pc' lv st' h Q) : aw_w G M fr lo kc ks pc lv st h Q := by
  intro p l e R s m args below meth c H locs cells slots mc ms ls C hl hR hO hS hG h1 h2 h3 h4
  exact hs p l e R s m args below meth c H locs cells slots _ ls C.1 C.2.1 hl (k p l e R s m args below meth c H locs cells slots mc ms ls C hl hR hO hS hG h1 h2 h3 h4)
theorem aw_stepS {pc' : Nat} {lv' : List (Nat × Value)} {st' : List Value} (hs : ∀ (p : Program) (l : Launch) (e : Env) (R : Room) (s : State) (m : MethodId) (args : Array Value) (below : List Frame) (meth : Method) (c : Code) (H : Heap) (locs : List Loc) (cells slots : Nat) (Z : State → Prop) (ls : Array Slot), p.tables.exec = Jvm.exec → c.code = M.2.2.1 → lv_has ls M.2.2.2.1 lv →
      (∀ ls' : Array Slot, lv_has ls' M.2.2.2.1 lv' → W p l e R s m args below meth c H locs cells slots Z (F0 m pc' ls' st')) → W p l e R s m args below meth c H locs cells slots Z (F0 m pc ls st)) (k : aw_w G M fr lo kc ks pc' lv' st' h Q) : aw_w G M fr lo kc ks pc lv st h Q := by
  intro p l e R s m args below meth c H locs cells slots mc ms ls C hl hR hO hS hG h1 h2 h3 h4
  exact hs p l e R s m args below meth c H locs cells slots _ ls C.1 C.2.1 hl fun ls' hl' => k p l e R s m args below meth c H locs cells slots mc ms ls' C hl' hR hO hS hG h1 h2 h3 h4
theorem aw_stepB {P : Prop} {pc1 pc2 : Nat} {st' : List Value} (hs : ∀ (p : Program) (l : Launch) (e : Env) (R : Room) (s : State) (m : MethodId) (args : Array Value) (below : List Frame) (meth : Method) (c : Code) (H : Heap) (locs : List Loc) (cells slots : Nat) (Z : State → Prop) (ls : Array Slot), p.tables.exec = Jvm.exec → c.code = M.2.2.1 →
      (P → W p l e R s m args below meth c H locs cells slots Z (F0 m pc1 ls st')) → (¬ P → W p l e R s m args below meth c H locs cells slots Z (F0 m pc2 ls st')) → W p l e R s m args below meth c H locs cells slots Z (F0 m pc ls st))
    (k1 : P → aw_w G M fr lo kc ks pc1 lv st' h Q) (k2 : ¬ P → aw_w G M fr lo kc ks pc2 lv st' h Q) : aw_w G M fr lo kc ks pc lv st h Q := by
  intro p l e R s m args below meth c H locs cells slots mc ms ls C hl hR hO hS hG h1 h2 h3 h4
  exact hs p l e R s m args below meth c H locs cells slots _ ls C.1 C.2.1 (fun z => k1 z p l e R s m args below meth c H locs cells slots mc ms ls C hl hR hO hS hG h1 h2 h3 h4) (fun z => k2 z p l e R s m args below meth c H locs cells slots mc ms ls C hl hR hO hS hG h1 h2 h3 h4)
/-- fewer locals known -/
theorem aw_lv (ks' : List Nat) {lv' : List (Nat × Value)} (hk : lv_pick lv ks' = lv') (k : aw_w G M fr lo kc ks pc lv' st h Q) : aw_w G M fr lo kc ks pc lv st h Q := by
  intro p l e R s m args below meth c H locs cells slots mc ms ls C hl hR hO hS hG h1 h2 h3 h4
  exact k p l e R s m args below meth c H locs cells slots mc ms ls C (lv_sub hl ks' hk) hR hO hS hG h1 h2 h3 h4
/-- another end that follows -/
theorem aw_mono {Q' : aq_T} (hq : ∀ o h', Q' o h' → Q o h') (k : aw_w G M fr lo kc ks pc lv st h Q') : aw_w G M fr lo kc ks pc lv st h Q := by
  intro p l e R s m args below meth c H locs cells slots mc ms ls C hl hR hO hS hG h1 h2 h3 h4 T hT X
  obtain ⟨t, a1, o, b1, b2, h', L, c1, c2, c3, c4, c5⟩ := k p l e R s m args below meth c H locs cells slots mc ms ls C hl hR hO hS hG h1 h2 h3 h4 T hT X
  refine ⟨t, a1, o, b1, b2, h', L, c1, c2, c3, c4, ?_⟩
  rcases c5 with ⟨v, e1, e2⟩ | ⟨k9, ci, e1, e2, e3⟩
  · exact Or.inl ⟨v, e1, hq _ _ e2⟩
  · exact Or.inr ⟨k9, ci, e1, e2, hq _ _ e3⟩
/-- more room than needed -/
theorem aw_room {fr' lo' kc' ks' : Nat} (hf9 : fr' ≤ fr) (hl9 : lo' ≤ lo) (hc : kc' ≤ kc) (hs : ks' ≤ ks) (k : aw_w G M fr' lo' kc' ks' pc lv st h Q) : aw_w G M fr lo kc ks pc lv st h Q := by
  intro p l e R s m args below meth c H locs cells slots mc ms ls C hl hR hO hS hG h1 h2 h3 h4
  obtain ⟨x1, x2, x3, x4, x5, x6, x7, x8, x9, x10, x11, x12, x13⟩ := C
  exact k p l e R s m args below meth c H locs cells slots mc ms ls ⟨x1, x2, x3, x4, x5, x6, x7, x8, x9, x10, x11, Nat.le_trans hf9 x12, Nat.le_trans hl9 x13⟩ hl hR hO hS hG (by omega) (by omega) h3 h4
theorem aw_iconst {n : Int} {v : Int32} (hd : decode M.2.2.1 pc = .ok (.iconst n, 1)) (hv : Int32.ofInt n = v) (k : aw_w G M fr lo kc ks (pc + 1) lv (.int v :: st) h Q) : aw_w G M fr lo kc ks pc lv (st) h Q := aw_step (fun p l e R s m args below meth c H locs cells slots Z ls hx hb hl w => lv_iconst hx hb hd hv w) k
theorem aw_bipush {n : Int} {v : Int32} (hd : decode M.2.2.1 pc = .ok (.bipush n, 2)) (hv : (Int8.ofInt n).toInt32 = v) (k : aw_w G M fr lo kc ks (pc + 2) lv (.int v :: st) h Q) : aw_w G M fr lo kc ks pc lv (st) h Q := aw_step (fun p l e R s m args below meth c H locs cells slots Z ls hx hb hl w => lv_bipush hx hb hd hv w) k
theorem aw_sipush {n : Int} {v : Int32} (hd : decode M.2.2.1 pc = .ok (.sipush n, 3)) (hv : (Int16.ofInt n).toInt32 = v) (k : aw_w G M fr lo kc ks (pc + 3) lv (.int v :: st) h Q) : aw_w G M fr lo kc ks pc lv (st) h Q := aw_step (fun p l e R s m args below meth c H locs cells slots Z ls hx hb hl w => lv_sipush hx hb hd hv w) k
theorem aw_lconst {n : Fin 2} {v : Int64} (hd : decode M.2.2.1 pc = .ok (.lconst n, 1)) (hv : Int64.ofNat (n : Nat) = v) (k : aw_w G M fr lo kc ks (pc + 1) lv (.long v :: st) h Q) : aw_w G M fr lo kc ks pc lv (st) h Q := aw_step (fun p l e R s m args below meth c H locs cells slots Z ls hx hb hl w => lv_lconst hx hb hd hv w) k
theorem aw_null (hd : decode M.2.2.1 pc = .ok (.aconst_null, 1)) (k : aw_w G M fr lo kc ks (pc + 1) lv (.null :: st) h Q) : aw_w G M fr lo kc ks pc lv (st) h Q := aw_step (fun p l e R s m args below meth c H locs cells slots Z ls hx hb hl w => lv_null hx hb hd w) k
theorem aw_iload_n {n : Fin 4} {i : Nat} {x : Int32} (hd : decode M.2.2.1 pc = .ok (.iload_n n, 1)) (hi : (n : Nat) = i) (j : Nat) (hj : lv[j]? = some (i, .int x)) (k : aw_w G M fr lo kc ks (pc + 1) lv (.int x :: st) h Q) : aw_w G M fr lo kc ks pc lv (st) h Q := aw_step (fun p l e R s m args below meth c H locs cells slots Z ls hx hb hl w => lv_iload_n hx hb hd hi (lv_at hl j hj) w) k
theorem aw_iload {i : Nat} {x : Int32} (hd : decode M.2.2.1 pc = .ok (.iload i, 2)) (j : Nat) (hj : lv[j]? = some (i, .int x)) (k : aw_w G M fr lo kc ks (pc + 2) lv (.int x :: st) h Q) : aw_w G M fr lo kc ks pc lv (st) h Q := aw_step (fun p l e R s m args below meth c H locs cells slots Z ls hx hb hl w => lv_iload hx hb hd (lv_at hl j hj) w) k
theorem aw_lload_n {n : Fin 4} {i : Nat} {x : Int64} (hd : decode M.2.2.1 pc = .ok (.lload_n n, 1)) (hi : (n : Nat) = i) (j : Nat) (hj : lv[j]? = some (i, .long x)) (k : aw_w G M fr lo kc ks (pc + 1) lv (.long x :: st) h Q) : aw_w G M fr lo kc ks pc lv (st) h Q := aw_step (fun p l e R s m args below meth c H locs cells slots Z ls hx hb hl w => lv_lload_n hx hb hd hi (lv_at hl j hj) w) k
theorem aw_lload {i : Nat} {x : Int64} (hd : decode M.2.2.1 pc = .ok (.lload i, 2)) (j : Nat) (hj : lv[j]? = some (i, .long x)) (k : aw_w G M fr lo kc ks (pc + 2) lv (.long x :: st) h Q) : aw_w G M fr lo kc ks pc lv (st) h Q := aw_step (fun p l e R s m args below meth c H locs cells slots Z ls hx hb hl w => lv_lload hx hb hd (lv_at hl j hj) w) k
theorem aw_aload_n {n : Fin 4} {i : Nat} {x : Nat} (hd : decode M.2.2.1 pc = .ok (.aload_n n, 1)) (hi : (n : Nat) = i) (j : Nat) (hj : lv[j]? = some (i, .ref x)) (k : aw_w G M fr lo kc ks (pc + 1) lv (.ref x :: st) h Q) : aw_w G M fr lo kc ks pc lv (st) h Q := aw_step (fun p l e R s m args below meth c H locs cells slots Z ls hx hb hl w => lv_aload_n hx hb hd hi (lv_at hl j hj) w) k
theorem aw_aload {i : Nat} {x : Nat} (hd : decode M.2.2.1 pc = .ok (.aload i, 2)) (j : Nat) (hj : lv[j]? = some (i, .ref x)) (k : aw_w G M fr lo kc ks (pc + 2) lv (.ref x :: st) h Q) : aw_w G M fr lo kc ks pc lv (st) h Q := aw_step (fun p l e R s m args below meth c H locs cells slots Z ls hx hb hl w => lv_aload hx hb hd (lv_at hl j hj) w) k
theorem aw_istore_n {n : Fin 4} {i : Nat} {x : Int32} {lv' : List (Nat × Value)} (hd : decode M.2.2.1 pc = .ok (.istore_n n, 1)) (hi : (n : Nat) = i) (hn : i < M.2.2.2.1) (hl9 : (i, Value.int x) :: lv.filter (fun q => !(q.1 == i) && !(q.1 + 1 == i && q.2.category == 2)) = lv') (k : aw_w G M fr lo kc ks (pc + 1) lv' st h Q) : aw_w G M fr lo kc ks pc lv (.int x :: st) h Q := aw_stepS (fun p l e R s m args below meth c H locs cells slots Z ls hx hb hl w => lv_istore_n hx hb hd hi hl hn hl9 w) k
theorem aw_istore {i : Nat} {x : Int32} {lv' : List (Nat × Value)} (hd : decode M.2.2.1 pc = .ok (.istore i, 2)) (hn : i < M.2.2.2.1) (hl9 : (i, Value.int x) :: lv.filter (fun q => !(q.1 == i) && !(q.1 + 1 == i && q.2.category == 2)) = lv') (k : aw_w G M fr lo kc ks (pc + 2) lv' st h Q) : aw_w G M fr lo kc ks pc lv (.int x :: st) h Q := aw_stepS (fun p l e R s m args below meth c H locs cells slots Z ls hx hb hl w => lv_istore hx hb hd hl hn hl9 w) k
theorem aw_astore_n {n : Fin 4} {i : Nat} {x : Nat} {lv' : List (Nat × Value)} (hd : decode M.2.2.1 pc = .ok (.astore_n n, 1)) (hi : (n : Nat) = i) (hn : i < M.2.2.2.1) (hl9 : (i, Value.ref x) :: lv.filter (fun q => !(q.1 == i) && !(q.1 + 1 == i && q.2.category == 2)) = lv') (k : aw_w G M fr lo kc ks (pc + 1) lv' st h Q) : aw_w G M fr lo kc ks pc lv (.ref x :: st) h Q := aw_stepS (fun p l e R s m args below meth c H locs cells slots Z ls hx hb hl w => lv_astore_n hx hb hd hi hl hn hl9 w) k
theorem aw_astore {i : Nat} {x : Nat} {lv' : List (Nat × Value)} (hd : decode M.2.2.1 pc = .ok (.astore i, 2)) (hn : i < M.2.2.2.1) (hl9 : (i, Value.ref x) :: lv.filter (fun q => !(q.1 == i) && !(q.1 + 1 == i && q.2.category == 2)) = lv') (k : aw_w G M fr lo kc ks (pc + 2) lv' st h Q) : aw_w G M fr lo kc ks pc lv (.ref x :: st) h Q := aw_stepS (fun p l e R s m args below meth c H locs cells slots Z ls hx hb hl w => lv_astore hx hb hd hl hn hl9 w) k
theorem aw_iinc {i : Nat} {n : Int} {x v : Int32} {lv' : List (Nat × Value)} (hd : decode M.2.2.1 pc = .ok (.iinc i n, 3)) (j : Nat) (hj : lv[j]? = some (i, .int x)) (hv : x + Int32.ofInt n = v) (hn : i < M.2.2.2.1) (hl9 : (i, Value.int v) :: lv.filter (fun q => !(q.1 == i) && !(q.1 + 1 == i && q.2.category == 2)) = lv') (k : aw_w G M fr lo kc ks (pc + 3) lv' st h Q) : aw_w G M fr lo kc ks pc lv st h Q := aw_stepS (fun p l e R s m args below meth c H locs cells slots Z ls hx hb hl w => lv_iinc hx hb hd hl hj hv hn hl9 w) k
theorem aw_iadd {x y : Int32} (hd : decode M.2.2.1 pc = .ok (.iadd, 1)) (k : aw_w G M fr lo kc ks (pc + 1) lv (.int (x + y) :: st) h Q) : aw_w G M fr lo kc ks pc lv (.int y :: .int x :: st) h Q := aw_step (fun p l e R s m args below meth c H locs cells slots Z ls hx hb hl w => lv_iadd hx hb hd w) k
theorem aw_isub {x y : Int32} (hd : decode M.2.2.1 pc = .ok (.isub, 1)) (k : aw_w G M fr lo kc ks (pc + 1) lv (.int (x - y) :: st) h Q) : aw_w G M fr lo kc ks pc lv (.int y :: .int x :: st) h Q := aw_step (fun p l e R s m args below meth c H locs cells slots Z ls hx hb hl w => lv_isub hx hb hd w) k
theorem aw_imul {x y : Int32} (hd : decode M.2.2.1 pc = .ok (.imul, 1)) (k : aw_w G M fr lo kc ks (pc + 1) lv (.int (x * y) :: st) h Q) : aw_w G M fr lo kc ks pc lv (.int y :: .int x :: st) h Q := aw_step (fun p l e R s m args below meth c H locs cells slots Z ls hx hb hl w => lv_imul hx hb hd w) k
theorem aw_iand {x y : Int32} (hd : decode M.2.2.1 pc = .ok (.iand, 1)) (k : aw_w G M fr lo kc ks (pc + 1) lv (.int (x &&& y) :: st) h Q) : aw_w G M fr lo kc ks pc lv (.int y :: .int x :: st) h Q := aw_step (fun p l e R s m args below meth c H locs cells slots Z ls hx hb hl w => lv_iand hx hb hd w) k
theorem aw_ior {x y : Int32} (hd : decode M.2.2.1 pc = .ok (.ior, 1)) (k : aw_w G M fr lo kc ks (pc + 1) lv (.int (x ||| y) :: st) h Q) : aw_w G M fr lo kc ks pc lv (.int y :: .int x :: st) h Q := aw_step (fun p l e R s m args below meth c H locs cells slots Z ls hx hb hl w => lv_ior hx hb hd w) k
theorem aw_ixor {x y : Int32} (hd : decode M.2.2.1 pc = .ok (.ixor, 1)) (k : aw_w G M fr lo kc ks (pc + 1) lv (.int (x ^^^ y) :: st) h Q) : aw_w G M fr lo kc ks pc lv (.int y :: .int x :: st) h Q := aw_step (fun p l e R s m args below meth c H locs cells slots Z ls hx hb hl w => lv_ixor hx hb hd w) k
theorem aw_ishl {x y : Int32} (hd : decode M.2.2.1 pc = .ok (.ishl, 1)) (k : aw_w G M fr lo kc ks (pc + 1) lv (.int (x <<< (y &&& 31)) :: st) h Q) : aw_w G M fr lo kc ks pc lv (.int y :: .int x :: st) h Q := aw_step (fun p l e R s m args below meth c H locs cells slots Z ls hx hb hl w => lv_ishl hx hb hd w) k
theorem aw_ishr {x y : Int32} (hd : decode M.2.2.1 pc = .ok (.ishr, 1)) (k : aw_w G M fr lo kc ks (pc + 1) lv (.int (x >>> (y &&& 31)) :: st) h Q) : aw_w G M fr lo kc ks pc lv (.int y :: .int x :: st) h Q := aw_step (fun p l e R s m args below meth c H locs cells slots Z ls hx hb hl w => lv_ishr hx hb hd w) k
theorem aw_iushr {x y v : Int32} (hd : decode M.2.2.1 pc = .ok (.iushr, 1)) (hv : (x.toUInt32 >>> (y.toUInt32 &&& Int32.toUInt32 31)).toInt32 = v) (k : aw_w G M fr lo kc ks (pc + 1) lv (.int v :: st) h Q) : aw_w G M fr lo kc ks pc lv (.int y :: .int x :: st) h Q := aw_step (fun p l e R s m args below meth c H locs cells slots Z ls hx hb hl w => lv_iushr hx hb hd hv w) k
theorem aw_idiv {x y : Int32} (hd : decode M.2.2.1 pc = .ok (.idiv, 1)) (hne : ¬ y = 0) (k : aw_w G M fr lo kc ks (pc + 1) lv (.int (x / y) :: st) h Q) : aw_w G M fr lo kc ks pc lv (.int y :: .int x :: st) h Q := aw_step (fun p l e R s m args below meth c H locs cells slots Z ls hx hb hl w => lv_idiv hx hb hd hne w) k
theorem aw_irem {x y : Int32} (hd : decode M.2.2.1 pc = .ok (.irem, 1)) (hne : ¬ y = 0) (k : aw_w G M fr lo kc ks (pc + 1) lv (.int (x - x / y * y) :: st) h Q) : aw_w G M fr lo kc ks pc lv (.int y :: .int x :: st) h Q := aw_step (fun p l e R s m args below meth c H locs cells slots Z ls hx hb hl w => lv_irem hx hb hd hne w) k
theorem aw_i2l {x : Int32} {v : Int64} (hd : decode M.2.2.1 pc = .ok (.i2l, 1)) (hv : x.toInt64 = v) (k : aw_w G M fr lo kc ks (pc + 1) lv (.long v :: st) h Q) : aw_w G M fr lo kc ks pc lv (.int x :: st) h Q := aw_step (fun p l e R s m args below meth c H locs cells slots Z ls hx hb hl w => lv_i2l hx hb hd hv w) k
theorem aw_dup {va : Value} (hd : decode M.2.2.1 pc = .ok (.dup, 1)) (hva : va.category = 1) (k : aw_w G M fr lo kc ks (pc + 1) lv (va :: va :: st) h Q) : aw_w G M fr lo kc ks pc lv (va :: st) h Q := aw_step (fun p l e R s m args below meth c H locs cells slots Z ls hx hb hl w => lv_dup hx hb hd hva w) k
theorem aw_pop {va : Value} (hd : decode M.2.2.1 pc = .ok (.pop, 1)) (hva : va.category = 1) (k : aw_w G M fr lo kc ks (pc + 1) lv (st) h Q) : aw_w G M fr lo kc ks pc lv (va :: st) h Q := aw_step (fun p l e R s m args below meth c H locs cells slots Z ls hx hb hl w => lv_pop hx hb hd hva w) k
theorem aw_dup_x1 {va vb : Value} (hd : decode M.2.2.1 pc = .ok (.dup_x1, 1)) (hva : va.category = 1) (hvb : vb.category = 1) (k : aw_w G M fr lo kc ks (pc + 1) lv (va :: vb :: va :: st) h Q) : aw_w G M fr lo kc ks pc lv (va :: vb :: st) h Q := aw_step (fun p l e R s m args below meth c H locs cells slots Z ls hx hb hl w => lv_dup_x1 hx hb hd hva hvb w) k
theorem aw_dup_x2 {va vb vd : Value} (hd : decode M.2.2.1 pc = .ok (.dup_x2, 1)) (hva : va.category = 1) (hvb : vb.category = 1) (hvd : vd.category = 1) (k : aw_w G M fr lo kc ks (pc + 1) lv (va :: vb :: vd :: va :: st) h Q) : aw_w G M fr lo kc ks pc lv (va :: vb :: vd :: st) h Q := aw_step (fun p l e R s m args below meth c H locs cells slots Z ls hx hb hl w => lv_dup_x2 hx hb hd hva hvb hvd w) k
theorem aw_dup2 {va vb : Value} (hd : decode M.2.2.1 pc = .ok (.dup2, 1)) (hva : va.category = 1) (hvb : vb.category = 1) (k : aw_w G M fr lo kc ks (pc + 1) lv (va :: vb :: va :: vb :: st) h Q) : aw_w G M fr lo kc ks pc lv (va :: vb :: st) h Q := aw_step (fun p l e R s m args below meth c H locs cells slots Z ls hx hb hl w => lv_dup2_11 hx hb hd hva hvb w) k
theorem aw_goto {off : Int} {tgt : Nat} (hd : decode M.2.2.1 pc = .ok (.goto off, 3)) (ht : (pc : Int) + off = (tgt : Int)) (k : aw_w G M fr lo kc ks tgt lv st h Q) : aw_w G M fr lo kc ks pc lv st h Q := aw_step (fun p l e R s m args below meth c H locs cells slots Z ls hx hb hl w => lv_goto hx hb hd ht w) k
theorem aw_if_ne {x : Int32} {off : Int} {tgt : Nat} (hd : decode M.2.2.1 pc = .ok (.ifCond .ne off, 3)) (ht : (pc : Int) + off = (tgt : Int)) (k1 : ¬ x = 0 → aw_w G M fr lo kc ks tgt lv st h Q) (k2 : x = 0 → aw_w G M fr lo kc ks (pc + 3) lv st h Q) : aw_w G M fr lo kc ks pc lv (.int x :: st) h Q := aw_stepB (P := x = 0) (fun p l e R s m args below meth c H locs cells slots Z ls hx hb w1 w2 => lv_if_ne hx hb hd ht w2 w1) k2 k1
theorem aw_icmp_ne {x y : Int32} {off : Int} {tgt : Nat} (hd : decode M.2.2.1 pc = .ok (.if_icmp .ne off, 3)) (ht : (pc : Int) + off = (tgt : Int)) (k1 : ¬ x = y → aw_w G M fr lo kc ks tgt lv st h Q) (k2 : x = y → aw_w G M fr lo kc ks (pc + 3) lv st h Q) : aw_w G M fr lo kc ks pc lv (.int y :: .int x :: st) h Q := aw_stepB (P := x = y) (fun p l e R s m args below meth c H locs cells slots Z ls hx hb w1 w2 => lv_icmp_ne hx hb hd ht w2 w1) k2 k1
theorem aw_acmp_eq {rx ry : Option Nat} {off : Int} {tgt : Nat} (hd : decode M.2.2.1 pc = .ok (.if_acmp .eq off, 3)) (ht : (pc : Int) + off = (tgt : Int)) (k1 : rx = ry → aw_w G M fr lo kc ks tgt lv st h Q) (k2 : ¬ rx = ry → aw_w G M fr lo kc ks (pc + 3) lv st h Q) : aw_w G M fr lo kc ks pc lv (va_rf ry :: va_rf rx :: st) h Q := aw_stepB (fun p l e R s m args below meth c H locs cells slots Z ls hx hb w1 w2 => lv_acmp_eq hx hb hd ht w1 w2) k1 k2
theorem aw_acmp_ne {rx ry : Option Nat} {off : Int} {tgt : Nat} (hd : decode M.2.2.1 pc = .ok (.if_acmp .ne off, 3)) (ht : (pc : Int) + off = (tgt : Int)) (k1 : ¬ rx = ry → aw_w G M fr lo kc ks tgt lv st h Q) (k2 : rx = ry → aw_w G M fr lo kc ks (pc + 3) lv st h Q) : aw_w G M fr lo kc ks pc lv (va_rf ry :: va_rf rx :: st) h Q := aw_stepB (P := rx = ry) (fun p l e R s m args below meth c H locs cells slots Z ls hx hb w1 w2 => lv_acmp_ne hx hb hd ht w2 w1) k2 k1
theorem aw_lcmp {x y : Int64} (hd : decode M.2.2.1 pc = .ok (.lcmp, 1)) (k : aw_w G M fr lo kc ks (pc + 1) lv (.int (lg_cmp x y) :: st) h Q) : aw_w G M fr lo kc ks pc lv (.long y :: .long x :: st) h Q := aw_step (fun p l e R s m args below meth c H locs cells slots Z ls hx hb hl w => W.lcmp hx hb hd w) k
theorem aw_if_eq {x : Int32} {off : Int} {tgt : Nat} (hd : decode M.2.2.1 pc = .ok (.ifCond .eq off, 3)) (ht : (pc : Int) + off = (tgt : Int)) (k1 : (x = 0) → aw_w G M fr lo kc ks tgt lv st h Q) (k2 : ¬ (x = 0) → aw_w G M fr lo kc ks (pc + 3) lv st h Q) : aw_w G M fr lo kc ks pc lv (.int x :: st) h Q := aw_stepB (fun p l e R s m args below meth c H locs cells slots Z ls hx hb w1 w2 => lv_if_eq hx hb hd ht w1 w2) k1 k2
theorem aw_icmp_eq {x y : Int32} {off : Int} {tgt : Nat} (hd : decode M.2.2.1 pc = .ok (.if_icmp .eq off, 3)) (ht : (pc : Int) + off = (tgt : Int)) (k1 : (x = y) → aw_w G M fr lo kc ks tgt lv st h Q) (k2 : ¬ (x = y) → aw_w G M fr lo kc ks (pc + 3) lv st h Q) : aw_w G M fr lo kc ks pc lv (.int y :: .int x :: st) h Q := aw_stepB (fun p l e R s m args below meth c H locs cells slots Z ls hx hb w1 w2 => lv_icmp_eq hx hb hd ht w1 w2) k1 k2
theorem aw_if_lt {x : Int32} {off : Int} {tgt : Nat} (hd : decode M.2.2.1 pc = .ok (.ifCond .lt off, 3)) (ht : (pc : Int) + off = (tgt : Int)) (k1 : (x < 0) → aw_w G M fr lo kc ks tgt lv st h Q) (k2 : ¬ (x < 0) → aw_w G M fr lo kc ks (pc + 3) lv st h Q) : aw_w G M fr lo kc ks pc lv (.int x :: st) h Q := aw_stepB (fun p l e R s m args below meth c H locs cells slots Z ls hx hb w1 w2 => lv_if_lt hx hb hd ht w1 w2) k1 k2
theorem aw_icmp_lt {x y : Int32} {off : Int} {tgt : Nat} (hd : decode M.2.2.1 pc = .ok (.if_icmp .lt off, 3)) (ht : (pc : Int) + off = (tgt : Int)) (k1 : (x < y) → aw_w G M fr lo kc ks tgt lv st h Q) (k2 : ¬ (x < y) → aw_w G M fr lo kc ks (pc + 3) lv st h Q) : aw_w G M fr lo kc ks pc lv (.int y :: .int x :: st) h Q := aw_stepB (fun p l e R s m args below meth c H locs cells slots Z ls hx hb w1 w2 => lv_icmp_lt hx hb hd ht w1 w2) k1 k2
theorem aw_if_ge {x : Int32} {off : Int} {tgt : Nat} (hd : decode M.2.2.1 pc = .ok (.ifCond .ge off, 3)) (ht : (pc : Int) + off = (tgt : Int)) (k1 : (0 ≤ x) → aw_w G M fr lo kc ks tgt lv st h Q) (k2 : ¬ (0 ≤ x) → aw_w G M fr lo kc ks (pc + 3) lv st h Q) : aw_w G M fr lo kc ks pc lv (.int x :: st) h Q := aw_stepB (fun p l e R s m args below meth c H locs cells slots Z ls hx hb w1 w2 => lv_if_ge hx hb hd ht w1 w2) k1 k2
theorem aw_icmp_ge {x y : Int32} {off : Int} {tgt : Nat} (hd : decode M.2.2.1 pc = .ok (.if_icmp .ge off, 3)) (ht : (pc : Int) + off = (tgt : Int)) (k1 : (y ≤ x) → aw_w G M fr lo kc ks tgt lv st h Q) (k2 : ¬ (y ≤ x) → aw_w G M fr lo kc ks (pc + 3) lv st h Q) : aw_w G M fr lo kc ks pc lv (.int y :: .int x :: st) h Q := aw_stepB (fun p l e R s m args below meth c H locs cells slots Z ls hx hb w1 w2 => lv_icmp_ge hx hb hd ht w1 w2) k1 k2
theorem aw_if_gt {x : Int32} {off : Int} {tgt : Nat} (hd : decode M.2.2.1 pc = .ok (.ifCond .gt off, 3)) (ht : (pc : Int) + off = (tgt : Int)) (k1 : (0 < x) → aw_w G M fr lo kc ks tgt lv st h Q) (k2 : ¬ (0 < x) → aw_w G M fr lo kc ks (pc + 3) lv st h Q) : aw_w G M fr lo kc ks pc lv (.int x :: st) h Q := aw_stepB (fun p l e R s m args below meth c H locs cells slots Z ls hx hb w1 w2 => lv_if_gt hx hb hd ht w1 w2) k1 k2
theorem aw_icmp_gt {x y : Int32} {off : Int} {tgt : Nat} (hd : decode M.2.2.1 pc = .ok (.if_icmp .gt off, 3)) (ht : (pc : Int) + off = (tgt : Int)) (k1 : (y < x) → aw_w G M fr lo kc ks tgt lv st h Q) (k2 : ¬ (y < x) → aw_w G M fr lo kc ks (pc + 3) lv st h Q) : aw_w G M fr lo kc ks pc lv (.int y :: .int x :: st) h Q := aw_stepB (fun p l e R s m args below meth c H locs cells slots Z ls hx hb w1 w2 => lv_icmp_gt hx hb hd ht w1 w2) k1 k2
theorem aw_if_le {x : Int32} {off : Int} {tgt : Nat} (hd : decode M.2.2.1 pc = .ok (.ifCond .le off, 3)) (ht : (pc : Int) + off = (tgt : Int)) (k1 : (x ≤ 0) → aw_w G M fr lo kc ks tgt lv st h Q) (k2 : ¬ (x ≤ 0) → aw_w G M fr lo kc ks (pc + 3) lv st h Q) : aw_w G M fr lo kc ks pc lv (.int x :: st) h Q := aw_stepB (fun p l e R s m args below meth c H locs cells slots Z ls hx hb w1 w2 => lv_if_le hx hb hd ht w1 w2) k1 k2
theorem aw_icmp_le {x y : Int32} {off : Int} {tgt : Nat} (hd : decode M.2.2.1 pc = .ok (.if_icmp .le off, 3)) (ht : (pc : Int) + off = (tgt : Int)) (k1 : (x ≤ y) → aw_w G M fr lo kc ks tgt lv st h Q) (k2 : ¬ (x ≤ y) → aw_w G M fr lo kc ks (pc + 3) lv st h Q) : aw_w G M fr lo kc ks pc lv (.int y :: .int x :: st) h Q := aw_stepB (fun p l e R s m args below meth c H locs cells slots Z ls hx hb w1 w2 => lv_icmp_le hx hb hd ht w1 w2) k1 k2
theorem aw_ifnull {x : Nat} {off : Int} (hd : decode M.2.2.1 pc = .ok (.ifnull off, 3)) (k : aw_w G M fr lo kc ks (pc + 3) lv st h Q) : aw_w G M fr lo kc ks pc lv (.ref x :: st) h Q := aw_step (fun p l e R s m args below meth c H locs cells slots Z ls hx hb hl w => lv_ifnull hx hb hd w) k
theorem aw_ifnonnull {x : Nat} {off : Int} {tgt : Nat} (hd : decode M.2.2.1 pc = .ok (.ifnonnull off, 3)) (ht : (pc : Int) + off = (tgt : Int)) (k : aw_w G M fr lo kc ks tgt lv st h Q) : aw_w G M fr lo kc ks pc lv (.ref x :: st) h Q := aw_step (fun p l e R s m args below meth c H locs cells slots Z ls hx hb hl w => lv_ifnonnull hx hb hd ht w) k
theorem aw_tableIn {dflt lw9 hi : Int} {offs : Array Int} {len : Nat} {x : Int32} {off : Int} {tgt : Nat} (hd : decode M.2.2.1 pc = .ok (.tableswitch dflt lw9 hi offs, len)) (h1 : ¬ x.toInt < lw9) (h2 : ¬ hi < x.toInt) (ho : offs[(x.toInt - lw9).toNat]? = some off) (ht : (pc : Int) + off = (tgt : Int)) (k : aw_w G M fr lo kc ks tgt lv st h Q) : aw_w G M fr lo kc ks pc lv (.int x :: st) h Q := aw_step (fun p l e R s m args below meth c H locs cells slots Z ls hx hb hl w => lv_tableIn hx hb hd h1 h2 ho ht w) k
theorem aw_tableOut {dflt lw9 hi : Int} {offs : Array Int} {len : Nat} {x : Int32} {tgt : Nat} (hd : decode M.2.2.1 pc = .ok (.tableswitch dflt lw9 hi offs, len)) (h9 : x.toInt < lw9 ∨ hi < x.toInt) (ht : (pc : Int) + dflt = (tgt : Int)) (k : aw_w G M fr lo kc ks tgt lv st h Q) : aw_w G M fr lo kc ks pc lv (.int x :: st) h Q := aw_step (fun p l e R s m args below meth c H locs cells slots Z ls hx hb hl w => lv_tableOut hx hb hd h9 ht w) k
theorem aw_topi {x : Int32} (k : ∀ y : Int32, y = x → aw_w G M fr lo kc ks pc lv (.int y :: st) h Q) : aw_w G M fr lo kc ks pc lv (.int x :: st) h Q := k x rfl
theorem aw_top {x y : Int32} (e : x = y) (k : aw_w G M fr lo kc ks pc lv (.int y :: st) h Q) : aw_w G M fr lo kc ks pc lv (.int x :: st) h Q := e ▸ k
theorem aw_h {h' : List va_E} (e : h = h') (k : aw_w G M fr lo kc ks pc lv st h' Q) : aw_w G M fr lo kc ks pc lv st h Q := e ▸ k
end AWP
end
section
/-! ===== the abstract walk: fields, arrays, new cells, returns ===== -/
def aw_fl (own : String) (idx ci fi : Nat) : Prop := ∃ (r : vw_C) (ref : String), am_cl[ci]? = some r ∧ fi < r.2.2 ∧ Cond.fieldLink own idx ref (r.2.1 fi).2.1 (r.2.1 fi).2.2.1 ∈ aw_T ∧ (ref = (r.2.1 fi).1 ∨ Cond.sameField ref (r.2.1 fi).1 (r.2.1 fi).2.1 (r.2.1 fi).2.2.1 ∈ aw_T)
def aw_nf (ci fi : Nat) : Prop := ∀ r, am_cl[ci]? = some r → (r.2.1 fi).2.2.2 = false
def aw_ff (own : String) (ci fi : Nat) : Prop := ∀ r, am_cl[ci]? = some r → (r.2.1 fi).2.2.2 = true ∧ (r.2.1 fi).1 = own
def aw_nl (own : String) (idx ci N : Nat) : Prop := ∃ r : vw_C, am_cl[ci]? = some r ∧ r.2.2 = N ∧ Cond.classLink own idx r.1 ∈ aw_T ∧ Cond.instantiable r.1 r.2.2 ∈ aw_T ∧ Cond.initialized r.1 ∈ aw_T
theorem aw_Sp {A : Nat → Prop} {H0 H H1 : Heap} {locs : List Loc} (hS : va_S A H0 H locs) (hz : H.size ≤ H1.size) (ho : ∀ q : Nat, q < H.size → H1[q]? = H[q]?) : va_S A H0 H1 locs :=
  ⟨Nat.le_trans hS.1 hz, fun x a b => (ho x (Nat.lt_of_lt_of_le a hS.1)).trans (hS.2.1 x a b), hS.2.2⟩
section AWH
variable {G : ag_T} {M : am_M} {fr lo kc ks pc : Nat} {lv : List (Nat × Value)} {st : List Value} {h : List va_E} {Q : aq_T}
theorem aw_getf (i ci fi : Nat) {idx : Nat} {fs : List Value} {v : Value} (hd : decode M.2.2.1 pc = .ok (.getfield idx, 3)) (hF : aw_fl M.1 idx ci fi) (hh : h[i]? = some (.inr (ci, fs))) (hv : fs[fi]? = some v)
    (k : aw_w G M fr lo kc ks (pc + 3) lv (v :: st) h Q) : aw_w G M fr lo kc ks pc lv (.ref (G.1 + i) :: st) h Q := by
  intro p l e R s m args below meth c H locs cells slots mc ms ls C hl hR hO hS hG h1 h2 h3 h4
  obtain ⟨hx, hb, hml, hown, hts, hret, htab, hlk, hnm, hst9, hK, hfr, hlo⟩ := id C
  obtain ⟨⟨C0, T0, N0⟩, ref, hc, hk, hlink, hsame⟩ := hF
  refine va_get (D := G.2.1) (cl := am_cl) (tys := ag_ty G) (ws := ah_ws G 0 h) (C := C0) (T := T0) (N := N0) hx hb hts (am_ok ci _ hc).1 hown hK.1 hR.1 i (ah_at hh) hc fi hk (hts _ hlink) (fun x9 h9 => ?_) hv hd
    (k p l e R s m args below meth c H locs cells slots mc ms ls C hl hR hO hS hG h1 h2 h3 h4)
  rcases hsame with e9 | e9
  · rw [e9]; exact h9
  · exact u_same (hts _ e9) x9 h9
theorem aw_putf (i ci fi : Nat) {idx : Nat} {fs : List Value} {v : Value} (hd : decode M.2.2.1 pc = .ok (.putfield idx, 3)) (hF : aw_fl M.1 idx ci fi) (hfin : aw_nf ci fi) (hh : h[i]? = some (.inr (ci, fs))) (hn : narrow (am_ty ci fi) v = v) (hfit : fits (am_ty ci fi) v = true) (hl9 : fi < fs.length)
    (k : aw_w G M fr lo kc ks (pc + 3) lv st (h.set i (.inr (ci, fs.set fi v))) Q) : aw_w G M fr lo kc ks pc lv (v :: .ref (G.1 + i) :: st) h Q := by
  intro p l e R s m args below meth c H locs cells slots mc ms ls C hl hR hO hS hG h1 h2 h3 h4
  obtain ⟨hx, hb, hml, hown, hts, hret, htab, hlk, hnm, hst9, hK, hfr, hlo⟩ := id C
  obtain ⟨⟨C0, T0, N0⟩, ref, hc, hk, hlink, hsame⟩ := hF
  obtain ⟨ok1, ok2, ok3⟩ := am_ok ci _ hc
  have hap := va_apart (own := M.1) hts ok1 (am_ty ci) ok2 ok3 hK.1 hc
  obtain ⟨r, e1, cell, q1, q2, q3, q4⟩ := hR.cell hh
  have hr : r = (C0, T0, N0) := Option.some.inj (e1.symm.trans hc)
  subst hr
  obtain ⟨hS1, hfc, kC, hkC, hkind⟩ := hK.1.1 ci _ hc
  obtain ⟨cf, kf, fi9, f, hi, hsl⟩ := hS1 fi hk
  have hlay := hts _ (ok1 _ (u_in_lay hk))
  unfold u_lay at hlay
  rw [if_neg (by rw [hfin _ hc]; decide)] at hlay
  have hst0 := (u_facts hfc hkC (u_lays hts ok1 hk) hi).1
  have h6 := u_store hfc hkC hkind hlay hi (ok2 fi hk) hn hfit
  have hsm : s.fieldFound? ref (T0 fi).2.1 (T0 fi).2.2.1 = some (cf, kf, fi9, f) := by
    rcases hsame with e9 | e9
    · rw [e9]; exact hi
    · exact u_same (hts _ e9) _ hi
  refine W.putK hx hb (f := f) ⟨hown, hts _ hlink, ⟨_, _, _, hsm⟩, hst0⟩ (by rw [q2]; exact h6) q1 q3 (by rw [hsl]; exact k2_hasslot (q4 fi hk)) rfl rfl hd fun H' e1 e2 e3 => ?_
  rw [hsl] at e1 ⊢
  exact k p l e R s m args below meth c H' _ cells slots mc ms ls C hl (hR.set hh e2 e3 ⟨_, hc, t_OB.to (V := updV (vp_V fs) fi v) ⟨_, e1, q2, q3, t_set q4 hap hk v⟩ (fun j _ => vp_updV_set hl9 v j)⟩) hO (hS.put e2 e3 (Nat.le_add_right _ _)) hG h1 h2 h3 h4
theorem aw_putF (i ci fi : Nat) {idx : Nat} {fs : List Value} {v : Value} (hd : decode M.2.2.1 pc = .ok (.putfield idx, 3)) (hF : aw_fl M.1 idx ci fi) (hfin : aw_ff M.1 ci fi) (hin : M.2.1.name = "<init>") (hh : h[i]? = some (.inr (ci, fs))) (hn : narrow (am_ty ci fi) v = v) (hfit : fits (am_ty ci fi) v = true) (hl9 : fi < fs.length)
    (k : aw_w G M fr lo kc ks (pc + 3) lv st (h.set i (.inr (ci, fs.set fi v))) Q) : aw_w G M fr lo kc ks pc lv (v :: .ref (G.1 + i) :: st) h Q := by
  intro p l e R s m args below meth c H locs cells slots mc ms ls C hl hR hO hS hG h1 h2 h3 h4
  obtain ⟨hx, hb, hml, hown, hts, hret, htab, hlk, hnm, hst9, hK, hfr, hlo⟩ := id C
  obtain ⟨⟨C0, T0, N0⟩, ref, hc, hk, hlink, hsame⟩ := hF
  obtain ⟨ok1, ok2, ok3⟩ := am_ok ci _ hc
  have hap := va_apart (own := M.1) hts ok1 (am_ty ci) ok2 ok3 hK.1 hc
  obtain ⟨r, e1, cell, q1, q2, q3, q4⟩ := hR.cell hh
  have hr : r = (C0, T0, N0) := Option.some.inj (e1.symm.trans hc)
  subst hr
  obtain ⟨hS1, hfc, kC, hkC, hkind⟩ := hK.1.1 ci _ hc
  obtain ⟨cf, kf, fi9, f, hi, hsl⟩ := hS1 fi hk
  have hlay := hts _ (ok1 _ (u_in_lay hk))
  unfold u_lay at hlay
  rw [if_pos (hfin _ hc).1] at hlay
  have hst0 := (u_facts hfc hkC (u_lays hts ok1 hk) hi).1
  have hcf : m.cls = cf := by
    obtain ⟨_, _, c', _, _, _, -, -, hf', -, -, -, hown2, -⟩ := Cond.laysFinal_spec hlay
    have e1 : c' = cf := by have := hi.symm.trans hf'; simp at this; exact this.1.symm
    have e4 : (T0 fi).1 = M.1 := (hfin _ hc).2
    rw [e4] at hown2
    rw [← e1]; exact Option.some.inj (hown.symm.trans hown2)
  have h6 := u_fits hfc hkC hkind (Or.inr hlay) hi (ok2 fi hk) hn hfit
  have hsm : s.fieldFound? ref (T0 fi).2.1 (T0 fi).2.2.1 = some (cf, kf, fi9, f) := by
    rcases hsame with e9 | e9
    · rw [e9]; exact hi
    · exact u_same (hts _ e9) _ hi
  refine W.putFinK hx hb hown (hts _ hlink) hsm hst0 hcf (hnm.trans hin) (by rw [q2]; exact h6) q1 q3 (by rw [hsl]; exact k2_hasslot (q4 fi hk)) rfl rfl hd fun H' e1 e2 e3 => ?_
  rw [hsl] at e1 ⊢
  exact k p l e R s m args below meth c H' _ cells slots mc ms ls C hl (hR.set hh e2 e3 ⟨_, hc, t_OB.to (V := updV (vp_V fs) fi v) ⟨_, e1, q2, q3, t_set q4 hap hk v⟩ (fun j _ => vp_updV_set hl9 v j)⟩) hO (hS.put e2 e3 (Nat.le_add_right _ _)) hG h1 h2 h3 h4
theorem aw_new (ci N : Nat) {idx kc' ks' : Nat} {fs : List Value} (hd : decode M.2.2.1 pc = .ok (.new idx, 3)) (hN : aw_nl M.1 idx ci N) (hfs : ∀ j, j < N → defaultValue (am_ty ci j) = vp_V fs j) (hk1 : kc = kc' + 1) (hk2 : ks = ks' + N)
    (k : aw_w G M fr lo kc' ks' (pc + 3) lv (.ref (G.1 + h.length) :: st) (h ++ [.inr (ci, fs)]) Q) : aw_w G M fr lo kc ks pc lv st h Q := by
  intro p l e R s m args below meth c H locs cells slots mc ms ls C hl hR hO hS hG h1 h2 h3 h4
  obtain ⟨hx, hb, hml, hown, hts, hret, htab, hlk, hnm, hst9, hK, hfr, hlo⟩ := id C
  obtain ⟨⟨C0, T0, N0⟩, hc, hN0, w1, w2, w3⟩ := hN
  have hN1 : N0 = N := hN0
  subst hN1
  obtain ⟨ok1, ok2, ok3⟩ := am_ok ci _ hc
  have hKn := hK.1.1 ci _ hc
  refine W.newcK hx hb hown (hts _ w1) (hts _ w2) (hts _ w3) rfl hd (by omega) (by have hz : (C0, T0, N0).2.2 = N0 := rfl; omega) hKn.2.1 hR.2 fun H' kC hkC e1 z1 o1 => ?_
  refine k p l e R s m args below meth c H' locs (cells + 1) (slots + N0) mc ms ls C hl (hR.push (by rw [z1, hR.2]) (fun q hq => o1 q (by rw [← hR.2]; exact hq)) ⟨_, hc, (u_born (am_ty ci) hts ok1 hKn hkC e1 ok2).to hfs⟩) hO (aw_Sp hS (by rw [z1, hR.2]; exact Nat.le_succ _) (fun q hq => o1 q (by rw [← hR.2]; exact hq))) hG (by omega) (by omega) h3 h4
theorem aw_iald (i : Nat) {n : Nat} {f : Nat → Int32} {j : Int32} (hd : decode M.2.2.1 pc = .ok (.iaload, 1)) (hh : h[i]? = some (.inl (G.2.2.1 0, n, .inl f))) (hin : vp_in j n)
    (k : aw_w G M fr lo kc ks (pc + 1) lv (.int (f j.toNatClampNeg) :: st) h Q) : aw_w G M fr lo kc ks pc lv (.int j :: .ref (G.1 + i) :: st) h Q := by
  intro p l e R s m args below meth c H locs cells slots mc ms ls C hl hR hO hS hG h1 h2 h3 h4
  obtain ⟨hx, hb, hml, hown, hts, hret, htab, hlk, hnm, hst9, hK, hfr, hlo⟩ := id C
  exact va_iald hx hb hK.1 hR.1 i 0 (ah_at hh) rfl hin hd (k p l e R s m args below meth c H locs cells slots mc ms ls C hl hR hO hS hG h1 h2 h3 h4)
theorem aw_zald (i : Nat) {n : Nat} {f : Nat → Int32} {j : Int32} (hd : decode M.2.2.1 pc = .ok (.baload, 1)) (hh : h[i]? = some (.inl (G.2.2.1 1, n, .inl f))) (hin : vp_in j n)
    (k : aw_w G M fr lo kc ks (pc + 1) lv (.int (f j.toNatClampNeg) :: st) h Q) : aw_w G M fr lo kc ks pc lv (.int j :: .ref (G.1 + i) :: st) h Q := by
  intro p l e R s m args below meth c H locs cells slots mc ms ls C hl hR hO hS hG h1 h2 h3 h4
  obtain ⟨hx, hb, hml, hown, hts, hret, htab, hlk, hnm, hst9, hK, hfr, hlo⟩ := id C
  exact va_zald hx hb hK.1 hR.1 i 1 (ah_at hh) rfl hin hd (k p l e R s m args below meth c H locs cells slots mc ms ls C hl hR hO hS hG h1 h2 h3 h4)
theorem aw_lald (i : Nat) {n : Nat} {f : Nat → Int64} {j : Int32} (hd : decode M.2.2.1 pc = .ok (.laload, 1)) (hh : h[i]? = some (.inl (G.2.2.1 2, n, .inr (.inl f)))) (hin : vp_in j n)
    (k : aw_w G M fr lo kc ks (pc + 1) lv (.long (f j.toNatClampNeg) :: st) h Q) : aw_w G M fr lo kc ks pc lv (.int j :: .ref (G.1 + i) :: st) h Q := by
  intro p l e R s m args below meth c H locs cells slots mc ms ls C hl hR hO hS hG h1 h2 h3 h4
  obtain ⟨hx, hb, hml, hown, hts, hret, htab, hlk, hnm, hst9, hK, hfr, hlo⟩ := id C
  exact va_lald hx hb hK.1 hR.1 i 2 (ah_at hh) rfl hin hd (k p l e R s m args below meth c H locs cells slots mc ms ls C hl hR hO hS hG h1 h2 h3 h4)
theorem aw_aald (i : Nat) {n : Nat} {f : Nat → Option Nat} {j : Int32} (hd : decode M.2.2.1 pc = .ok (.aaload, 1)) (hh : h[i]? = some (.inl (G.2.2.1 3, n, .inr (.inr (.inr (.inr f)))))) (hin : vp_in j n)
    (k : aw_w G M fr lo kc ks (pc + 1) lv (va_rf (f j.toNatClampNeg) :: st) h Q) : aw_w G M fr lo kc ks pc lv (.int j :: .ref (G.1 + i) :: st) h Q := by
  intro p l e R s m args below meth c H locs cells slots mc ms ls C hl hR hO hS hG h1 h2 h3 h4
  obtain ⟨hx, hb, hml, hown, hts, hret, htab, hlk, hnm, hst9, hK, hfr, hlo⟩ := id C
  exact va_aldq hx hb hK.1 hR.1 i 3 (ah_at hh) rfl hin hd (k p l e R s m args below meth c H locs cells slots mc ms ls C hl hR hO hS hG h1 h2 h3 h4)
theorem aw_alen (i t : Nat) {cA : ClassId} {x : vp_A} {ty : FieldType} {v : Int32} (hd : decode M.2.2.1 pc = .ok (.arraylength, 1)) (hh : h[i]? = some (.inl (cA, x))) (ht : (ag_ty G)[t]? = some (cA, ty)) (hv : Int32.ofNat x.1 = v)
    (k : aw_w G M fr lo kc ks (pc + 1) lv (.int v :: st) h Q) : aw_w G M fr lo kc ks pc lv (.ref (G.1 + i) :: st) h Q := by
  intro p l e R s m args below meth c H locs cells slots mc ms ls C hl hR hO hS hG h1 h2 h3 h4
  obtain ⟨hx, hb, hml, hown, hts, hret, htab, hlk, hnm, hst9, hK, hfr, hlo⟩ := id C
  exact va_alen hx hb hK.1 hR.1 i t (ah_at hh) ht hv hd (k p l e R s m args below meth c H locs cells slots mc ms ls C hl hR hO hS hG h1 h2 h3 h4)
theorem aw_iast (i : Nat) {n : Nat} {f : Nat → Int32} {j x : Int32} (hd : decode M.2.2.1 pc = .ok (.iastore, 1)) (hh : h[i]? = some (.inl (G.2.2.1 0, n, .inl f))) (hin : vp_in j n)
    (k : aw_w G M fr lo kc ks (pc + 1) lv st (h.set i (.inl (G.2.2.1 0, n, .inl (upd f j.toNatClampNeg x)))) Q) : aw_w G M fr lo kc ks pc lv (.int x :: .int j :: .ref (G.1 + i) :: st) h Q := by
  intro p l e R s m args below meth c H locs cells slots mc ms ls C hl hR hO hS hG h1 h2 h3 h4
  obtain ⟨hx, hb, hml, hown, hts, hret, htab, hlk, hnm, hst9, hK, hfr, hlo⟩ := id C
  refine W.iast hx hb (hR.cell hh) ((hK.1.2 0 _ rfl).1 n (fun j => .int (f j))) (fun q => by cases q) (by show ¬ (j < 0 ∨ (arrV _ _ _).slots.size ≤ _); rw [arrV_size]; exact hin) rfl rfl hd fun H1 e1 z oq => ?_
  refine k p l e R s m args below meth c H1 _ cells slots mc ms ls C hl (hR.set hh z oq ?_) hO (hS.put z oq (Nat.le_add_right _ _)) hG h1 h2 h3 h4
  show H1[G.1 + i]? = some (vp_cell _ _)
  rw [e1, vp_cell_i, vp_cell_i, arrV_store]
  congr 2
  funext q
  by_cases hq : q = j.toNatClampNeg
  · subst hq
    simp [updV, upd]
  · simp [updV, upd, hq]
theorem aw_zast (i : Nat) {n : Nat} {f : Nat → Int32} {j x : Int32} (hd : decode M.2.2.1 pc = .ok (.bastore, 1)) (hh : h[i]? = some (.inl (G.2.2.1 1, n, .inl f))) (hin : vp_in j n)
    (k : aw_w G M fr lo kc ks (pc + 1) lv st (h.set i (.inl (G.2.2.1 1, n, .inl (upd f j.toNatClampNeg (vp_nar .boolean x))))) Q) : aw_w G M fr lo kc ks pc lv (.int x :: .int j :: .ref (G.1 + i) :: st) h Q := by
  intro p l e R s m args below meth c H locs cells slots mc ms ls C hl hR hO hS hG h1 h2 h3 h4
  obtain ⟨hx, hb, hml, hown, hts, hret, htab, hlk, hnm, hst9, hK, hfr, hlo⟩ := id C
  refine W.zast hx hb (hR.cell hh) ((hK.1.2 1 _ rfl).1 n (fun j => .int (f j))) (fun q => by cases q) (by show ¬ (j < 0 ∨ (arrV _ _ _).slots.size ≤ _); rw [arrV_size]; exact hin) rfl rfl hd fun H1 e1 z oq => ?_
  refine k p l e R s m args below meth c H1 _ cells slots mc ms ls C hl (hR.set hh z oq ?_) hO (hS.put z oq (Nat.le_add_right _ _)) hG h1 h2 h3 h4
  show H1[G.1 + i]? = some (vp_cell _ _)
  rw [e1, vp_cell_i, vp_cell_i, arrV_store]
  congr 2
  funext q
  by_cases hq : q = j.toNatClampNeg
  · subst hq
    simp [updV, upd, vp_nar]
    try rfl
  · simp [updV, upd, hq]
theorem aw_last (i : Nat) {n : Nat} {f : Nat → Int64} {j : Int32} {x : Int64} (hd : decode M.2.2.1 pc = .ok (.lastore, 1)) (hh : h[i]? = some (.inl (G.2.2.1 2, n, .inr (.inl f)))) (hin : vp_in j n)
    (k : aw_w G M fr lo kc ks (pc + 1) lv st (h.set i (.inl (G.2.2.1 2, n, .inr (.inl (vp_updL f j.toNatClampNeg x))))) Q) : aw_w G M fr lo kc ks pc lv (.long x :: .int j :: .ref (G.1 + i) :: st) h Q := by
  intro p l e R s m args below meth c H locs cells slots mc ms ls C hl hR hO hS hG h1 h2 h3 h4
  obtain ⟨hx, hb, hml, hown, hts, hret, htab, hlk, hnm, hst9, hK, hfr, hlo⟩ := id C
  refine W.last hx hb (hR.cell hh) ((hK.1.2 2 _ rfl).1 n (fun j => .long (f j))) (fun q => by cases q) (by show ¬ (j < 0 ∨ (arrV _ _ _).slots.size ≤ _); rw [arrV_size]; exact hin) rfl rfl hd fun H1 e1 z oq => ?_
  refine k p l e R s m args below meth c H1 _ cells slots mc ms ls C hl (hR.set hh z oq ?_) hO (hS.put z oq (Nat.le_add_right _ _)) hG h1 h2 h3 h4
  show H1[G.1 + i]? = some (vp_cell _ _)
  rw [e1, vp_cell_l, vp_cell_l, arrV_store]
  congr 2
  funext q
  by_cases hq : q = j.toNatClampNeg
  · subst hq
    simp [updV, vp_updL]
  · simp [updV, vp_updL, hq]
theorem aw_newi {n : Int32} {N kc' ks' : Nat} (hd : decode M.2.2.1 pc = .ok (.newarray .int, 2)) (hw : Cond.arrayClass .int ∈ aw_T) (hn : ¬ n < 0) (hN : n.toNatClampNeg = N) (hb9 : N ≤ 100000) (hk1 : kc = kc' + 1) (hk2 : ks = ks' + N)
    (k : aw_w G M fr lo kc' ks' (pc + 2) lv (.ref (G.1 + h.length) :: st) (h ++ [.inl (G.2.2.1 0, N, .inl (fun _ => 0))]) Q) : aw_w G M fr lo kc ks pc lv (.int n :: st) h Q := by
  intro p l e R s m args below meth c H locs cells slots mc ms ls C hl hR hO hS hG h1 h2 h3 h4
  obtain ⟨hx, hb, hml, hown, hts, hret, htab, hlk, hnm, hst9, hK, hfr, hlo⟩ := id C
  refine va_newaK (atype := .int) hx hb (hts _ hw) rfl hd rfl hn hN (by show N * 4 ≤ _; omega) (by omega) (by omega) hR.2 fun H' cA e1 z1 o1 _ hf9 => ?_
  have hcA : cA = G.2.2.1 0 := Option.some.inj (hf9.symm.trans (hK.1.2 0 _ rfl).2)
  subst hcA
  exact k p l e R s m args below meth c H' locs (cells + 1) (slots + N) mc ms ls C hl (hR.push (by rw [z1, hR.2]) (fun q hq => o1 q (by rw [← hR.2]; exact hq)) e1) hO (aw_Sp hS (by rw [z1, hR.2]; exact Nat.le_succ _) (fun q hq => o1 q (by rw [← hR.2]; exact hq))) hG (by omega) (by omega) h3 h4
theorem aw_newz {n : Int32} {N kc' ks' : Nat} (hd : decode M.2.2.1 pc = .ok (.newarray .boolean, 2)) (hw : Cond.arrayClass .boolean ∈ aw_T) (hn : ¬ n < 0) (hN : n.toNatClampNeg = N) (hb9 : N ≤ 100000) (hk1 : kc = kc' + 1) (hk2 : ks = ks' + N)
    (k : aw_w G M fr lo kc' ks' (pc + 2) lv (.ref (G.1 + h.length) :: st) (h ++ [.inl (G.2.2.1 1, N, .inl (fun _ => 0))]) Q) : aw_w G M fr lo kc ks pc lv (.int n :: st) h Q := by
  intro p l e R s m args below meth c H locs cells slots mc ms ls C hl hR hO hS hG h1 h2 h3 h4
  obtain ⟨hx, hb, hml, hown, hts, hret, htab, hlk, hnm, hst9, hK, hfr, hlo⟩ := id C
  refine va_newaK (atype := .boolean) hx hb (hts _ hw) rfl hd rfl hn hN (by show N * 1 ≤ _; omega) (by omega) (by omega) hR.2 fun H' cA e1 z1 o1 _ hf9 => ?_
  have hcA : cA = G.2.2.1 1 := Option.some.inj (hf9.symm.trans (hK.1.2 1 _ rfl).2)
  subst hcA
  exact k p l e R s m args below meth c H' locs (cells + 1) (slots + N) mc ms ls C hl (hR.push (by rw [z1, hR.2]) (fun q hq => o1 q (by rw [← hR.2]; exact hq)) e1) hO (aw_Sp hS (by rw [z1, hR.2]; exact Nat.le_succ _) (fun q hq => o1 q (by rw [← hR.2]; exact hq))) hG (by omega) (by omega) h3 h4
theorem aw_newl {n : Int32} {N kc' ks' : Nat} (hd : decode M.2.2.1 pc = .ok (.newarray .long, 2)) (hw : Cond.arrayClass .long ∈ aw_T) (hn : ¬ n < 0) (hN : n.toNatClampNeg = N) (hb9 : N ≤ 100000) (hk1 : kc = kc' + 1) (hk2 : ks = ks' + N)
    (k : aw_w G M fr lo kc' ks' (pc + 2) lv (.ref (G.1 + h.length) :: st) (h ++ [.inl (G.2.2.1 2, N, .inr (.inl (fun _ => 0)))]) Q) : aw_w G M fr lo kc ks pc lv (.int n :: st) h Q := by
  intro p l e R s m args below meth c H locs cells slots mc ms ls C hl hR hO hS hG h1 h2 h3 h4
  obtain ⟨hx, hb, hml, hown, hts, hret, htab, hlk, hnm, hst9, hK, hfr, hlo⟩ := id C
  refine va_newaK (atype := .long) hx hb (hts _ hw) rfl hd rfl hn hN (by show N * 8 ≤ _; omega) (by omega) (by omega) hR.2 fun H' cA e1 z1 o1 _ hf9 => ?_
  have hcA : cA = G.2.2.1 2 := Option.some.inj (hf9.symm.trans (hK.1.2 2 _ rfl).2)
  subst hcA
  exact k p l e R s m args below meth c H' locs (cells + 1) (slots + N) mc ms ls C hl (hR.push (by rw [z1, hR.2]) (fun q hq => o1 q (by rw [← hR.2]; exact hq)) e1) hO (aw_Sp hS (by rw [z1, hR.2]; exact Nat.le_succ _) (fun q hq => o1 q (by rw [← hR.2]; exact hq))) hG (by omega) (by omega) h3 h4
/-- the four ends by a return -/
theorem aw_iret {v : Int32} (hd : decode M.2.2.1 pc = .ok (.ireturn, 1)) (hr9 : M.2.2.2.2.1 = some .int) (hq : Q (.inl (some (.int v))) h) : aw_w G M fr lo kc ks pc lv [.int v] h Q := by
  intro p l e R s m args below meth c H locs cells slots mc ms ls C hl hR hO hS hG h1 h2 h3 h4
  obtain ⟨hx, hb, hml, hown, hts, hret, htab, hlk, hnm, hst9, hK, hfr, hlo⟩ := id C
  refine W.widen (k := mc) (n := ms) (by omega) (by omega) ?_
  intro T hT X
  obtain ⟨t, a1, o, b1, b2, ⟨e1, e2⟩, L, hF, hL⟩ := (W.iret (Qc := fun _ _ o t => o = .returned (some (.int v)) ∧ t.heap = H) (free := aw_A G) hx hb (hret.trans hr9) (fun t ht _ => ⟨rfl, ht⟩) hS.2.2 hd hlk) T hT X
  exact ⟨t, a1, o, b1, b2, h, L, by rw [e2]; exact hR, hF.2.1, hF.2.2, ⟨by rw [e2]; exact hS.1, by rw [e2]; exact hS.2.1, hL⟩, Or.inl ⟨_, e1, hq⟩⟩
theorem aw_zret {v : Int32} (hd : decode M.2.2.1 pc = .ok (.ireturn, 1)) (hr9 : M.2.2.2.2.1 = some .boolean) (hv : v = 0 ∨ v = 1) (hq : Q (.inl (some (.int v))) h) : aw_w G M fr lo kc ks pc lv [.int v] h Q := by
  intro p l e R s m args below meth c H locs cells slots mc ms ls C hl hR hO hS hG h1 h2 h3 h4
  obtain ⟨hx, hb, hml, hown, hts, hret, htab, hlk, hnm, hst9, hK, hfr, hlo⟩ := id C
  refine W.widen (k := mc) (n := ms) (by omega) (by omega) ?_
  intro T hT X
  have hn9 : narrow .boolean (.int v) = .int v := by rcases hv with rfl | rfl <;> decide
  obtain ⟨t, a1, o, b1, b2, ⟨e1, e2⟩, L, hF, hL⟩ := (W.zret (Qc := fun _ _ o t => o = .returned (some (.int v)) ∧ t.heap = H) (free := aw_A G) hx hb (hret.trans hr9) hn9 (fun t ht _ => ⟨rfl, ht⟩) hS.2.2 hd hlk) T hT X
  exact ⟨t, a1, o, b1, b2, h, L, by rw [e2]; exact hR, hF.2.1, hF.2.2, ⟨by rw [e2]; exact hS.1, by rw [e2]; exact hS.2.1, hL⟩, Or.inl ⟨_, e1, hq⟩⟩
theorem aw_vret (hd : decode M.2.2.1 pc = .ok (.return_, 1)) (hr9 : M.2.2.2.2.1 = none) (hq : Q (.inl none) h) : aw_w G M fr lo kc ks pc lv [] h Q := by
  intro p l e R s m args below meth c H locs cells slots mc ms ls C hl hR hO hS hG h1 h2 h3 h4
  obtain ⟨hx, hb, hml, hown, hts, hret, htab, hlk, hnm, hst9, hK, hfr, hlo⟩ := id C
  refine W.widen (k := mc) (n := ms) (by omega) (by omega) ?_
  intro T hT X
  obtain ⟨t, a1, o, b1, b2, ⟨e1, e2⟩, L, hF, hL⟩ := (W.vret (Qc := fun _ _ o t => o = .returned none ∧ t.heap = H) (free := aw_A G) hx hb (hret.trans hr9) (fun t ht _ => ⟨rfl, ht⟩) hS.2.2 hd hlk) T hT X
  exact ⟨t, a1, o, b1, b2, h, L, by rw [e2]; exact hR, hF.2.1, hF.2.2, ⟨by rw [e2]; exact hS.1, by rw [e2]; exact hS.2.1, hL⟩, Or.inl ⟨_, e1, hq⟩⟩
theorem aw_aret {v : Value} {rt : FieldType} (hd : decode M.2.2.1 pc = .ok (.areturn, 1)) (hr9 : M.2.2.2.2.1 = some rt) (hrt : (∃ n, rt = .object n) ∨ ∃ t, rt = .array t) (hv : v = .null ∨ ∃ a, v = .ref a) (hq : Q (.inl (some v)) h) : aw_w G M fr lo kc ks pc lv [v] h Q := by
  intro p l e R s m args below meth c H locs cells slots mc ms ls C hl hR hO hS hG h1 h2 h3 h4
  obtain ⟨hx, hb, hml, hown, hts, hret, htab, hlk, hnm, hst9, hK, hfr, hlo⟩ := id C
  refine W.widen (k := mc) (n := ms) (by omega) (by omega) ?_
  intro T hT X
  obtain ⟨t, a1, o, b1, b2, ⟨e1, e2⟩, L, hF, hL⟩ := (W.aret (Qc := fun _ _ o t => o = .returned (some v) ∧ t.heap = H) (free := aw_A G) hx hb (hret.trans hr9) hrt hv (fun t ht _ => ⟨rfl, ht⟩) hS.2.2 hd hlk) T hT X
  exact ⟨t, a1, o, b1, b2, h, L, by rw [e2]; exact hR, hF.2.1, hF.2.2, ⟨by rw [e2]; exact hS.1, by rw [e2]; exact hS.2.1, hL⟩, Or.inl ⟨_, e1, hq⟩⟩
end AWH
end
section
/-! ===== the abstract walk: calls ===== -/
def aw_x (G : ag_T) (M : am_M) (fr lo kc ks pc : Nat) (lv : List (Nat × Value)) (st : List Value) (h : List va_E) (k9 ci : Nat) (Q : aq_T) : Prop :=
  ∀ (p : Program) (l : Launch) (e : Env) (R : Room) (s : State) (m : MethodId) (args : Array Value) (below : List Frame) (meth : Method) (c : Code) (H : Heap) (locs : List Loc) (cells slots mc ms : Nat) (ls : Array Slot),
    aw_C G M fr lo p l R s m args meth c → lv_has ls M.2.2.2.1 lv → ah_R G h H → h[k9]? = some (.inr (ci, [])) → aw_O G s s.heap → va_S (aw_A G) s.heap H locs → G.1 ≤ s.heap.size → cells + kc ≤ mc → slots + ks ≤ ms → mc ≤ R.cells → ms ≤ R.slots →
    ∀ T : State, T.heap = H → Stand p l e R s m args below meth c T locs cells slots → ∃ t, Steps p.tables e below ((T.setTop (F0 m pc ls st)).pushFrame (.throwing (G.1 + k9))) t ∧ aw_Z G Q below mc ms s t
/-- a method of the program, by its words -/
def aw_my (Y : am_M) : Prop := ((Cond.code Y.2.1 Y.2.2.1 Y.2.2.2.1 Y.2.2.2.2.1 ∈ aw_T ∧ Y.2.2.2.2.2 = []) ∨ Cond.codeWith Y.2.1 Y.2.2.1 Y.2.2.2.1 Y.2.2.2.2.1 Y.2.2.2.2.2 ∈ aw_T) ∧ plainFor Y.2.1 = true ∧ Y.1 = Y.2.1.cls
theorem aw_my.facts {Y : am_M} (hY : aw_my Y) {args : Array Value} {s : State} (hts : ∀ w ∈ aw_T, w.before args s = true) :
    ∃ (mk : MethodId) (methk : Method) (ck : Code), s.methodNamed? Y.2.1 = some mk ∧ s.vm.method? mk = some methk ∧ methk.code = some ck ∧ ck.code = Y.2.2.1 ∧ ck.maxLocals = Y.2.2.2.1 ∧ methk.sig.returnType = Y.2.2.2.2.1 ∧ methk.locks = false ∧ ck.exceptionTable.toList = tableOf Y.2.2.2.2.2 ∧ parseMethodDescriptor Y.2.1.desc = some methk.sig := by
  rcases hY.1 with ⟨hw, he⟩ | hw
  · obtain ⟨mk, hn⟩ := Cond.code_named (hts _ hw)
    obtain ⟨methk, ck, q1, q2, q3, q4, q5, q6, q7, q8⟩ := Cond.code_spec hn (hts _ hw)
    refine ⟨mk, methk, ck, hn, q1, q2, q3, q4, q5, q6, ?_, q8⟩
    rw [he, Array.isEmpty_iff.mp q7]
    rfl
  · obtain ⟨mk, methk, ck, hn, q1, q2, q3, q4, q6, q5, q7, q8⟩ := Cond.codeWith_spec (hts _ hw)
    refine ⟨mk, methk, ck, hn, q1, q2, q3, q4, q5, q7, ?_, q8⟩
    rw [← q6, table_eq]
theorem aw_Sc {A : Nat → Prop} {H0 H H1 : Heap} {locs L : List Loc} (hS : va_S A H0 H locs) (h1 : va_S A H H1 L) : va_S A H0 H1 (locs ++ L) :=
  ⟨Nat.le_trans hS.1 h1.1, fun q a b => (h1.2.1 q (Nat.lt_of_lt_of_le a hS.1) b).trans (hS.2.1 q a b), fun q hq => (List.mem_append.mp hq).elim (hS.2.2 q) (h1.2.2 q)⟩
/-- the invoking instruction's own step -/
def aw_iv (p : Program) (l : Launch) (e : Env) (R : Room) (s : State) (m : MethodId) (args : Array Value) (below : List Frame) (meth : Method) (c : Code) (H : Heap) (locs : List Loc) (cells slots pc : Nat) (ls : Array Slot) (st rest : List Value) (y : MethodName) (as : List Value) : Prop :=
  ∀ T : State, T.heap = H → Stand p l e R s m args below meth c T locs cells slots → ∃ (vm₁ : Vm) (mk : MethodId), Stand p l e R s m args below meth c (T.setVm vm₁) locs cells slots ∧ s.methodNamed? y = some mk ∧
    ∀ target, Steps p.tables e below (doInvoke e ((T.setVm vm₁).setTop (F0 m pc ls rest)) [] mk as.toArray).1 target → Steps p.tables e below (T.setTop (F0 m pc ls st)) target
section AWC
variable {G : ag_T} {M : am_M} {fr lo kc ks pc : Nat} {lv : List (Nat × Value)} {st : List Value} {h : List va_E} {Q : aq_T}
theorem aw_core (Y : am_M) {ig : Instr} {fr' lo' kc1 ks1 kc' ks' : Nat} {as rest : List Value} {Qc : aq_T} (hd : decode M.2.2.1 pc = .ok (ig, 3)) (hY : aw_my Y) (hf9 : fr' + 1 ≤ fr) (hk1 : kc = kc1 + kc') (hk2 : ks = ks1 + ks') (hrest : (rest.map fun v => v.category).sum + (Y.2.2.2.1 + 11) + lo' ≤ lo) (hlen : (lg_sl as).length ≤ Y.2.2.2.1)
    (hiv : ∀ (p : Program) (l : Launch) (e : Env) (R : Room) (s : State) (m : MethodId) (args : Array Value) (below : List Frame) (meth : Method) (c : Code) (H : Heap) (locs : List Loc) (cells slots : Nat) (ls : Array Slot), aw_C G M fr lo p l R s m args meth c → ah_R G h H → aw_iv p l e R s m args below meth c H locs cells slots pc ls st rest Y.2.1 as)
    (hent : aw_w G Y fr' lo' kc1 ks1 0 (lv_args 0 as) [] h Qc)
    (kret : ∀ v h', Qc (.inl v) h' → aw_w G M fr lo kc' ks' (pc + 3) lv (v.toList ++ rest) h' Q)
    (kthr : ∀ k9 ci h', Qc (.inr ci) h' → aw_x G M fr lo kc' ks' pc lv rest h' k9 ci Q) : aw_w G M fr lo kc ks pc lv st h Q := by
  intro p l e R s m args below meth c H locs cells slots mc ms ls C hl hR hO hS hG h1 h2 h3 h4 T hT X
  obtain ⟨hx, hb, hml, hown, hts, hret, htab, hlk, hnm, hst9, hK, hfr, hlo⟩ := id C
  obtain ⟨vm₁, mk, X1, hn, hst⟩ := hiv p l e R s m args below meth c H locs cells slots ls C hR T hT X
  obtain ⟨mk', methk, ck, hn', hmk, hck, hcb, hcl, hcr, hlkk, hctab, hsig⟩ := hY.facts hts
  have emk : mk = mk' := Option.some.inj (hn.symm.trans hn')
  subst emk
  obtain ⟨-, hY2, hY3⟩ := hY
  have hW1 : s.WarmedH vm₁ := X1.warmed
  have hmk1 : (T.setVm vm₁).vm.method? mk = some methk := by
    show vm₁.method? mk = _
    rw [hW1.alike.method?]; exact hmk
  have hpk : (T.setVm vm₁).plainMethod mk := State.plainMethod.of_named hY2 (X1.named hn) hmk1
  have hsz : (F0 m pc ls rest).locals.size = c.maxLocals := hl.1.trans hml.symm
  have hdg : decode c.code (F0 m pc ls rest).pc = .ok (ig, 3) := by rw [hb]; exact hd
  obtain ⟨Y0, hin⟩ := X1.into (g := F0 m pc ls rest) rfl hsz hdg as.toArray (R' := aw_rm fr' lo' kc1 ks1) hmk1 hck hlkk hpk (by show fr' + 1 ≤ R.frames; omega)
    (by show 2 * 0 + (rest.map fun v => v.category).sum + (ck.maxLocals + 11) + lo' ≤ R.locals; rw [hcl]; omega) (by show cells + kc1 ≤ R.cells; omega) (by show slots + ks1 ≤ R.slots; omega)
  obtain ⟨s', hs'⟩ : ∃ z, z = (T.setVm vm₁).calling (F0 m pc ls rest) mk as.toArray := ⟨_, rfl⟩
  obtain ⟨U0, hU0⟩ : ∃ z, z = ((T.setVm vm₁).setTop (F0 m pc ls rest)).pushFrame (.java (entryFrame mk as.toArray ck.maxLocals)) := ⟨_, rfl⟩
  rw [← hs', ← hU0] at Y0
  have hv' : s'.vm = vm₁ := by rw [hs']; rfl
  have hh' : s'.heap = H := by rw [hs']; exact hT
  have hW' : s.WarmedH s'.vm := by rw [hv']; exact hW1
  have Cc : aw_C G Y fr' lo' p l (aw_rm fr' lo' kc1 ks1) s' mk as.toArray methk ck :=
    ⟨hx, hcb, hcl, by rw [hY3, hW'.alike.findClass]; exact findClass_of_methodNamed hn, fun w hw => word_at hW' (aw_good w hw) (hts w hw), hcr, hctab, hlkk, (name_of_methodNamed hn hmk).1, hst9, hK.moved hW', Nat.le_refl _, Nat.le_refl _⟩
  have hlv : lv_has ((lg_sl as ++ List.replicate (ck.maxLocals - (lg_sl as).length) Slot.unset).toArray) Y.2.2.2.1 (lv_args 0 as) := by
    rw [← hcl]
    exact lv_entry as (by rw [hcl]; exact hlen)
  have hO' : aw_O G s' s'.heap := by
    rw [hh']
    exact (hO.moved hW').kept hS.2.1
  obtain ⟨t, a1, o, b1, b2, h', L, c1, c2, c3, c4, c5⟩ := hent p l e (aw_rm fr' lo' kc1 ks1) s' mk as.toArray (.java (F0 m pc ls rest) :: below) methk ck H [] 0 0 kc1 ks1 _ Cc hlv hR hO'
    (by rw [hh']; exact va_S.rf) (by rw [hh']; exact Nat.le_trans hG hS.1) (by omega) (by omega) (Nat.le_refl _) (Nat.le_refl _) U0 (by rw [hU0]; exact hT) Y0
  rw [← lg_entry_eq mk as ck.maxLocals] at a1
  have a2 : Steps p.tables e below (doInvoke e ((T.setVm vm₁).setTop (F0 m pc ls rest)) [] mk as.toArray).1 t := by
    rw [hin [], ← hU0]
    exact Steps.weaken (mid := [.java (F0 m pc ls rest)]) a1
  rw [hs'] at c2 c3
  rw [hh'] at c4
  rcases c5 with ⟨v, ho, hq⟩ | ⟨k9, ci, ho, hcell, hq⟩
  · subst ho
    obtain ⟨T', X', -, -, ht⟩ := X1.outOf (g := F0 m pc ls rest) rfl hdg b2 c2 c3
    have hth : T'.heap = t.heap := by rw [ht]; rfl
    obtain ⟨t2, d1, d2⟩ := kret v h' hq p l e R s m args below meth c T'.heap (locs ++ L) (cells + kc1) (slots + ks1) mc ms ls C hl (by rw [hth]; exact c1) hO (by rw [hth]; exact aw_Sc hS c4) hG (by omega) (by omega) h3 h4 T' rfl X'
    refine ⟨t2, hst _ (a2.trans ?_), d2⟩
    rw [ht]
    exact d1
  · subst ho
    obtain ⟨T', X', -, -, ht⟩ := X1.outOfThrown (g := F0 m pc ls rest) rfl b2 c2 c3
    have hth : T'.heap = t.heap := by rw [ht]; rfl
    obtain ⟨t2, d1, d2⟩ := kthr k9 ci h' hq p l e R s m args below meth c T'.heap (locs ++ L) (cells + kc1) (slots + ks1) mc ms ls C hl (by rw [hth]; exact c1) hcell hO (by rw [hth]; exact aw_Sc hS c4) hG (by omega) (by omega) h3 h4 T' rfl X'
    refine ⟨t2, hst _ (a2.trans ?_), d2⟩
    rw [ht]
    exact d1
def aw_mh (y : MethodName) : Prop := y.cls ≠ "java/lang/invoke/MethodHandle" ∧ y.cls ≠ "java/lang/invoke/VarHandle"
def aw_cs (own : String) (idx : Nat) (Y : am_M) : Prop := Cond.methodLink own idx Y.2.1 ∈ aw_T ∧ Cond.static Y.2.1 ∈ aw_T ∧ Cond.initialized Y.2.1.cls ∈ aw_T ∧ aw_mh Y.2.1
def aw_cn (own : String) (idx : Nat) (host : String) (Y : am_M) : Prop := Cond.methodLinkNest own idx Y.2.1 host ∈ aw_N ∧ Cond.static Y.2.1 ∈ aw_T ∧ Cond.initialized Y.2.1.cls ∈ aw_T ∧ aw_mh Y.2.1
def aw_cv (own : String) (idx : Nat) (Y : am_M) : Prop := Cond.methodLink own idx Y.2.1 ∈ aw_T ∧ Cond.instanceMethod Y.2.1 ∈ aw_T ∧ Cond.selects Y.2.1.cls Y.2.1 Y.2.1 ∈ aw_T ∧ aw_mh Y.2.1
def aw_ci (own : String) (idx : Nat) (Y : am_M) : Prop := Cond.methodLink own idx Y.2.1 ∈ aw_T ∧ Cond.instanceMethod Y.2.1 ∈ aw_T ∧ Y.2.1.name = "<init>" ∧ Y.2.2.2.2.1 = none ∧ Y.2.2.2.2.2 = [] ∧ Cond.code Y.2.1 Y.2.2.1 Y.2.2.2.1 none ∈ aw_T ∧ aw_mh Y.2.1
def aw_np (Y : am_M) (n : Nat) : Prop := (parseMethodDescriptor Y.2.1.desc).map (fun d => d.parameters.length) = some n
theorem aw_np.of {Y : am_M} {n : Nat} (h : aw_np Y n) {sig : MethodDescriptor} (hs : parseMethodDescriptor Y.2.1.desc = some sig) : n = sig.parameters.length := by
  unfold aw_np at h
  rw [hs] at h
  exact (Option.some.inj h).symm
theorem aw_callS (Y : am_M) {idx fr' lo' kc1 ks1 kc' ks' : Nat} (as rest : List Value) {Qc : aq_T} (hd : decode M.2.2.1 pc = .ok (.invokestatic idx, 3)) (hC : aw_cs M.1 idx Y) (hY : aw_my Y) (hp : aw_np Y as.length) (hst : st = as.reverse ++ rest) (hf9 : fr' + 1 ≤ fr) (hk1 : kc = kc1 + kc') (hk2 : ks = ks1 + ks') (hrest : (rest.map fun v => v.category).sum + (Y.2.2.2.1 + 11) + lo' ≤ lo) (hlen : (lg_sl as).length ≤ Y.2.2.2.1)
    (hent : aw_w G Y fr' lo' kc1 ks1 0 (lv_args 0 as) [] h Qc)
    (kret : ∀ v h', Qc (.inl v) h' → aw_w G M fr lo kc' ks' (pc + 3) lv (v.toList ++ rest) h' Q)
    (kthr : ∀ k9 ci h', Qc (.inr ci) h' → aw_x G M fr lo kc' ks' pc lv rest h' k9 ci Q) : aw_w G M fr lo kc ks pc lv st h Q := by
  refine aw_core Y hd hY hf9 hk1 hk2 hrest hlen ?_ hent kret kthr
  intro p l e R s m args below meth c H locs cells slots ls C hR T hT X
  obtain ⟨hx, hb, hml, hown, hts, -⟩ := id C
  obtain ⟨mk, methk, ck, hn, hmk, -, -, -, -, -, -, hsig⟩ := hY.facts hts
  obtain ⟨kP, hkP, -⟩ := className_of_methodNamed hn
  obtain ⟨vm₁, X₁, hs1⟩ := X.invokestatic hx hown (hts _ hC.1) hn hmk (Cond.static_spec hn hmk (hts _ hC.2.1)) hkP (Cond.initialized_spec (findClass_of_methodNamed hn) hkP (hts _ hC.2.2.1)) hC.2.2.2 (g := F0 m pc ls st) rfl (argsL := as) (rest := rest) (hp.of hsig) hst (by rw [hb]; exact hd)
  exact ⟨vm₁, mk, X₁, hn, fun target h9 => hs1 _ fun acts => by rw [doInvoke_state]; exact h9⟩
theorem aw_callSN (Y : am_M) {idx fr' lo' kc1 ks1 kc' ks' : Nat} (host : String) (as rest : List Value) {Qc : aq_T} (hd : decode M.2.2.1 pc = .ok (.invokestatic idx, 3)) (hC : aw_cn M.1 idx host Y) (hY : aw_my Y) (hp : aw_np Y as.length) (hst : st = as.reverse ++ rest) (hf9 : fr' + 1 ≤ fr) (hk1 : kc = kc1 + kc') (hk2 : ks = ks1 + ks') (hrest : (rest.map fun v => v.category).sum + (Y.2.2.2.1 + 11) + lo' ≤ lo) (hlen : (lg_sl as).length ≤ Y.2.2.2.1)
    (hent : aw_w G Y fr' lo' kc1 ks1 0 (lv_args 0 as) [] h Qc)
    (kret : ∀ v h', Qc (.inl v) h' → aw_w G M fr lo kc' ks' (pc + 3) lv (v.toList ++ rest) h' Q)
    (kthr : ∀ k9 ci h', Qc (.inr ci) h' → aw_x G M fr lo kc' ks' pc lv rest h' k9 ci Q) : aw_w G M fr lo kc ks pc lv st h Q := by
  refine aw_core Y hd hY hf9 hk1 hk2 hrest hlen ?_ hent kret kthr
  intro p l e R s m args below meth c H locs cells slots ls C hR T hT X
  obtain ⟨hx, hb, hml, hown, hts, hret, htab, hlk, hnm, hst9, hK, hfr, hlo⟩ := id C
  obtain ⟨mk, methk, ck, hn, hmk, -, -, -, -, -, -, hsig⟩ := hY.facts hts
  obtain ⟨kP, hkP, -⟩ := className_of_methodNamed hn
  obtain ⟨vm₁, X₁, hs1⟩ := X.invokestaticNest hx hown (va_Nw.use rfl (hK.2.1 _ hC.1)) hn hmk (Cond.static_spec hn hmk (hts _ hC.2.1)) hkP (Cond.initialized_spec (findClass_of_methodNamed hn) hkP (hts _ hC.2.2.1)) hC.2.2.2 (g := F0 m pc ls st) rfl (argsL := as) (rest := rest) (hp.of hsig) hst (by rw [hb]; exact hd)
  exact ⟨vm₁, mk, X₁, hn, fun target h9 => hs1 _ fun acts => by rw [doInvoke_state]; exact h9⟩
theorem aw_callV (Y : am_M) {idx fr' lo' kc1 ks1 kc' ks' : Nat} (i ci : Nat) (as rest : List Value) {fs : List Value} {Qc : aq_T} (hd : decode M.2.2.1 pc = .ok (.invokevirtual idx, 3)) (hC : aw_cv M.1 idx Y) (hY : aw_my Y) (hp : aw_np Y as.length) (hh : h[i]? = some (.inr (ci, fs))) (hci : (am_cl[ci]?).map (·.1) = some Y.2.1.cls) (hst : st = as.reverse ++ .ref (G.1 + i) :: rest) (hf9 : fr' + 1 ≤ fr) (hk1 : kc = kc1 + kc') (hk2 : ks = ks1 + ks') (hrest : (rest.map fun v => v.category).sum + (Y.2.2.2.1 + 11) + lo' ≤ lo) (hlen : (lg_sl (.ref (G.1 + i) :: as)).length ≤ Y.2.2.2.1)
    (hent : aw_w G Y fr' lo' kc1 ks1 0 (lv_args 0 (.ref (G.1 + i) :: as)) [] h Qc)
    (kret : ∀ v h', Qc (.inl v) h' → aw_w G M fr lo kc' ks' (pc + 3) lv (v.toList ++ rest) h' Q)
    (kthr : ∀ k9 ci h', Qc (.inr ci) h' → aw_x G M fr lo kc' ks' pc lv rest h' k9 ci Q) : aw_w G M fr lo kc ks pc lv st h Q := by
  refine aw_core Y (as := .ref (G.1 + i) :: as) hd hY hf9 hk1 hk2 hrest hlen ?_ hent kret kthr
  intro p l e R s m args below meth c H locs cells slots ls C hR T hT X
  obtain ⟨hx, hb, hml, hown, hts, hret, htab, hlk, hnm, hst9, hK, hfr, hlo⟩ := id C
  obtain ⟨mk, methk, ck, hn, hmk, -, -, -, -, -, -, hsig⟩ := hY.facts hts
  obtain ⟨r, hr, cellB, g1, g2, g3, -⟩ := hR.cell hh
  have hcls : s.vm.findClass Y.2.1.cls = some cellB.cls := by
    rw [hr] at hci
    rw [← Option.some.inj hci, g2]
    exact (hK.1.1 ci r hr).2.1
  obtain ⟨mk2, methM, hnamed, hmethM, hstM, habM⟩ := Cond.instanceMethod_spec (hts _ hC.2.1)
  cases Option.some.inj (hn.symm.trans hnamed)
  cases Option.some.inj (hmk.symm.trans hmethM)
  obtain ⟨c2, r2, m2, q1, q2, q3, q4, kP, hkP, hkPi⟩ := Cond.selects_spec (hts _ hC.2.2.1)
  cases Option.some.inj (hcls.symm.trans q1)
  cases Option.some.inj ((State.methodFound?_of_named hn hC.2.2.2).symm.trans q2)
  cases Option.some.inj (hn.symm.trans q3)
  have hselP : selectMethod e.platform s.vm cellB.cls mk = .method mk := by rw [Launch.admits_selectMethod X.admits]; exact q4
  obtain ⟨vm₁, X₁, hs1⟩ := X.invokevirtual hx hown (hts _ hC.1) hn hmk hstM hkP hkPi hC.2.2.2 (a := G.1 + i) (cell := cellB) (by rw [hT]; exact g1) (fun z h9 => by rw [g3] at h9; cases h9) hselP hmk habM hkP hkPi (g := F0 m pc ls st) rfl (argsL := as) (rest := rest) (hp.of hsig) hst (by rw [hb]; exact hd)
  exact ⟨vm₁, mk, X₁, hn, fun target h9 => hs1 _ fun acts => by rw [doInvoke_state]; exact h9⟩
theorem aw_callI (Y : am_M) {idx fr' lo' kc1 ks1 kc' ks' : Nat} (i : Nat) (as rest : List Value) {Qc : aq_T} (hd : decode M.2.2.1 pc = .ok (.invokespecial idx, 3)) (hC : aw_ci M.1 idx Y) (hY : aw_my Y) (hp : aw_np Y as.length) (hst : st = as.reverse ++ .ref (G.1 + i) :: rest) (hf9 : fr' + 1 ≤ fr) (hk1 : kc = kc1 + kc') (hk2 : ks = ks1 + ks') (hrest : (rest.map fun v => v.category).sum + (Y.2.2.2.1 + 11) + lo' ≤ lo) (hlen : (lg_sl (.ref (G.1 + i) :: as)).length ≤ Y.2.2.2.1)
    (hent : aw_w G Y fr' lo' kc1 ks1 0 (lv_args 0 (.ref (G.1 + i) :: as)) [] h Qc)
    (kret : ∀ v h', Qc (.inl v) h' → aw_w G M fr lo kc' ks' (pc + 3) lv (v.toList ++ rest) h' Q)
    (kthr : ∀ k9 ci h', Qc (.inr ci) h' → aw_x G M fr lo kc' ks' pc lv rest h' k9 ci Q) : aw_w G M fr lo kc ks pc lv st h Q := by
  refine aw_core Y (as := .ref (G.1 + i) :: as) hd hY hf9 hk1 hk2 hrest hlen ?_ hent kret kthr
  intro p l e R s m args below meth c H locs cells slots ls C hR T hT X
  obtain ⟨hx, hb, hml, hown, hts, -⟩ := id C
  obtain ⟨w1, w2, w3, w4, w5, w6, w7⟩ := hC
  have hpl : e.platform.magicAccessors = ({} : Platform).magicAccessors := by rw [X.admits.platform]
  obtain ⟨mk, methM, cM, kP, vm₁, hnamed, hmethM, -, -, -, -, -, -, hW₁, hs1⟩ := Steps.initColdArgs (e := e) X.here hx X.warmed hpl hown w3 w7 (hts _ w1) (hts _ w2) (hts _ w6) (f := F0 m pc ls st) rfl (argsL := as) (rest := rest) (fun sig h9 => hp.of h9) hst (by rw [hb]; exact hd)
  exact ⟨vm₁, mk, X.noted hW₁, hnamed, fun target h9 => hs1 _ fun acts => by rw [doInvoke_state]; exact h9⟩
theorem aw_obj {idx i : Nat} (hd : decode M.2.2.1 pc = .ok (.invokespecial idx, 3)) (hw : Cond.methodLink M.1 idx objectInit ∈ aw_T ∧ Cond.instanceMethod objectInit ∈ aw_T ∧ Cond.code objectInit ⟨#[0xb1]⟩ 1 none ∈ aw_T) (hf9 : 1 ≤ fr) (hrest : (st.map fun v => v.category).sum + 12 ≤ lo)
    (k : aw_w G M fr lo kc ks (pc + 3) lv st h Q) : aw_w G M fr lo kc ks pc lv (.ref i :: st) h Q := by
  intro p l e R s m args below meth c H locs cells slots mc ms ls C hl hR hO hS hG h1 h2 h3 h4
  obtain ⟨hx, hb, hml, hown, hts, hret, htab, hlk, hnm, hst9, hK, hfr, hlo⟩ := id C
  refine W.objInit hx hb hown (hts _ hw.1) (hts _ hw.2.1) (hts _ hw.2.2) rfl (hl.1.trans hml.symm) rfl hd (by omega) (by show 2 * 0 + (st.map fun v => v.category).sum + 12 ≤ R.locals; omega) ?_
  exact k p l e R s m args below meth c H locs cells slots mc ms ls C hl hR hO hS hG h1 h2 h3 h4
/-- an exception that goes on to the caller -/
theorem aw_out {k9 ci : Nat} (hout : ∀ x ∈ tableOf M.2.2.2.2.2, covers x pc = false) (hq : Q (.inr ci) h) : aw_x G M fr lo kc ks pc lv st h k9 ci Q := by
  intro p l e R s m args below meth c H locs cells slots mc ms ls C hl hR hk hO hS hG h1 h2 h3 h4 T hT X
  obtain ⟨hx, hb, hml, hown, hts, hret, htab, hlk, hnm, hst9, hK, hfr, hlo⟩ := id C
  obtain ⟨st1, hrun, hend, hW, hsm⟩ := X.leaveThrown (G.1 + k9) (g := F0 m pc ls st) rfl rfl rfl (by rw [htab]; exact hout) hlk
  have hth : (T.setFrames (.throwing (G.1 + k9) :: below)).heap = H := hT
  exact ⟨_, st1, .threw (G.1 + k9), hrun, hend, h, locs, by rw [hth]; exact hR, hW, hsm.mono (by omega) (by omega), by rw [hth]; exact hS, Or.inr ⟨k9, ci, rfl, hk, hq⟩⟩
end AWC
end
section
/-! ===== the abstract walk: exceptions: caught by the method's own table, its classes linked or not yet ===== -/
/-- the search for a handler ends with hd, and leaves the tables vm' -/
def ax_F (e : Env) (s : State) (f : JFrame) (a : Addr) (hd : Handler) (vm' : Vm) : Prop :=
  ∀ (Q : Handler → Pre) (E : CtlPost) (d : Bool) (acts : List Action), wp (findHandler f a) Q E e d acts s ↔ Q hd d acts (s.setVm vm')
section AXA
variable {Q : Handler → Pre} {E : CtlPost} {e : Env} {d : Bool} {acts : List Action} {s : State} {f : JFrame} {a : Addr}
theorem ax_yes {x : ExceptionTableEntry} {t : List ExceptionTableEntry} {c : ClassId} {cell : Cell} (hx : covers x f.pc = true) (h0 : x.catchType ≠ 0)
    (hl : s.vm.ClassLinks e.platform f.method.cls x.catchType c) (hcell : s.heap[a]? = some cell) (hobj : ∀ k, cell.vm ≠ .statics k)
    (hk : ∃ k, s.vm.classes[cell.cls]? = some k) (hc : ∃ k, s.vm.classes[c]? = some k) (hfit : s.vm.assignable cell.cls c = true) :
    wp (findHandler.go f a (x :: t)) Q E e d acts s ↔ Q (.found x.handlerPc) d acts (s.setVm (s.vm.noted f.method.cls x.catchType (.cls c))) := by
  simp only [covers] at hx
  obtain ⟨r1, r2⟩ := (resolveClass_links e.toSetting hl).op (op := VmOp.resolveClass f.method.cls x.catchType) rfl
  have hal : s.vm.Alike (s.vm.noted f.method.cls x.catchType (.cls c)) := (Vm.Alike.refl s.vm).noted _ _ _
  obtain ⟨k1, hk1⟩ := hk
  obtain ⟨k2, hk2⟩ := hc
  obtain ⟨j1, hj1, -⟩ := hal.2.2 _ _ hk1
  obtain ⟨j2, hj2, -⟩ := hal.2.2 _ _ hk2
  have hf2 : (s.vm.noted f.method.cls x.catchType (.cls c)).assignable cell.cls c = true := by rw [hal.assignable]; exact hfit
  simp [findHandler.go, hx, h0, r1, r2, hcell, hobj, hj1, hj2, hf2, VmOp.dirties, VmOp.acts]
theorem ax_no {x : ExceptionTableEntry} {t : List ExceptionTableEntry} {c : ClassId} {cell : Cell} (hx : covers x f.pc = true) (h0 : x.catchType ≠ 0)
    (hl : s.vm.ClassLinks e.platform f.method.cls x.catchType c) (hcell : s.heap[a]? = some cell) (hobj : ∀ k, cell.vm ≠ .statics k)
    (hk : ∃ k, s.vm.classes[cell.cls]? = some k) (hc : ∃ k, s.vm.classes[c]? = some k) (hfit : s.vm.assignable cell.cls c = false) :
    wp (findHandler.go f a (x :: t)) Q E e d acts s ↔ wp (findHandler.go f a t) Q E e d acts (s.setVm (s.vm.noted f.method.cls x.catchType (.cls c))) := by
  simp only [covers] at hx
  obtain ⟨r1, r2⟩ := (resolveClass_links e.toSetting hl).op (op := VmOp.resolveClass f.method.cls x.catchType) rfl
  have hal : s.vm.Alike (s.vm.noted f.method.cls x.catchType (.cls c)) := (Vm.Alike.refl s.vm).noted _ _ _
  obtain ⟨k1, hk1⟩ := hk
  obtain ⟨k2, hk2⟩ := hc
  obtain ⟨j1, hj1, -⟩ := hal.2.2 _ _ hk1
  obtain ⟨j2, hj2, -⟩ := hal.2.2 _ _ hk2
  have hf2 : (s.vm.noted f.method.cls x.catchType (.cls c)).assignable cell.cls c = false := by rw [hal.assignable]; exact hfit
  simp [findHandler.go, hx, h0, r1, r2, hcell, hobj, hj1, hj2, hf2, VmOp.dirties, VmOp.acts]
end AXA
/-- a row of a method's table that an exception of the class E passes, or that takes it: by names -/
def ax_pass (own E : String) (pc : Nat) (z : ExceptionTableEntry) : Prop := covers z pc = false ∨ (z.catchType ≠ 0 ∧ ∃ nm : String, Cond.classLink own z.catchType nm ∈ aw_T ∧ (E, nm) ∈ aw_NC)
def ax_take (own E : String) (pc : Nat) (z : ExceptionTableEntry) : Prop := covers z pc = true ∧ z.catchType ≠ 0 ∧ ∃ nm : String, Cond.classLink own z.catchType nm ∈ aw_T ∧ Cond.castable E nm ∈ aw_N
theorem ax_find {own E : String} {args : Array Value} {e : Env} {s : State} {f : JFrame} {a : Addr} {cell : Cell} (hpl : e.platform.magicAccessors = ({} : Platform).magicAccessors) (hown : s.vm.findClass own = some f.method.cls) (hts : ∀ w ∈ aw_T, w.before args s = true) (hN : ∀ w ∈ aw_N, va_Nw w s) (hNC : ∀ q ∈ aw_NC, va_Nc q.1 q.2 s)
    (hobj : ∀ k, cell.vm ≠ .statics k) (hE : s.vm.findClass E = some cell.cls) (x : ExceptionTableEntry) (rest : List ExceptionTableEntry) (hx : ax_take own E f.pc x) :
    ∀ (pre : List ExceptionTableEntry) (S : State), s.WarmedH S.vm → S.heap[a]? = some cell → (∀ y ∈ pre, ax_pass own E f.pc y) →
      ∃ vm', s.WarmedH vm' ∧ ∀ (Q : Handler → Pre) (E' : CtlPost) (d : Bool) (acts : List Action), wp (findHandler.go f a (pre ++ x :: rest)) Q E' e d acts S ↔ Q (.found x.handlerPc) d acts (S.setVm vm') := by
  have hk0 : ∃ k, s.vm.classes[cell.cls]? = some k := by obtain ⟨k9, h9, -⟩ := Vm.findClass_spec hE; exact ⟨k9, h9⟩
  intro pre
  induction pre with
  | nil =>
    intro S hW hcell _
    obtain ⟨hcov, h0, nm, hl, hc⟩ := hx
    obtain ⟨c5, hc5, hcl5⟩ := Cond.classLink_spec hown (hts _ hl) e.platform hpl
    obtain ⟨c3, c4, hc3, hc4, hasg⟩ := Cond.castable_spec (hN _ hc)
    cases Option.some.inj (hc3.symm.trans hE)
    cases Option.some.inj (hc4.symm.trans hc5)
    obtain ⟨dk, _, _, kt, hd, _, _, _, _, hkt, _, hopen⟩ := hcl5.here
    obtain ⟨k1, hk1⟩ := hk0
    obtain ⟨j1, hj1, -⟩ := hW.alike.2.2 _ _ hk1
    obtain ⟨j2, hj2, -⟩ := hW.alike.2.2 _ _ hkt
    exact ⟨_, hW.noted hd hopen (State.rightAt_cls hcl5), fun Q E' d acts => by
      rw [List.nil_append]
      exact ax_yes hcov h0 (hW.classLinks hcl5) hcell hobj ⟨j1, hj1⟩ ⟨j2, hj2⟩ (by rw [hW.alike.assignable]; exact hasg)⟩
  | cons y ys ih =>
    intro S hW hcell hp
    by_cases hcov : covers y f.pc = true
    · rcases hp y List.mem_cons_self with h9 | ⟨h0, nm, hl, hc⟩
      · rw [h9] at hcov; cases hcov
      · obtain ⟨c5, hc5, hcl5⟩ := Cond.classLink_spec hown (hts _ hl) e.platform hpl
        obtain ⟨c3, c4, hc3, hc4, hasg⟩ := hNC _ hc
        cases Option.some.inj (hc3.symm.trans hE)
        cases Option.some.inj (hc4.symm.trans hc5)
        obtain ⟨dk, _, _, kt, hd, _, _, _, _, hkt, _, hopen⟩ := hcl5.here
        obtain ⟨k1, hk1⟩ := hk0
        obtain ⟨j1, hj1, -⟩ := hW.alike.2.2 _ _ hk1
        obtain ⟨j2, hj2, -⟩ := hW.alike.2.2 _ _ hkt
        obtain ⟨vm', hW', hq⟩ := ih (S.setVm (S.vm.noted f.method.cls y.catchType (.cls c5))) (hW.noted hd hopen (State.rightAt_cls hcl5)) hcell (fun z hz => hp z (List.mem_cons_of_mem _ hz))
        exact ⟨vm', hW', fun Q E' d acts => by
          rw [List.cons_append, ax_no hcov h0 (hW.classLinks hcl5) hcell hobj ⟨j1, hj1⟩ ⟨j2, hj2⟩ (by rw [hW.alike.assignable]; exact hasg)]
          exact hq Q E' d acts⟩
    · obtain ⟨vm', hW', hq⟩ := ih S hW hcell (fun z hz => hp z (List.mem_cons_of_mem _ hz))
      exact ⟨vm', hW', fun Q E' d acts => by
        rw [List.cons_append, W.findHandler_go_skip (by simpa using hcov)]
        exact hq Q E' d acts⟩
theorem ax_caught {tb : Tables} {e : Env} {s target : State} {g : JFrame} {c : Code} {below : List Frame} {a : Addr} (h : At s g.method c below) {pc : Nat} {vm' : Vm}
    (hfind : ax_F e ((s.setTop g).pushFrame (.throwing a)) g a (.found pc) vm') (hrest : Steps tb e below ((s.setVm vm').setTop { g with pc := pc, stack := [.ref a] }) target) :
    Steps tb e below ((s.setTop g).pushFrame (.throwing a)) target := by
  obtain ⟨hgo, hw⟩ := h.throwing a
  have key : (stepThrowing e ((s.setTop g).pushFrame (.throwing a)) a (.java g :: s.frames.tail)).1 = (((s.setTop g).pushFrame (.throwing a)).setVm vm').setFrames (.java { g with pc := pc, stack := [.ref a] } :: s.frames.tail) := by
    simp only [stepThrowing, searchFrame, vmDo]
    generalize hr : Sem.go _ e false [] ((s.setTop g).pushFrame (.throwing a)) = res
    obtain ⟨as, rfl, ha⟩ := Sem.eq_ok_of hr (a := Handler.found pc) (s' := ((s.setTop g).pushFrame (.throwing a)).setVm vm') (acts' := []) (by simp [hfind _ _ _ _])
    rfl
  refine Steps.head hgo hw ?_
  rw [stepThread_throwing (frames_entered h.top _), key]
  obtain ⟨g₀, hg⟩ := Option.isSome_iff_exists.mp h.top
  obtain ⟨r, hr⟩ := State.topJava?_eq_some.mp hg
  have hr' : (s.setVm vm').frames = .java g₀ :: r := hr
  rw [State.setTop_of_frames _ hr'] at hrest
  have e1 : ∀ (u : State) (F F' : List Frame), ((u.setFrames F).setVm vm').setFrames F' = (u.setVm vm').setFrames F' := by
    intro u F F'
    show ((u.setVm vm').setFrames F).setFrames F' = _
    rw [State.setFrames_setFrames]
  rw [hr, List.tail_cons, State.pushFrame, e1, State.setTop_of_frames _ hr, e1]
  exact hrest
section AXB
variable {G : ag_T} {M : am_M} {fr lo kc ks pc : Nat} {lv : List (Nat × Value)} {st : List Value} {h : List va_E} {Q : aq_T}
/-- an exception that this method catches -/
theorem aw_catch {k9 ci : Nat} {E : String} (pre : List ExceptionTableEntry) (x : ExceptionTableEntry) (suf : List ExceptionTableEntry) (hE : (am_cl[ci]?).map (·.1) = some E) (hsplit : tableOf M.2.2.2.2.2 = pre ++ x :: suf) (hpass : ∀ z ∈ pre, ax_pass M.1 E pc z) (hx : ax_take M.1 E pc x)
    (k : aw_w G M fr lo kc ks x.handlerPc lv [.ref (G.1 + k9)] h Q) : aw_x G M fr lo kc ks pc lv st h k9 ci Q := by
  intro p l e R s m args below meth c H locs cells slots mc ms ls C hl hR hk hO hS hG h1 h2 h3 h4 T hT X
  obtain ⟨hx0, hb, hml, hown, hts, hret, htab, hlk, hnm, hst9, hK, hfr, hlo⟩ := id C
  have hpl : e.platform.magicAccessors = ({} : Platform).magicAccessors := by rw [X.admits.platform]
  obtain ⟨r, hr, cellB, g1, g2, g3, -⟩ := hR.cell hk
  have hcls : s.vm.findClass E = some cellB.cls := by
    rw [hr] at hE
    rw [← Option.some.inj hE, g2]
    exact (hK.1.1 ci r hr).2.1
  obtain ⟨vm', hW', hq⟩ := ax_find (f := F0 m pc ls st) (a := G.1 + k9) (cell := cellB) hpl hown hts hK.2.1 hK.2.2.1 (fun z h9 => by rw [g3] at h9; cases h9) hcls x suf hx pre ((T.setTop (F0 m pc ls st)).pushFrame (.throwing (G.1 + k9))) X.warmed (by show T.heap[G.1 + k9]? = _; rw [hT]; exact g1) hpass
  obtain ⟨t, a1, b1⟩ := k p l e R s m args below meth c H locs cells slots mc ms ls C hl hR hO hS hG h1 h2 h3 h4 (T.setVm vm') hT (X.noted hW')
  refine ⟨t, ?_, b1⟩
  refine ax_caught (g := F0 m pc ls st) (c := c) X.here (pc := x.handlerPc) (vm' := vm') ?_ a1
  intro Q9 E9 d9 acts9
  rw [W.findHandler_eq (meth := meth) (code := c) X.method' X.code, htab, hsplit]
  exact hq Q9 E9 d9 acts9
end AXB
end
section
/-! ===== the abstract walk: throw new E("text") ===== -/
section AXR
variable {p : Program} {l : Launch} {e : Env} {R : Room} {s : State} {m : MethodId} {args : Array Value} {below : List Frame} {meth : Method} {c : Code} {locs : List Loc} {cells slots : Nat}
/-- the method's frame as it stands now, seen as a call that has just begun -/
theorem ax_re {T : State} (X : Stand p l e R s m args below meth c T locs cells slots) {R' : Room} (hf : R'.frames ≤ R.frames) (hl : R'.locals ≤ R.locals) (hc : cells + R'.cells ≤ R.cells) (hs : slots + R'.slots ≤ R.slots) {s' : State} (hs' : s' = (T.setVm s.vm).setFrames (.invoking m args :: below)) :
    Stand p l e R' s' m args below meth c T [] 0 0 := by
  subst hs'
  have htop : (T.setVm s.vm).topJava?.isSome := X.here.top
  have hF : ((T.setVm s.vm).setFrames (.invoking m args :: below)).frames = .invoking m args :: below := State.frames_setFrames _ (State.cur_lt_of_top htop)
  obtain ⟨g₀, hg0⟩ := Option.isSome_iff_exists.mp htop
  obtain ⟨r, hr⟩ := State.topJava?_eq_some.mp hg0
  obtain ⟨th, hth, -⟩ := State.frames_cons hr
  have hlim : e.platform.stackLimits (T.setVm s.vm).me = e.platform.stackLimits s.me := X.limits
  have hbyt : (T.setVm s.vm).me.stackBytes = s.me.stackBytes := X.bytes
  have hno : T.heap.toList.drop T.heap.size = [] := List.drop_eq_nil_of_le (Nat.le_of_eq Array.length_toList)
  have hroom : ((T.setVm s.vm).setFrames (.invoking m args :: below)).hasRoom e.platform R' = true := by
    have h0 := X.room
    have hU : ((T.setVm s.vm).setFrames (.invoking m args :: below)).localsInUse = s.localsInUse := by
      rw [State.localsInUse_invoking hF (meth := meth) (c := c) X.method X.code, State.localsInUse_invoking X.frames X.method X.code]
    simp only [State.hasRoom, Bool.and_eq_true, decide_eq_true_eq] at h0 ⊢
    obtain ⟨⟨⟨⟨a1, a2, a3, a4, a5, a6⟩, a7⟩, a8⟩, a9⟩ := h0
    rw [X.frames, List.length_cons] at a2 a3
    have q1 := X.heapSize
    have q2 := X.used
    simp only [hF, hU, List.length_cons, State.stackLimits_setFrames, State.stackBytes_setFrames, hlim, hbyt]
    have q3 : ((T.setVm s.vm).setFrames (.invoking m args :: below)).heap.size = T.heap.size := rfl
    have q4 : ((T.setVm s.vm).setFrames (.invoking m args :: below)).slotsUsed = T.slotsUsed := rfl
    rw [q3, q4]
    exact ⟨⟨⟨⟨by omega, by omega, by omega, by omega, by omega, a6⟩, by omega⟩, by omega⟩, X.book⟩
  refine ⟨X.admits, X.cas, X.clock, hF, hroom, X.hears, X.method, X.code, X.here, X.tail, X.warmed, ?_, ?_, ?_⟩
  · rw [State.stackLimits_setFrames]; rfl
  · rw [State.stackBytes_setFrames]; rfl
  · refine ⟨?_, Nat.le_refl _, Nat.le_refl _, ?_, ?_, fun a c9 h9 => ⟨c9, h9, rfl, rfl, fun _ _ => rfl⟩⟩
    · show T.setVm s.vm = { ((T.setVm s.vm).setFrames (.invoking m args :: below)).setFrames (T.setVm s.vm).frames with heap := T.heap, slotsUsed := T.slotsUsed }
      rw [State.setFrames_setFrames, State.setFrames_self hth]
      rfl
    · show T.slotsUsed = T.slotsUsed + ((T.heap.toList.drop T.heap.size).map (·.slots.size)).sum
      rw [hno]; rfl
    · show ((T.heap.toList.drop T.heap.size).map (·.slots.size)).sum ≤ 0
      rw [hno]; exact Nat.le_refl _
end AXR
/-- what has not been written is as it was -/
theorem ax_same {s U : State} {k n : Nat} (h : s.sameButNew ({ U with vm := s.vm } : State) [] k n) : s.heap.size ≤ U.heap.size ∧ U.heap.size ≤ s.heap.size + k ∧ ∀ q : Nat, q < s.heap.size → U.heap[q]? = s.heap[q]? := by
  obtain ⟨-, h2, h3, -, -, h6⟩ := h
  refine ⟨h2, h3, fun q hq => ?_⟩
  obtain ⟨c9, e1, e2, e3, e4⟩ := h6 q _ (Array.getElem?_eq_getElem hq)
  have hsl : c9.slots = (s.heap[q]).slots := Array.ext_getElem? fun i => e4 i (fun hm => nomatch hm)
  have hc9 : c9 = s.heap[q] := by
    rw [hsl] at e2
    exact e2
  have e5 : U.heap[q]? = some c9 := e1
  rw [e5, hc9, Array.getElem?_eq_getElem hq]
def ax_isN (w : Cond) : Bool := decide (w = .isRef (.static Bundle.tN "UNASSIGNED_STACK" Bundle.steD)) || decide (w = .isRef (.static Bundle.tN "SUPPRESSED_SENTINEL" Bundle.listD)) || decide (w = .laysStatic Bundle.tN "UNASSIGNED_STACK" Bundle.steD) || decide (w = .laysStatic Bundle.tN "SUPPRESSED_SENTINEL" Bundle.listD)
/-- the words of a throw stand in the lists, but the four that speak of the heap -/
def ax_thr (own : String) (ik is ic ci : Nat) (cls text : String) (names : List String) : Prop :=
  Bundle.fit cls = true ∧ (∀ n ∈ names, Bundle.fit n = true) ∧ names.length ≤ 2 ∧ Cond.classLink own ik cls ∈ aw_T ∧ Cond.initialized cls ∈ aw_T ∧ (own, is, text) ∈ aw_SR ∧ (am_cl[ci]? = some (cls, fun _ => ("", "", "", false), 0)) ∧
    ∀ w ∈ Bundle.ownAtoms own ic cls names, ax_isN w = true ∨ w ∈ aw_T ∨ (w ∈ aw_N ∧ w.onTables = true)
section AXT
variable {G : ag_T} {M : am_M} {fr lo kc ks pc : Nat} {lv : List (Nat × Value)} {st : List Value} {h : List va_E} {Q : aq_T}
theorem aw_throw (ci : Nat) {ik is ic : Nat} {cls text : String} {names : List String} (hw : ax_thr M.1 ik is ic ci cls text names)
    (d0 : decode M.2.2.1 pc = .ok (.new ik, 3)) (d3 : decode M.2.2.1 (pc + 3) = .ok (.dup, 1)) (d4 : decode M.2.2.1 (pc + 4) = .ok (.ldc is, 2)) (d6 : decode M.2.2.1 (pc + 6) = .ok (.invokespecial ic, 3)) (d9 : decode M.2.2.1 (pc + 9) = .ok (.athrow, 1))
    (hout : ∀ x ∈ tableOf M.2.2.2.2.2, covers x (pc + 9) = false) (hf9 : 6 ≤ fr) (hrest : (st.map fun v => v.category).sum + 83 ≤ lo) (hk1 : 1 ≤ kc) (hk2 : 6 ≤ ks) (hq : Q (.inr ci) (h ++ [.inr (ci, [])])) : aw_w G M fr lo kc ks pc lv st h Q := by
  intro p l e R s m args below meth c H locs cells slots mc ms ls C hl hR hO hS hG h1 h2 h3 h4 T hT X
  obtain ⟨hx, hb, hml, hown, hts, hret, htab, hlk, hnm, hst9, hK, hfr, hlo⟩ := id C
  obtain ⟨w1, w2, w2b, w3, w4, w5, w6, w7⟩ := hw
  have htr : e.platform.stackTraces = false := (show e.platform.stackTraces = l.stackTraces by rw [X.admits.platform]).trans hst9
  obtain ⟨s', hs'⟩ : ∃ z, z = (T.setVm s.vm).setFrames (.invoking m args :: below) := ⟨_, rfl⟩
  have Y := ax_re X (R' := { frames := R.frames, locals := R.locals, cells := 1, slots := 6 }) (Nat.le_refl _) (Nat.le_refl _) (by show cells + 1 ≤ R.cells; omega) (by show slots + 6 ≤ R.slots; omega) hs'
  have hvm : s'.vm = s.vm := by rw [hs']; rfl
  have hhp : s'.heap = H := by rw [hs']; exact hT
  have hW0 : s.WarmedH s'.vm := by rw [hvm]; exact State.WarmedH.refl s
  have hO' : aw_O G s' s'.heap := by
    rw [hhp]
    exact (hO.moved hW0).kept hS.2.1
  have hts' : ∀ w ∈ aw_T, w.before args s' = true := fun w hw => word_at hW0 (aw_good w hw) (hts w hw)
  have hat : ∀ w ∈ Bundle.ownAtoms M.1 ic cls names, w.before args s' = true := by
    intro w hw
    rcases w7 w hw with h9 | h9 | ⟨h9, h10⟩
    · simp only [ax_isN, Bool.or_eq_true, decide_eq_true_eq] at h9
      rcases h9 with ((rfl | rfl) | rfl) | rfl
      · exact hO'.2.2.1.ref
      · exact hO'.2.2.2.1.ref
      · exact hO'.2.2.1.lays
      · exact hO'.2.2.2.1.lays
    · exact hts' w h9
    · exact va_tabs h10 hvm.symm (hK.2.1 w h9)
  have hown' : s'.vm.findClass M.1 = some m.cls := by rw [hvm]; exact hown
  have hins : (Cond.instantiable cls 6).before args s' = true := hat _ (by simp [Bundle.ownAtoms])
  obtain ⟨vm₁, cX, kX, hfX, hkX, -, -, X₁, st1⟩ := Y.newCold hx (own := M.1) (C := cls) (index := ik) (n := 6) hown' (hts' _ w3) hins (hts' _ w4) (g := F0 m pc ls st) rfl (by rw [hb]; exact d0) (Nat.le_refl _) (Nat.le_refl _)
  generalize hT1 : (T.setVm vm₁).pushCell { cls := cX, slots := kX.instanceTypes.map defaultValue, vm := .none } = T1 at X₁ st1
  have hcellA : T1.heap[T.heap.size]? = some (freshCell cX kX) := by rw [← hT1]; exact State.heap_pushCell_size _ _
  obtain ⟨sa, hsr0⟩ := hK.2.2.2 _ w5
  have hsr : vk_R M.1 is text sa s' := vk_R.warm hW0 hsr0
  have hcat : (Value.ref T.heap.size).category = 1 := rfl
  have hsz : ls.size = c.maxLocals := hl.1.trans hml.symm
  have d3' : decode c.code (pc + 3) = .ok (.dup, 1) := by rw [hb]; exact d3
  have d4' : decode c.code (pc + 4) = .ok (.ldc is, 2) := by rw [hb]; exact d4
  obtain ⟨U, hsteps, hrun, hend, hW, hsame, ce, hce, hOc⟩ := X₁.ctorThrowS hx htr (own := M.1) (cls := cls) (names := names) (ic := ic) hown' w1 w2 hat (fun x hx9 => nomatch hx9) hfX hkX hcellA (by rw [hhp, hT]; exact Nat.le_refl _) (msg := .ref sa) rfl
    (g := { method := m, pc := pc + 6, locals := ls, stack := .ref sa :: .ref T.heap.size :: .ref T.heap.size :: st, locked := none }) rfl hsz rfl rfl (rest := st) rfl
    (by rw [hb]; exact d6) (by rw [hb]; exact d9) (by rw [htab]; exact hout) (by show names.length + 3 < R.frames; omega) (by show 2 * 0 + ((Value.ref T.heap.size :: st).map fun v => v.category).sum + (13 * (names.length + 1) + 42) ≤ R.locals; simp only [List.map_cons, List.sum_cons, hcat]; omega) hlk
  obtain ⟨f1, f2, f3⟩ := ax_same hsame
  rw [hhp] at f1 f2 f3
  have hlt : H.size < U.heap.size := by
    have := (Array.getElem?_eq_some_iff.mp hce).1
    rw [hT] at this
    exact this
  have hz : U.heap.size = H.size + 1 := by omega
  have hcls : s.vm.findClass cls = some ce.cls := by
    have h9 := hOc.cls
    rw [hvm] at h9
    exact h9
  have hall : s.sameButNew ({ U with vm := s.vm } : State) locs mc ms := by
    subst hs'
    obtain ⟨e1, e2⟩ := hsame
    rw [State.setFrames_setFrames] at e1
    have h5 : (T.setVm s.vm).sameButNew ({ U with vm := s.vm } : State) [] (0 + 1) (0 + 6) := ⟨e1, e2⟩
    have h6 := X.same.trans h5
    rw [List.append_nil] at h6
    exact h6.mono (by omega) (by omega)
  have eT : T.heap.size = G.1 + h.length := by rw [hT]; exact hR.2
  have hR' : ah_R G (h ++ [.inr (ci, [])]) U.heap := by
    refine hR.push hz f3 ⟨_, w6, ce, by rw [← eT]; exact hce, ?_, hOc.vm, fun k hk => absurd hk (Nat.not_lt_zero k)⟩
    exact Option.some.inj (hcls.symm.trans (hK.1.1 ci _ w6).2.1)
  refine ⟨U, ?_, .threw (G.1 + h.length), hrun, by rw [← eT]; exact hend, h ++ [.inr (ci, [])], locs, hR', State.WarmedH.trans hW0 hW, hall, aw_Sp hS (by omega) f3, Or.inr ⟨h.length, ci, rfl, by simp, hq⟩⟩
  refine st1 _ ?_
  show Steps p.tables e below (T1.setTop { method := m, pc := pc + 3, locals := ls, stack := .ref T.heap.size :: st, locked := none }) _
  jvm_step X₁.here [X₁.here.top, hx, d3', Value.category]
  exact X₁.ldcString hx (own := M.1) (text := text) (index := is) (a := sa) hown' hsr.1 hsr.2
    (g := { method := m, pc := pc + 4, locals := ls, stack := .ref T.heap.size :: .ref T.heap.size :: st, locked := none }) rfl d4' _ hsteps
end AXT
end
