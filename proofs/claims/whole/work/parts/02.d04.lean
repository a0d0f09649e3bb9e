/-! decode rows: printed by wip/whole/facts.py -/
theorem dd_se_takeSteps_0 : decode prog_5_method_6_code 0 = .ok (.aload_n 0, 1) := by decide +kernel
theorem dd_se_takeSteps_1 : decode prog_5_method_6_code 1 = .ok (.iload_n 1, 1) := by decide +kernel
theorem dd_se_takeSteps_2 : decode prog_5_method_6_code 2 = .ok (.invokevirtual 65, 3) := by decide +kernel
theorem dd_se_takeSteps_5 : decode prog_5_method_6_code 5 = .ok (.istore_n 2, 1) := by decide +kernel
theorem dd_se_takeSteps_6 : decode prog_5_method_6_code 6 = .ok (.iconst 0, 1) := by decide +kernel
theorem dd_se_takeSteps_7 : decode prog_5_method_6_code 7 = .ok (.istore_n 3, 1) := by decide +kernel
theorem dd_se_takeSteps_8 : decode prog_5_method_6_code 8 = .ok (.iload_n 3, 1) := by decide +kernel
theorem dd_se_takeSteps_9 : decode prog_5_method_6_code 9 = .ok (.aload_n 0, 1) := by decide +kernel
theorem dd_se_takeSteps_10 : decode prog_5_method_6_code 10 = .ok (.getfield 22, 3) := by decide +kernel
theorem dd_se_takeSteps_13 : decode prog_5_method_6_code 13 = .ok (.if_icmp .ge 110, 3) := by decide +kernel
theorem dd_se_takeSteps_16 : decode prog_5_method_6_code 16 = .ok (.aload_n 0, 1) := by decide +kernel
theorem dd_se_takeSteps_17 : decode prog_5_method_6_code 17 = .ok (.iload_n 1, 1) := by decide +kernel
theorem dd_se_takeSteps_18 : decode prog_5_method_6_code 18 = .ok (.iload_n 3, 1) := by decide +kernel
theorem dd_se_takeSteps_19 : decode prog_5_method_6_code 19 = .ok (.invokevirtual 68, 3) := by decide +kernel
theorem dd_se_takeSteps_22 : decode prog_5_method_6_code 22 = .ok (.istore 4, 2) := by decide +kernel
theorem dd_se_takeSteps_24 : decode prog_5_method_6_code 24 = .ok (.iconst 0, 1) := by decide +kernel
theorem dd_se_takeSteps_25 : decode prog_5_method_6_code 25 = .ok (.istore 5, 2) := by decide +kernel
theorem dd_se_takeSteps_27 : decode prog_5_method_6_code 27 = .ok (.iload 5, 2) := by decide +kernel
theorem dd_se_takeSteps_29 : decode prog_5_method_6_code 29 = .ok (.aload_n 0, 1) := by decide +kernel
theorem dd_se_takeSteps_30 : decode prog_5_method_6_code 30 = .ok (.getfield 9, 3) := by decide +kernel
theorem dd_se_takeSteps_33 : decode prog_5_method_6_code 33 = .ok (.getfield 71, 3) := by decide +kernel
theorem dd_se_takeSteps_36 : decode prog_5_method_6_code 36 = .ok (.if_icmp .ge 81, 3) := by decide +kernel
theorem dd_se_takeSteps_39 : decode prog_5_method_6_code 39 = .ok (.iload_n 1, 1) := by decide +kernel
theorem dd_se_takeSteps_40 : decode prog_5_method_6_code 40 = .ok (.iconst 1, 1) := by decide +kernel
theorem dd_se_takeSteps_41 : decode prog_5_method_6_code 41 = .ok (.aload_n 0, 1) := by decide +kernel
theorem dd_se_takeSteps_42 : decode prog_5_method_6_code 42 = .ok (.iload_n 3, 1) := by decide +kernel
theorem dd_se_takeSteps_43 : decode prog_5_method_6_code 43 = .ok (.iload 5, 2) := by decide +kernel
theorem dd_se_takeSteps_45 : decode prog_5_method_6_code 45 = .ok (.invokevirtual 52, 3) := by decide +kernel
theorem dd_se_takeSteps_48 : decode prog_5_method_6_code 48 = .ok (.ishl, 1) := by decide +kernel
theorem dd_se_takeSteps_49 : decode prog_5_method_6_code 49 = .ok (.ixor, 1) := by decide +kernel
theorem dd_se_takeSteps_50 : decode prog_5_method_6_code 50 = .ok (.istore 6, 2) := by decide +kernel
theorem dd_se_takeSteps_52 : decode prog_5_method_6_code 52 = .ok (.aload_n 0, 1) := by decide +kernel
theorem dd_se_takeSteps_53 : decode prog_5_method_6_code 53 = .ok (.getfield 19, 3) := by decide +kernel
theorem dd_se_takeSteps_56 : decode prog_5_method_6_code 56 = .ok (.iload 6, 2) := by decide +kernel
theorem dd_se_takeSteps_58 : decode prog_5_method_6_code 58 = .ok (.iaload, 1) := by decide +kernel
theorem dd_se_takeSteps_59 : decode prog_5_method_6_code 59 = .ok (.iconst (-1), 1) := by decide +kernel
theorem dd_se_takeSteps_60 : decode prog_5_method_6_code 60 = .ok (.if_icmp .ne 51, 3) := by decide +kernel
theorem dd_se_takeSteps_63 : decode prog_5_method_6_code 63 = .ok (.aload_n 0, 1) := by decide +kernel
theorem dd_se_takeSteps_64 : decode prog_5_method_6_code 64 = .ok (.iload_n 2, 1) := by decide +kernel
theorem dd_se_takeSteps_65 : decode prog_5_method_6_code 65 = .ok (.iload 4, 2) := by decide +kernel
theorem dd_se_takeSteps_67 : decode prog_5_method_6_code 67 = .ok (.iload 5, 2) := by decide +kernel
theorem dd_se_takeSteps_69 : decode prog_5_method_6_code 69 = .ok (.invokevirtual 76, 3) := by decide +kernel
theorem dd_se_takeSteps_72 : decode prog_5_method_6_code 72 = .ok (.ifCond .eq 39, 3) := by decide +kernel
theorem dd_se_takeSteps_75 : decode prog_5_method_6_code 75 = .ok (.iload 4, 2) := by decide +kernel
theorem dd_se_takeSteps_77 : decode prog_5_method_6_code 77 = .ok (.iload 5, 2) := by decide +kernel
theorem dd_se_takeSteps_79 : decode prog_5_method_6_code 79 = .ok (.invokestatic 37, 3) := by decide +kernel
theorem dd_se_takeSteps_82 : decode prog_5_method_6_code 82 = .ok (.ifCond .eq 7, 3) := by decide +kernel
theorem dd_se_takeSteps_85 : decode prog_5_method_6_code 85 = .ok (.iconst 1, 1) := by decide +kernel
theorem dd_se_takeSteps_86 : decode prog_5_method_6_code 86 = .ok (.goto 4, 3) := by decide +kernel
theorem dd_se_takeSteps_89 : decode prog_5_method_6_code 89 = .ok (.iconst 0, 1) := by decide +kernel
theorem dd_se_takeSteps_90 : decode prog_5_method_6_code 90 = .ok (.istore 7, 2) := by decide +kernel
theorem dd_se_takeSteps_92 : decode prog_5_method_6_code 92 = .ok (.aload_n 0, 1) := by decide +kernel
theorem dd_se_takeSteps_93 : decode prog_5_method_6_code 93 = .ok (.iload 6, 2) := by decide +kernel
theorem dd_se_takeSteps_95 : decode prog_5_method_6_code 95 = .ok (.bipush 100, 2) := by decide +kernel
theorem dd_se_takeSteps_97 : decode prog_5_method_6_code 97 = .ok (.iload_n 3, 1) := by decide +kernel
theorem dd_se_takeSteps_98 : decode prog_5_method_6_code 98 = .ok (.imul, 1) := by decide +kernel
theorem dd_se_takeSteps_99 : decode prog_5_method_6_code 99 = .ok (.bipush 10, 2) := by decide +kernel
theorem dd_se_takeSteps_101 : decode prog_5_method_6_code 101 = .ok (.iload 5, 2) := by decide +kernel
theorem dd_se_takeSteps_103 : decode prog_5_method_6_code 103 = .ok (.imul, 1) := by decide +kernel
theorem dd_se_takeSteps_104 : decode prog_5_method_6_code 104 = .ok (.iadd, 1) := by decide +kernel
theorem dd_se_takeSteps_105 : decode prog_5_method_6_code 105 = .ok (.iload 7, 2) := by decide +kernel
theorem dd_se_takeSteps_107 : decode prog_5_method_6_code 107 = .ok (.iadd, 1) := by decide +kernel
theorem dd_se_takeSteps_108 : decode prog_5_method_6_code 108 = .ok (.invokevirtual 61, 3) := by decide +kernel
theorem dd_se_takeSteps_111 : decode prog_5_method_6_code 111 = .ok (.iinc 5 1, 3) := by decide +kernel
theorem dd_se_takeSteps_114 : decode prog_5_method_6_code 114 = .ok (.goto (-87), 3) := by decide +kernel
theorem dd_se_takeSteps_117 : decode prog_5_method_6_code 117 = .ok (.iinc 3 1, 3) := by decide +kernel
theorem dd_se_takeSteps_120 : decode prog_5_method_6_code 120 = .ok (.goto (-112), 3) := by decide +kernel
theorem dd_se_takeSteps_123 : decode prog_5_method_6_code 123 = .ok (.return_, 1) := by decide +kernel
theorem dd_se_authorizedOfAll_0 : decode prog_5_method_10_code 0 = .ok (.iconst 0, 1) := by decide +kernel
theorem dd_se_authorizedOfAll_1 : decode prog_5_method_10_code 1 = .ok (.istore_n 2, 1) := by decide +kernel
theorem dd_se_authorizedOfAll_2 : decode prog_5_method_10_code 2 = .ok (.iconst 0, 1) := by decide +kernel
theorem dd_se_authorizedOfAll_3 : decode prog_5_method_10_code 3 = .ok (.istore_n 3, 1) := by decide +kernel
theorem dd_se_authorizedOfAll_4 : decode prog_5_method_10_code 4 = .ok (.iload_n 3, 1) := by decide +kernel
theorem dd_se_authorizedOfAll_5 : decode prog_5_method_10_code 5 = .ok (.aload_n 0, 1) := by decide +kernel
theorem dd_se_authorizedOfAll_6 : decode prog_5_method_10_code 6 = .ok (.getfield 22, 3) := by decide +kernel
theorem dd_se_authorizedOfAll_9 : decode prog_5_method_10_code 9 = .ok (.if_icmp .ge 18, 3) := by decide +kernel
theorem dd_se_authorizedOfAll_12 : decode prog_5_method_10_code 12 = .ok (.iload_n 2, 1) := by decide +kernel
theorem dd_se_authorizedOfAll_13 : decode prog_5_method_10_code 13 = .ok (.aload_n 0, 1) := by decide +kernel
theorem dd_se_authorizedOfAll_14 : decode prog_5_method_10_code 14 = .ok (.iload_n 1, 1) := by decide +kernel
theorem dd_se_authorizedOfAll_15 : decode prog_5_method_10_code 15 = .ok (.iload_n 3, 1) := by decide +kernel
theorem dd_se_authorizedOfAll_16 : decode prog_5_method_10_code 16 = .ok (.invokevirtual 33, 3) := by decide +kernel
theorem dd_se_authorizedOfAll_19 : decode prog_5_method_10_code 19 = .ok (.ior, 1) := by decide +kernel
theorem dd_se_authorizedOfAll_20 : decode prog_5_method_10_code 20 = .ok (.istore_n 2, 1) := by decide +kernel
theorem dd_se_authorizedOfAll_21 : decode prog_5_method_10_code 21 = .ok (.iinc 3 1, 3) := by decide +kernel
theorem dd_se_authorizedOfAll_24 : decode prog_5_method_10_code 24 = .ok (.goto (-20), 3) := by decide +kernel
theorem dd_se_authorizedOfAll_27 : decode prog_5_method_10_code 27 = .ok (.iload_n 2, 1) := by decide +kernel
theorem dd_se_authorizedOfAll_28 : decode prog_5_method_10_code 28 = .ok (.ireturn, 1) := by decide +kernel
theorem dd_se_isStep_0 : decode prog_5_method_7_code 0 = .ok (.iload_n 2, 1) := by decide +kernel
theorem dd_se_isStep_1 : decode prog_5_method_7_code 1 = .ok (.iload_n 3, 1) := by decide +kernel
theorem dd_se_isStep_2 : decode prog_5_method_7_code 2 = .ok (.invokestatic 37, 3) := by decide +kernel
theorem dd_se_isStep_5 : decode prog_5_method_7_code 5 = .ok (.ifCond .eq 23, 3) := by decide +kernel
theorem dd_se_isStep_8 : decode prog_5_method_7_code 8 = .ok (.aload_n 0, 1) := by decide +kernel
theorem dd_se_isStep_9 : decode prog_5_method_7_code 9 = .ok (.getfield 9, 3) := by decide +kernel
theorem dd_se_isStep_12 : decode prog_5_method_7_code 12 = .ok (.iconst 0, 1) := by decide +kernel
theorem dd_se_isStep_13 : decode prog_5_method_7_code 13 = .ok (.iload_n 1, 1) := by decide +kernel
theorem dd_se_isStep_14 : decode prog_5_method_7_code 14 = .ok (.aload_n 0, 1) := by decide +kernel
theorem dd_se_isStep_15 : decode prog_5_method_7_code 15 = .ok (.getfield 9, 3) := by decide +kernel
theorem dd_se_isStep_18 : decode prog_5_method_7_code 18 = .ok (.getfield 80, 3) := by decide +kernel
theorem dd_se_isStep_21 : decode prog_5_method_7_code 21 = .ok (.iload_n 2, 1) := by decide +kernel
theorem dd_se_isStep_22 : decode prog_5_method_7_code 22 = .ok (.iaload, 1) := by decide +kernel
theorem dd_se_isStep_23 : decode prog_5_method_7_code 23 = .ok (.iload_n 3, 1) := by decide +kernel
theorem dd_se_isStep_24 : decode prog_5_method_7_code 24 = .ok (.invokevirtual 83, 3) := by decide +kernel
theorem dd_se_isStep_27 : decode prog_5_method_7_code 27 = .ok (.ireturn, 1) := by decide +kernel
theorem dd_se_isStep_28 : decode prog_5_method_7_code 28 = .ok (.aload_n 0, 1) := by decide +kernel
theorem dd_se_isStep_29 : decode prog_5_method_7_code 29 = .ok (.getfield 9, 3) := by decide +kernel
theorem dd_se_isStep_32 : decode prog_5_method_7_code 32 = .ok (.iconst 1, 1) := by decide +kernel
theorem dd_se_isStep_33 : decode prog_5_method_7_code 33 = .ok (.iload_n 1, 1) := by decide +kernel
theorem dd_se_isStep_34 : decode prog_5_method_7_code 34 = .ok (.aload_n 0, 1) := by decide +kernel
theorem dd_se_isStep_35 : decode prog_5_method_7_code 35 = .ok (.getfield 9, 3) := by decide +kernel
theorem dd_se_isStep_38 : decode prog_5_method_7_code 38 = .ok (.getfield 80, 3) := by decide +kernel
theorem dd_se_isStep_41 : decode prog_5_method_7_code 41 = .ok (.iload_n 2, 1) := by decide +kernel
theorem dd_se_isStep_42 : decode prog_5_method_7_code 42 = .ok (.iaload, 1) := by decide +kernel
theorem dd_se_isStep_43 : decode prog_5_method_7_code 43 = .ok (.iload_n 3, 1) := by decide +kernel
theorem dd_se_isStep_44 : decode prog_5_method_7_code 44 = .ok (.invokevirtual 83, 3) := by decide +kernel
theorem dd_se_isStep_47 : decode prog_5_method_7_code 47 = .ok (.ifCond .eq 33, 3) := by decide +kernel
theorem dd_se_isStep_50 : decode prog_5_method_7_code 50 = .ok (.aload_n 0, 1) := by decide +kernel
theorem dd_se_isStep_51 : decode prog_5_method_7_code 51 = .ok (.getfield 9, 3) := by decide +kernel
theorem dd_se_isStep_54 : decode prog_5_method_7_code 54 = .ok (.getfield 87, 3) := by decide +kernel
theorem dd_se_isStep_57 : decode prog_5_method_7_code 57 = .ok (.aload_n 0, 1) := by decide +kernel
theorem dd_se_isStep_58 : decode prog_5_method_7_code 58 = .ok (.getfield 9, 3) := by decide +kernel
theorem dd_se_isStep_61 : decode prog_5_method_7_code 61 = .ok (.getfield 80, 3) := by decide +kernel
theorem dd_se_isStep_64 : decode prog_5_method_7_code 64 = .ok (.iload_n 2, 1) := by decide +kernel
theorem dd_se_isStep_65 : decode prog_5_method_7_code 65 = .ok (.iconst 1, 1) := by decide +kernel
theorem dd_se_isStep_66 : decode prog_5_method_7_code 66 = .ok (.iload_n 3, 1) := by decide +kernel
theorem dd_se_isStep_67 : decode prog_5_method_7_code 67 = .ok (.ishl, 1) := by decide +kernel
theorem dd_se_isStep_68 : decode prog_5_method_7_code 68 = .ok (.ior, 1) := by decide +kernel
theorem dd_se_isStep_69 : decode prog_5_method_7_code 69 = .ok (.iaload, 1) := by decide +kernel
theorem dd_se_isStep_70 : decode prog_5_method_7_code 70 = .ok (.invokestatic 91, 3) := by decide +kernel
theorem dd_se_isStep_73 : decode prog_5_method_7_code 73 = .ok (.ifCond .eq 7, 3) := by decide +kernel
theorem dd_se_isStep_76 : decode prog_5_method_7_code 76 = .ok (.iconst 1, 1) := by decide +kernel
theorem dd_se_isStep_77 : decode prog_5_method_7_code 77 = .ok (.goto 4, 3) := by decide +kernel
theorem dd_se_isStep_80 : decode prog_5_method_7_code 80 = .ok (.iconst 0, 1) := by decide +kernel
theorem dd_se_isStep_81 : decode prog_5_method_7_code 81 = .ok (.ireturn, 1) := by decide +kernel
theorem dd_se_stepsTo_0 : decode prog_5_method_3_code 0 = .ok (.iconst 0, 1) := by decide +kernel
theorem dd_se_stepsTo_1 : decode prog_5_method_3_code 1 = .ok (.istore_n 2, 1) := by decide +kernel
theorem dd_se_stepsTo_2 : decode prog_5_method_3_code 2 = .ok (.iload_n 1, 1) := by decide +kernel
theorem dd_se_stepsTo_3 : decode prog_5_method_3_code 3 = .ok (.istore_n 3, 1) := by decide +kernel
theorem dd_se_stepsTo_4 : decode prog_5_method_3_code 4 = .ok (.aload_n 0, 1) := by decide +kernel
theorem dd_se_stepsTo_5 : decode prog_5_method_3_code 5 = .ok (.getfield 19, 3) := by decide +kernel
theorem dd_se_stepsTo_8 : decode prog_5_method_3_code 8 = .ok (.iload_n 3, 1) := by decide +kernel
theorem dd_se_stepsTo_9 : decode prog_5_method_3_code 9 = .ok (.iaload, 1) := by decide +kernel
theorem dd_se_stepsTo_10 : decode prog_5_method_3_code 10 = .ok (.ifCond .lt 22, 3) := by decide +kernel
theorem dd_se_stepsTo_13 : decode prog_5_method_3_code 13 = .ok (.iload_n 2, 1) := by decide +kernel
theorem dd_se_stepsTo_14 : decode prog_5_method_3_code 14 = .ok (.sipush 4096, 3) := by decide +kernel
theorem dd_se_stepsTo_17 : decode prog_5_method_3_code 17 = .ok (.if_icmp .ge 15, 3) := by decide +kernel
theorem dd_se_stepsTo_20 : decode prog_5_method_3_code 20 = .ok (.aload_n 0, 1) := by decide +kernel
theorem dd_se_stepsTo_21 : decode prog_5_method_3_code 21 = .ok (.iload_n 3, 1) := by decide +kernel
theorem dd_se_stepsTo_22 : decode prog_5_method_3_code 22 = .ok (.invokevirtual 45, 3) := by decide +kernel
theorem dd_se_stepsTo_25 : decode prog_5_method_3_code 25 = .ok (.istore_n 3, 1) := by decide +kernel
theorem dd_se_stepsTo_26 : decode prog_5_method_3_code 26 = .ok (.iinc 2 1, 3) := by decide +kernel
theorem dd_se_stepsTo_29 : decode prog_5_method_3_code 29 = .ok (.goto (-25), 3) := by decide +kernel
theorem dd_se_stepsTo_32 : decode prog_5_method_3_code 32 = .ok (.iload_n 2, 1) := by decide +kernel
theorem dd_se_stepsTo_33 : decode prog_5_method_3_code 33 = .ok (.ireturn, 1) := by decide +kernel
theorem dd_se_stateBefore_0 : decode prog_5_method_9_code 0 = .ok (.aload_n 0, 1) := by decide +kernel
theorem dd_se_stateBefore_1 : decode prog_5_method_9_code 1 = .ok (.getfield 19, 3) := by decide +kernel
theorem dd_se_stateBefore_4 : decode prog_5_method_9_code 4 = .ok (.iload_n 1, 1) := by decide +kernel
theorem dd_se_stateBefore_5 : decode prog_5_method_9_code 5 = .ok (.iaload, 1) := by decide +kernel
theorem dd_se_stateBefore_6 : decode prog_5_method_9_code 6 = .ok (.istore_n 2, 1) := by decide +kernel
theorem dd_se_stateBefore_7 : decode prog_5_method_9_code 7 = .ok (.iload_n 1, 1) := by decide +kernel
theorem dd_se_stateBefore_8 : decode prog_5_method_9_code 8 = .ok (.iconst 1, 1) := by decide +kernel
theorem dd_se_stateBefore_9 : decode prog_5_method_9_code 9 = .ok (.aload_n 0, 1) := by decide +kernel
theorem dd_se_stateBefore_10 : decode prog_5_method_9_code 10 = .ok (.iload_n 2, 1) := by decide +kernel
theorem dd_se_stateBefore_11 : decode prog_5_method_9_code 11 = .ok (.bipush 100, 2) := by decide +kernel
theorem dd_se_stateBefore_13 : decode prog_5_method_9_code 13 = .ok (.idiv, 1) := by decide +kernel
theorem dd_se_stateBefore_14 : decode prog_5_method_9_code 14 = .ok (.iload_n 2, 1) := by decide +kernel
theorem dd_se_stateBefore_15 : decode prog_5_method_9_code 15 = .ok (.bipush 100, 2) := by decide +kernel
theorem dd_se_stateBefore_17 : decode prog_5_method_9_code 17 = .ok (.irem, 1) := by decide +kernel
theorem dd_se_stateBefore_18 : decode prog_5_method_9_code 18 = .ok (.bipush 10, 2) := by decide +kernel
theorem dd_se_stateBefore_20 : decode prog_5_method_9_code 20 = .ok (.idiv, 1) := by decide +kernel
theorem dd_se_stateBefore_21 : decode prog_5_method_9_code 21 = .ok (.invokevirtual 52, 3) := by decide +kernel
theorem dd_se_stateBefore_24 : decode prog_5_method_9_code 24 = .ok (.ishl, 1) := by decide +kernel
theorem dd_se_stateBefore_25 : decode prog_5_method_9_code 25 = .ok (.ixor, 1) := by decide +kernel
theorem dd_se_stateBefore_26 : decode prog_5_method_9_code 26 = .ok (.ireturn, 1) := by decide +kernel
theorem dd_lw_plan_0 : decode method_22_code 0 = .ok (.aload 4, 2) := by decide +kernel
theorem dd_lw_plan_2 : decode method_22_code 2 = .ok (.iconst 0, 1) := by decide +kernel
theorem dd_lw_plan_3 : decode method_22_code 3 = .ok (.aload_n 0, 1) := by decide +kernel
theorem dd_lw_plan_4 : decode method_22_code 4 = .ok (.iload_n 1, 1) := by decide +kernel
theorem dd_lw_plan_5 : decode method_22_code 5 = .ok (.iload_n 2, 1) := by decide +kernel
theorem dd_lw_plan_6 : decode method_22_code 6 = .ok (.iload_n 3, 1) := by decide +kernel
theorem dd_lw_plan_7 : decode method_22_code 7 = .ok (.invokevirtual 83, 3) := by decide +kernel
theorem dd_lw_plan_10 : decode method_22_code 10 = .ok (.i2l, 1) := by decide +kernel
theorem dd_lw_plan_11 : decode method_22_code 11 = .ok (.lastore, 1) := by decide +kernel
theorem dd_lw_plan_12 : decode method_22_code 12 = .ok (.goto 15, 3) := by decide +kernel
theorem dd_lw_plan_15 : decode method_22_code 15 = .ok (.astore 5, 2) := by decide +kernel
theorem dd_lw_plan_17 : decode method_22_code 17 = .ok (.iconst 1, 1) := by decide +kernel
theorem dd_lw_plan_18 : decode method_22_code 18 = .ok (.ireturn, 1) := by decide +kernel
theorem dd_lw_plan_19 : decode method_22_code 19 = .ok (.astore 5, 2) := by decide +kernel
theorem dd_lw_plan_21 : decode method_22_code 21 = .ok (.iconst 2, 1) := by decide +kernel
theorem dd_lw_plan_22 : decode method_22_code 22 = .ok (.ireturn, 1) := by decide +kernel
theorem dd_lw_plan_23 : decode method_22_code 23 = .ok (.astore 5, 2) := by decide +kernel
theorem dd_lw_plan_25 : decode method_22_code 25 = .ok (.iconst 3, 1) := by decide +kernel
theorem dd_lw_plan_26 : decode method_22_code 26 = .ok (.ireturn, 1) := by decide +kernel
theorem dd_lw_plan_27 : decode method_22_code 27 = .ok (.iconst 0, 1) := by decide +kernel
theorem dd_lw_plan_28 : decode method_22_code 28 = .ok (.ireturn, 1) := by decide +kernel
theorem dd_ra_plan_0 : decode prog_1_method_21_code 0 = .ok (.aload_n 0, 1) := by decide +kernel
theorem dd_ra_plan_1 : decode prog_1_method_21_code 1 = .ok (.iload_n 1, 1) := by decide +kernel
theorem dd_ra_plan_2 : decode prog_1_method_21_code 2 = .ok (.iload_n 2, 1) := by decide +kernel
theorem dd_ra_plan_3 : decode prog_1_method_21_code 3 = .ok (.invokevirtual 175, 3) := by decide +kernel
theorem dd_ra_plan_6 : decode prog_1_method_21_code 6 = .ok (.aload_n 0, 1) := by decide +kernel
theorem dd_ra_plan_7 : decode prog_1_method_21_code 7 = .ok (.getfield 21, 3) := by decide +kernel
theorem dd_ra_plan_10 : decode prog_1_method_21_code 10 = .ok (.aload_n 0, 1) := by decide +kernel
theorem dd_ra_plan_11 : decode prog_1_method_21_code 11 = .ok (.getfield 25, 3) := by decide +kernel
theorem dd_ra_plan_14 : decode prog_1_method_21_code 14 = .ok (.aload_n 0, 1) := by decide +kernel
theorem dd_ra_plan_15 : decode prog_1_method_21_code 15 = .ok (.getfield 55, 3) := by decide +kernel
theorem dd_ra_plan_18 : decode prog_1_method_21_code 18 = .ok (.iload_n 1, 1) := by decide +kernel
theorem dd_ra_plan_19 : decode prog_1_method_21_code 19 = .ok (.iload_n 2, 1) := by decide +kernel
theorem dd_ra_plan_20 : decode prog_1_method_21_code 20 = .ok (.invokevirtual 178, 3) := by decide +kernel
theorem dd_ra_plan_23 : decode prog_1_method_21_code 23 = .ok (.istore 4, 2) := by decide +kernel
theorem dd_ra_plan_25 : decode prog_1_method_21_code 25 = .ok (.iload 4, 2) := by decide +kernel
theorem dd_ra_plan_27 : decode prog_1_method_21_code 27 = .ok (.iconst (-1), 1) := by decide +kernel
theorem dd_ra_plan_28 : decode prog_1_method_21_code 28 = .ok (.if_icmp .ne 13, 3) := by decide +kernel
theorem dd_ra_plan_31 : decode prog_1_method_21_code 31 = .ok (.new 48, 3) := by decide +kernel
theorem dd_ra_plan_34 : decode prog_1_method_21_code 34 = .ok (.dup, 1) := by decide +kernel
theorem dd_ra_plan_35 : decode prog_1_method_21_code 35 = .ok (.ldc 185, 2) := by decide +kernel
theorem dd_ra_plan_37 : decode prog_1_method_21_code 37 = .ok (.invokespecial 52, 3) := by decide +kernel
theorem dd_ra_plan_40 : decode prog_1_method_21_code 40 = .ok (.athrow, 1) := by decide +kernel
theorem dd_ra_plan_41 : decode prog_1_method_21_code 41 = .ok (.aload_n 0, 1) := by decide +kernel
theorem dd_ra_plan_42 : decode prog_1_method_21_code 42 = .ok (.getfield 21, 3) := by decide +kernel
theorem dd_ra_plan_45 : decode prog_1_method_21_code 45 = .ok (.iload 4, 2) := by decide +kernel
theorem dd_ra_plan_47 : decode prog_1_method_21_code 47 = .ok (.iload_n 3, 1) := by decide +kernel
theorem dd_ra_plan_48 : decode prog_1_method_21_code 48 = .ok (.invokevirtual 187, 3) := by decide +kernel
theorem dd_ra_plan_51 : decode prog_1_method_21_code 51 = .ok (.ireturn, 1) := by decide +kernel
theorem dd_se_stepCode_0 : decode prog_5_method_4_code 0 = .ok (.aload_n 0, 1) := by decide +kernel
theorem dd_se_stepCode_1 : decode prog_5_method_4_code 1 = .ok (.iload_n 1, 1) := by decide +kernel
theorem dd_se_stepCode_2 : decode prog_5_method_4_code 2 = .ok (.invokevirtual 49, 3) := by decide +kernel
theorem dd_se_stepCode_5 : decode prog_5_method_4_code 5 = .ok (.istore_n 3, 1) := by decide +kernel
theorem dd_se_stepCode_6 : decode prog_5_method_4_code 6 = .ok (.iload_n 2, 1) := by decide +kernel
theorem dd_se_stepCode_7 : decode prog_5_method_4_code 7 = .ok (.ifCond .lt 8, 3) := by decide +kernel
theorem dd_se_stepCode_10 : decode prog_5_method_4_code 10 = .ok (.iload_n 2, 1) := by decide +kernel
theorem dd_se_stepCode_11 : decode prog_5_method_4_code 11 = .ok (.iload_n 3, 1) := by decide +kernel
theorem dd_se_stepCode_12 : decode prog_5_method_4_code 12 = .ok (.if_icmp .lt 5, 3) := by decide +kernel
theorem dd_se_stepCode_15 : decode prog_5_method_4_code 15 = .ok (.iconst (-1), 1) := by decide +kernel
theorem dd_se_stepCode_16 : decode prog_5_method_4_code 16 = .ok (.ireturn, 1) := by decide +kernel
theorem dd_se_stepCode_17 : decode prog_5_method_4_code 17 = .ok (.iload_n 1, 1) := by decide +kernel
theorem dd_se_stepCode_18 : decode prog_5_method_4_code 18 = .ok (.istore 4, 2) := by decide +kernel
theorem dd_se_stepCode_20 : decode prog_5_method_4_code 20 = .ok (.iload_n 3, 1) := by decide +kernel
theorem dd_se_stepCode_21 : decode prog_5_method_4_code 21 = .ok (.iconst 1, 1) := by decide +kernel
theorem dd_se_stepCode_22 : decode prog_5_method_4_code 22 = .ok (.isub, 1) := by decide +kernel
theorem dd_se_stepCode_23 : decode prog_5_method_4_code 23 = .ok (.istore 5, 2) := by decide +kernel
theorem dd_se_stepCode_25 : decode prog_5_method_4_code 25 = .ok (.iload 5, 2) := by decide +kernel
theorem dd_se_stepCode_27 : decode prog_5_method_4_code 27 = .ok (.iload_n 2, 1) := by decide +kernel
theorem dd_se_stepCode_28 : decode prog_5_method_4_code 28 = .ok (.if_icmp .le 17, 3) := by decide +kernel
theorem dd_se_stepCode_31 : decode prog_5_method_4_code 31 = .ok (.aload_n 0, 1) := by decide +kernel
theorem dd_se_stepCode_32 : decode prog_5_method_4_code 32 = .ok (.iload 4, 2) := by decide +kernel
theorem dd_se_stepCode_34 : decode prog_5_method_4_code 34 = .ok (.invokevirtual 45, 3) := by decide +kernel
theorem dd_se_stepCode_37 : decode prog_5_method_4_code 37 = .ok (.istore 4, 2) := by decide +kernel
theorem dd_se_stepCode_39 : decode prog_5_method_4_code 39 = .ok (.iinc 5 (-1), 3) := by decide +kernel
theorem dd_se_stepCode_42 : decode prog_5_method_4_code 42 = .ok (.goto (-17), 3) := by decide +kernel
theorem dd_se_stepCode_45 : decode prog_5_method_4_code 45 = .ok (.aload_n 0, 1) := by decide +kernel
theorem dd_se_stepCode_46 : decode prog_5_method_4_code 46 = .ok (.getfield 19, 3) := by decide +kernel
theorem dd_se_stepCode_49 : decode prog_5_method_4_code 49 = .ok (.iload 4, 2) := by decide +kernel
theorem dd_se_stepCode_51 : decode prog_5_method_4_code 51 = .ok (.iaload, 1) := by decide +kernel
theorem dd_se_stepCode_52 : decode prog_5_method_4_code 52 = .ok (.ireturn, 1) := by decide +kernel
theorem dd_mo_init_0 : decode prog_7_method_1_code 0 = .ok (.aload_n 0, 1) := by decide +kernel
theorem dd_mo_init_1 : decode prog_7_method_1_code 1 = .ok (.invokespecial 1, 3) := by decide +kernel
theorem dd_mo_init_4 : decode prog_7_method_1_code 4 = .ok (.aload_n 0, 1) := by decide +kernel
theorem dd_mo_init_5 : decode prog_7_method_1_code 5 = .ok (.bipush 6, 2) := by decide +kernel
theorem dd_mo_init_7 : decode prog_7_method_1_code 7 = .ok (.newarray .int, 2) := by decide +kernel
theorem dd_mo_init_9 : decode prog_7_method_1_code 9 = .ok (.putfield 7, 3) := by decide +kernel
theorem dd_mo_init_12 : decode prog_7_method_1_code 12 = .ok (.aload_n 0, 1) := by decide +kernel
theorem dd_mo_init_13 : decode prog_7_method_1_code 13 = .ok (.bipush 6, 2) := by decide +kernel
theorem dd_mo_init_15 : decode prog_7_method_1_code 15 = .ok (.newarray .int, 2) := by decide +kernel
theorem dd_mo_init_17 : decode prog_7_method_1_code 17 = .ok (.putfield 13, 3) := by decide +kernel
theorem dd_mo_init_20 : decode prog_7_method_1_code 20 = .ok (.aload_n 0, 1) := by decide +kernel
theorem dd_mo_init_21 : decode prog_7_method_1_code 21 = .ok (.bipush 6, 2) := by decide +kernel
theorem dd_mo_init_23 : decode prog_7_method_1_code 23 = .ok (.newarray .int, 2) := by decide +kernel
theorem dd_mo_init_25 : decode prog_7_method_1_code 25 = .ok (.putfield 16, 3) := by decide +kernel
theorem dd_mo_init_28 : decode prog_7_method_1_code 28 = .ok (.aload_n 0, 1) := by decide +kernel
theorem dd_mo_init_29 : decode prog_7_method_1_code 29 = .ok (.iconst 5, 1) := by decide +kernel
theorem dd_mo_init_30 : decode prog_7_method_1_code 30 = .ok (.newarray .int, 2) := by decide +kernel
theorem dd_mo_init_32 : decode prog_7_method_1_code 32 = .ok (.putfield 19, 3) := by decide +kernel
theorem dd_mo_init_35 : decode prog_7_method_1_code 35 = .ok (.aload_n 0, 1) := by decide +kernel
theorem dd_mo_init_36 : decode prog_7_method_1_code 36 = .ok (.iconst 2, 1) := by decide +kernel
theorem dd_mo_init_37 : decode prog_7_method_1_code 37 = .ok (.newarray .int, 2) := by decide +kernel
theorem dd_mo_init_39 : decode prog_7_method_1_code 39 = .ok (.putfield 22, 3) := by decide +kernel
theorem dd_mo_init_42 : decode prog_7_method_1_code 42 = .ok (.aload_n 0, 1) := by decide +kernel
theorem dd_mo_init_43 : decode prog_7_method_1_code 43 = .ok (.bipush 8, 2) := by decide +kernel
theorem dd_mo_init_45 : decode prog_7_method_1_code 45 = .ok (.newarray .int, 2) := by decide +kernel
theorem dd_mo_init_47 : decode prog_7_method_1_code 47 = .ok (.putfield 25, 3) := by decide +kernel
theorem dd_mo_init_50 : decode prog_7_method_1_code 50 = .ok (.aload_n 0, 1) := by decide +kernel
theorem dd_mo_init_51 : decode prog_7_method_1_code 51 = .ok (.bipush 8, 2) := by decide +kernel
theorem dd_mo_init_53 : decode prog_7_method_1_code 53 = .ok (.newarray .int, 2) := by decide +kernel
theorem dd_mo_init_55 : decode prog_7_method_1_code 55 = .ok (.putfield 28, 3) := by decide +kernel
theorem dd_mo_init_58 : decode prog_7_method_1_code 58 = .ok (.aload_n 0, 1) := by decide +kernel
theorem dd_mo_init_59 : decode prog_7_method_1_code 59 = .ok (.iconst 4, 1) := by decide +kernel
theorem dd_mo_init_60 : decode prog_7_method_1_code 60 = .ok (.newarray .boolean, 2) := by decide +kernel
theorem dd_mo_init_62 : decode prog_7_method_1_code 62 = .ok (.putfield 31, 3) := by decide +kernel
theorem dd_mo_init_65 : decode prog_7_method_1_code 65 = .ok (.aload_n 0, 1) := by decide +kernel
theorem dd_mo_init_66 : decode prog_7_method_1_code 66 = .ok (.iconst 4, 1) := by decide +kernel
theorem dd_mo_init_67 : decode prog_7_method_1_code 67 = .ok (.newarray .int, 2) := by decide +kernel
theorem dd_mo_init_69 : decode prog_7_method_1_code 69 = .ok (.putfield 35, 3) := by decide +kernel
theorem dd_mo_init_72 : decode prog_7_method_1_code 72 = .ok (.aload_n 0, 1) := by decide +kernel
theorem dd_mo_init_73 : decode prog_7_method_1_code 73 = .ok (.iconst 4, 1) := by decide +kernel
theorem dd_mo_init_74 : decode prog_7_method_1_code 74 = .ok (.newarray .int, 2) := by decide +kernel
theorem dd_mo_init_76 : decode prog_7_method_1_code 76 = .ok (.putfield 38, 3) := by decide +kernel
theorem dd_mo_init_79 : decode prog_7_method_1_code 79 = .ok (.aload_n 0, 1) := by decide +kernel
theorem dd_mo_init_80 : decode prog_7_method_1_code 80 = .ok (.bipush 8, 2) := by decide +kernel
theorem dd_mo_init_82 : decode prog_7_method_1_code 82 = .ok (.newarray .boolean, 2) := by decide +kernel
theorem dd_mo_init_84 : decode prog_7_method_1_code 84 = .ok (.putfield 41, 3) := by decide +kernel
theorem dd_mo_init_87 : decode prog_7_method_1_code 87 = .ok (.aload_n 0, 1) := by decide +kernel
theorem dd_mo_init_88 : decode prog_7_method_1_code 88 = .ok (.bipush 8, 2) := by decide +kernel
theorem dd_mo_init_90 : decode prog_7_method_1_code 90 = .ok (.newarray .int, 2) := by decide +kernel
theorem dd_mo_init_92 : decode prog_7_method_1_code 92 = .ok (.putfield 44, 3) := by decide +kernel
theorem dd_mo_init_95 : decode prog_7_method_1_code 95 = .ok (.aload_n 0, 1) := by decide +kernel
theorem dd_mo_init_96 : decode prog_7_method_1_code 96 = .ok (.bipush 8, 2) := by decide +kernel
theorem dd_mo_init_98 : decode prog_7_method_1_code 98 = .ok (.newarray .int, 2) := by decide +kernel
theorem dd_mo_init_100 : decode prog_7_method_1_code 100 = .ok (.putfield 47, 3) := by decide +kernel
theorem dd_mo_init_103 : decode prog_7_method_1_code 103 = .ok (.aload_n 0, 1) := by decide +kernel
theorem dd_mo_init_104 : decode prog_7_method_1_code 104 = .ok (.bipush 8, 2) := by decide +kernel
theorem dd_mo_init_106 : decode prog_7_method_1_code 106 = .ok (.newarray .int, 2) := by decide +kernel
theorem dd_mo_init_108 : decode prog_7_method_1_code 108 = .ok (.putfield 50, 3) := by decide +kernel
theorem dd_mo_init_111 : decode prog_7_method_1_code 111 = .ok (.aload_n 0, 1) := by decide +kernel
theorem dd_mo_init_112 : decode prog_7_method_1_code 112 = .ok (.bipush 8, 2) := by decide +kernel
theorem dd_mo_init_114 : decode prog_7_method_1_code 114 = .ok (.newarray .int, 2) := by decide +kernel
theorem dd_mo_init_116 : decode prog_7_method_1_code 116 = .ok (.putfield 53, 3) := by decide +kernel
theorem dd_mo_init_119 : decode prog_7_method_1_code 119 = .ok (.aload_n 0, 1) := by decide +kernel
theorem dd_mo_init_120 : decode prog_7_method_1_code 120 = .ok (.sipush 4096, 3) := by decide +kernel
theorem dd_mo_init_123 : decode prog_7_method_1_code 123 = .ok (.newarray .int, 2) := by decide +kernel
theorem dd_mo_init_125 : decode prog_7_method_1_code 125 = .ok (.putfield 56, 3) := by decide +kernel
theorem dd_mo_init_128 : decode prog_7_method_1_code 128 = .ok (.aload_n 0, 1) := by decide +kernel
theorem dd_mo_init_129 : decode prog_7_method_1_code 129 = .ok (.sipush 4096, 3) := by decide +kernel
theorem dd_mo_init_132 : decode prog_7_method_1_code 132 = .ok (.newarray .boolean, 2) := by decide +kernel
theorem dd_mo_init_134 : decode prog_7_method_1_code 134 = .ok (.putfield 59, 3) := by decide +kernel
theorem dd_mo_init_137 : decode prog_7_method_1_code 137 = .ok (.aload_n 0, 1) := by decide +kernel
theorem dd_mo_init_138 : decode prog_7_method_1_code 138 = .ok (.sipush 4096, 3) := by decide +kernel
theorem dd_mo_init_141 : decode prog_7_method_1_code 141 = .ok (.newarray .int, 2) := by decide +kernel
theorem dd_mo_init_143 : decode prog_7_method_1_code 143 = .ok (.putfield 62, 3) := by decide +kernel
theorem dd_mo_init_146 : decode prog_7_method_1_code 146 = .ok (.return_, 1) := by decide +kernel
theorem dd_mo_thrown_0 : decode prog_7_method_2_code 0 = .ok (.aload_n 0, 1) := by decide +kernel
theorem dd_mo_thrown_1 : decode prog_7_method_2_code 1 = .ok (.getfield 65, 3) := by decide +kernel
theorem dd_mo_thrown_4 : decode prog_7_method_2_code 4 = .ok (.ireturn, 1) := by decide +kernel
theorem dd_mo_role_0 : decode prog_7_method_13_code 0 = .ok (.aload_n 0, 1) := by decide +kernel
theorem dd_mo_role_1 : decode prog_7_method_13_code 1 = .ok (.aload_n 0, 1) := by decide +kernel
theorem dd_mo_role_2 : decode prog_7_method_13_code 2 = .ok (.getfield 69, 3) := by decide +kernel
theorem dd_mo_role_5 : decode prog_7_method_13_code 5 = .ok (.bipush 6, 2) := by decide +kernel
theorem dd_mo_role_7 : decode prog_7_method_13_code 7 = .ok (.if_icmp .ge 7, 3) := by decide +kernel
theorem dd_mo_role_10 : decode prog_7_method_13_code 10 = .ok (.iconst 1, 1) := by decide +kernel
theorem dd_mo_role_11 : decode prog_7_method_13_code 11 = .ok (.goto 4, 3) := by decide +kernel
theorem dd_mo_role_14 : decode prog_7_method_13_code 14 = .ok (.iconst 0, 1) := by decide +kernel
theorem dd_mo_role_15 : decode prog_7_method_13_code 15 = .ok (.iconst 1, 1) := by decide +kernel
theorem dd_mo_role_16 : decode prog_7_method_13_code 16 = .ok (.invokevirtual 86, 3) := by decide +kernel
theorem dd_mo_role_19 : decode prog_7_method_13_code 19 = .ok (.ifCond .ne 5, 3) := by decide +kernel
theorem dd_mo_role_22 : decode prog_7_method_13_code 22 = .ok (.iconst 0, 1) := by decide +kernel
theorem dd_mo_role_23 : decode prog_7_method_13_code 23 = .ok (.ireturn, 1) := by decide +kernel
theorem dd_mo_role_24 : decode prog_7_method_13_code 24 = .ok (.aload_n 0, 1) := by decide +kernel
theorem dd_mo_role_25 : decode prog_7_method_13_code 25 = .ok (.getfield 7, 3) := by decide +kernel
theorem dd_mo_role_28 : decode prog_7_method_13_code 28 = .ok (.aload_n 0, 1) := by decide +kernel
theorem dd_mo_role_29 : decode prog_7_method_13_code 29 = .ok (.getfield 69, 3) := by decide +kernel
theorem dd_mo_role_32 : decode prog_7_method_13_code 32 = .ok (.iconst 0, 1) := by decide +kernel
theorem dd_mo_role_33 : decode prog_7_method_13_code 33 = .ok (.iastore, 1) := by decide +kernel
theorem dd_mo_role_34 : decode prog_7_method_13_code 34 = .ok (.aload_n 0, 1) := by decide +kernel
theorem dd_mo_role_35 : decode prog_7_method_13_code 35 = .ok (.getfield 13, 3) := by decide +kernel
theorem dd_mo_role_38 : decode prog_7_method_13_code 38 = .ok (.aload_n 0, 1) := by decide +kernel
theorem dd_mo_role_39 : decode prog_7_method_13_code 39 = .ok (.getfield 69, 3) := by decide +kernel
theorem dd_mo_role_42 : decode prog_7_method_13_code 42 = .ok (.iconst 0, 1) := by decide +kernel
theorem dd_mo_role_43 : decode prog_7_method_13_code 43 = .ok (.iastore, 1) := by decide +kernel
theorem dd_mo_role_44 : decode prog_7_method_13_code 44 = .ok (.aload_n 0, 1) := by decide +kernel
theorem dd_mo_role_45 : decode prog_7_method_13_code 45 = .ok (.dup, 1) := by decide +kernel
theorem dd_mo_role_46 : decode prog_7_method_13_code 46 = .ok (.getfield 69, 3) := by decide +kernel
theorem dd_mo_role_49 : decode prog_7_method_13_code 49 = .ok (.iconst 1, 1) := by decide +kernel
theorem dd_mo_role_50 : decode prog_7_method_13_code 50 = .ok (.iadd, 1) := by decide +kernel
theorem dd_mo_role_51 : decode prog_7_method_13_code 51 = .ok (.putfield 69, 3) := by decide +kernel
theorem dd_mo_role_54 : decode prog_7_method_13_code 54 = .ok (.aload_n 0, 1) := by decide +kernel
theorem dd_mo_role_55 : decode prog_7_method_13_code 55 = .ok (.getfield 69, 3) := by decide +kernel
theorem dd_mo_role_58 : decode prog_7_method_13_code 58 = .ok (.iconst 1, 1) := by decide +kernel
theorem dd_mo_role_59 : decode prog_7_method_13_code 59 = .ok (.isub, 1) := by decide +kernel
theorem dd_mo_role_60 : decode prog_7_method_13_code 60 = .ok (.ireturn, 1) := by decide +kernel
theorem dd_mo_when_0 : decode prog_7_method_3_code 0 = .ok (.aload_n 0, 1) := by decide +kernel
theorem dd_mo_when_1 : decode prog_7_method_3_code 1 = .ok (.iload_n 1, 1) := by decide +kernel
theorem dd_mo_when_2 : decode prog_7_method_3_code 2 = .ok (.ifCond .eq 7, 3) := by decide +kernel
theorem dd_mo_when_5 : decode prog_7_method_3_code 5 = .ok (.iconst 0, 1) := by decide +kernel
theorem dd_mo_when_6 : decode prog_7_method_3_code 6 = .ok (.goto 4, 3) := by decide +kernel
theorem dd_mo_when_9 : decode prog_7_method_3_code 9 = .ok (.iload_n 2, 1) := by decide +kernel
theorem dd_mo_when_10 : decode prog_7_method_3_code 10 = .ok (.putfield 65, 3) := by decide +kernel
theorem dd_mo_when_13 : decode prog_7_method_3_code 13 = .ok (.iload_n 1, 1) := by decide +kernel
theorem dd_mo_when_14 : decode prog_7_method_3_code 14 = .ok (.ireturn, 1) := by decide +kernel
theorem dd_mo_user_0 : decode prog_7_method_14_code 0 = .ok (.aload_n 0, 1) := by decide +kernel
theorem dd_mo_user_1 : decode prog_7_method_14_code 1 = .ok (.aload_n 0, 1) := by decide +kernel
theorem dd_mo_user_2 : decode prog_7_method_14_code 2 = .ok (.getfield 72, 3) := by decide +kernel
theorem dd_mo_user_5 : decode prog_7_method_14_code 5 = .ok (.iconst 5, 1) := by decide +kernel
theorem dd_mo_user_6 : decode prog_7_method_14_code 6 = .ok (.if_icmp .ge 7, 3) := by decide +kernel
theorem dd_mo_user_9 : decode prog_7_method_14_code 9 = .ok (.iconst 1, 1) := by decide +kernel
theorem dd_mo_user_10 : decode prog_7_method_14_code 10 = .ok (.goto 4, 3) := by decide +kernel
theorem dd_mo_user_13 : decode prog_7_method_14_code 13 = .ok (.iconst 0, 1) := by decide +kernel
theorem dd_mo_user_14 : decode prog_7_method_14_code 14 = .ok (.iconst 1, 1) := by decide +kernel
theorem dd_mo_user_15 : decode prog_7_method_14_code 15 = .ok (.invokevirtual 86, 3) := by decide +kernel
theorem dd_mo_user_18 : decode prog_7_method_14_code 18 = .ok (.ifCond .ne 5, 3) := by decide +kernel
theorem dd_mo_user_21 : decode prog_7_method_14_code 21 = .ok (.iconst 0, 1) := by decide +kernel
theorem dd_mo_user_22 : decode prog_7_method_14_code 22 = .ok (.ireturn, 1) := by decide +kernel
theorem dd_mo_user_23 : decode prog_7_method_14_code 23 = .ok (.aload_n 0, 1) := by decide +kernel
theorem dd_mo_user_24 : decode prog_7_method_14_code 24 = .ok (.getfield 19, 3) := by decide +kernel
theorem dd_mo_user_27 : decode prog_7_method_14_code 27 = .ok (.aload_n 0, 1) := by decide +kernel
theorem dd_mo_user_28 : decode prog_7_method_14_code 28 = .ok (.getfield 72, 3) := by decide +kernel
theorem dd_mo_user_31 : decode prog_7_method_14_code 31 = .ok (.iconst 0, 1) := by decide +kernel
theorem dd_mo_user_32 : decode prog_7_method_14_code 32 = .ok (.iastore, 1) := by decide +kernel
theorem dd_mo_user_33 : decode prog_7_method_14_code 33 = .ok (.aload_n 0, 1) := by decide +kernel
theorem dd_mo_user_34 : decode prog_7_method_14_code 34 = .ok (.dup, 1) := by decide +kernel
theorem dd_mo_user_35 : decode prog_7_method_14_code 35 = .ok (.getfield 72, 3) := by decide +kernel
theorem dd_mo_user_38 : decode prog_7_method_14_code 38 = .ok (.iconst 1, 1) := by decide +kernel
theorem dd_mo_user_39 : decode prog_7_method_14_code 39 = .ok (.iadd, 1) := by decide +kernel
theorem dd_mo_user_40 : decode prog_7_method_14_code 40 = .ok (.putfield 72, 3) := by decide +kernel
theorem dd_mo_user_43 : decode prog_7_method_14_code 43 = .ok (.aload_n 0, 1) := by decide +kernel
theorem dd_mo_user_44 : decode prog_7_method_14_code 44 = .ok (.getfield 72, 3) := by decide +kernel
theorem dd_mo_user_47 : decode prog_7_method_14_code 47 = .ok (.iconst 1, 1) := by decide +kernel
theorem dd_mo_user_48 : decode prog_7_method_14_code 48 = .ok (.isub, 1) := by decide +kernel
theorem dd_mo_user_49 : decode prog_7_method_14_code 49 = .ok (.ireturn, 1) := by decide +kernel
