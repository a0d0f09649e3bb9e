/-! decode rows: printed by wip/whole/facts.py -/
theorem dd_ra_close_0 : decode prog_1_method_15_code 0 = .ok (.aload_n 0, 1) := by decide +kernel
theorem dd_ra_close_1 : decode prog_1_method_15_code 1 = .ok (.iload_n 1, 1) := by decide +kernel
theorem dd_ra_close_2 : decode prog_1_method_15_code 2 = .ok (.invokevirtual 158, 3) := by decide +kernel
theorem dd_ra_close_5 : decode prog_1_method_15_code 5 = .ok (.aload_n 0, 1) := by decide +kernel
theorem dd_ra_close_6 : decode prog_1_method_15_code 6 = .ok (.getfield 32, 3) := by decide +kernel
theorem dd_ra_close_9 : decode prog_1_method_15_code 9 = .ok (.iload_n 1, 1) := by decide +kernel
theorem dd_ra_close_10 : decode prog_1_method_15_code 10 = .ok (.iconst (-1), 1) := by decide +kernel
theorem dd_ra_close_11 : decode prog_1_method_15_code 11 = .ok (.iastore, 1) := by decide +kernel
theorem dd_ra_close_12 : decode prog_1_method_15_code 12 = .ok (.aload_n 0, 1) := by decide +kernel
theorem dd_ra_close_13 : decode prog_1_method_15_code 13 = .ok (.getfield 35, 3) := by decide +kernel
theorem dd_ra_close_16 : decode prog_1_method_15_code 16 = .ok (.iload_n 1, 1) := by decide +kernel
theorem dd_ra_close_17 : decode prog_1_method_15_code 17 = .ok (.iconst 0, 1) := by decide +kernel
theorem dd_ra_close_18 : decode prog_1_method_15_code 18 = .ok (.iastore, 1) := by decide +kernel
theorem dd_ra_close_19 : decode prog_1_method_15_code 19 = .ok (.return_, 1) := by decide +kernel
theorem dd_ra_checkSession_0 : decode prog_1_method_29_code 0 = .ok (.iload_n 1, 1) := by decide +kernel
theorem dd_ra_checkSession_1 : decode prog_1_method_29_code 1 = .ok (.ifCond .lt 18, 3) := by decide +kernel
theorem dd_ra_checkSession_4 : decode prog_1_method_29_code 4 = .ok (.iload_n 1, 1) := by decide +kernel
theorem dd_ra_checkSession_5 : decode prog_1_method_29_code 5 = .ok (.iconst 4, 1) := by decide +kernel
theorem dd_ra_checkSession_6 : decode prog_1_method_29_code 6 = .ok (.if_icmp .ge 13, 3) := by decide +kernel
theorem dd_ra_checkSession_9 : decode prog_1_method_29_code 9 = .ok (.aload_n 0, 1) := by decide +kernel
theorem dd_ra_checkSession_10 : decode prog_1_method_29_code 10 = .ok (.getfield 32, 3) := by decide +kernel
theorem dd_ra_checkSession_13 : decode prog_1_method_29_code 13 = .ok (.iload_n 1, 1) := by decide +kernel
theorem dd_ra_checkSession_14 : decode prog_1_method_29_code 14 = .ok (.iaload, 1) := by decide +kernel
theorem dd_ra_checkSession_15 : decode prog_1_method_29_code 15 = .ok (.iconst (-1), 1) := by decide +kernel
theorem dd_ra_checkSession_16 : decode prog_1_method_29_code 16 = .ok (.if_icmp .ne 13, 3) := by decide +kernel
theorem dd_ra_checkSession_19 : decode prog_1_method_29_code 19 = .ok (.new 195, 3) := by decide +kernel
theorem dd_ra_checkSession_22 : decode prog_1_method_29_code 22 = .ok (.dup, 1) := by decide +kernel
theorem dd_ra_checkSession_23 : decode prog_1_method_29_code 23 = .ok (.ldc 202, 2) := by decide +kernel
theorem dd_ra_checkSession_25 : decode prog_1_method_29_code 25 = .ok (.invokespecial 199, 3) := by decide +kernel
theorem dd_ra_checkSession_28 : decode prog_1_method_29_code 28 = .ok (.athrow, 1) := by decide +kernel
theorem dd_ra_checkSession_29 : decode prog_1_method_29_code 29 = .ok (.return_, 1) := by decide +kernel
theorem dd_lw_activate_0 : decode method_17_code 0 = .ok (.aload_n 3, 1) := by decide +kernel
theorem dd_lw_activate_1 : decode method_17_code 1 = .ok (.iconst 0, 1) := by decide +kernel
theorem dd_lw_activate_2 : decode method_17_code 2 = .ok (.aload_n 0, 1) := by decide +kernel
theorem dd_lw_activate_3 : decode method_17_code 3 = .ok (.iload_n 1, 1) := by decide +kernel
theorem dd_lw_activate_4 : decode method_17_code 4 = .ok (.iload_n 2, 1) := by decide +kernel
theorem dd_lw_activate_5 : decode method_17_code 5 = .ok (.invokevirtual 68, 3) := by decide +kernel
theorem dd_lw_activate_8 : decode method_17_code 8 = .ok (.ifCond .eq 7, 3) := by decide +kernel
theorem dd_lw_activate_11 : decode method_17_code 11 = .ok (.lconst 1, 1) := by decide +kernel
theorem dd_lw_activate_12 : decode method_17_code 12 = .ok (.goto 4, 3) := by decide +kernel
theorem dd_lw_activate_15 : decode method_17_code 15 = .ok (.lconst 0, 1) := by decide +kernel
theorem dd_lw_activate_16 : decode method_17_code 16 = .ok (.lastore, 1) := by decide +kernel
theorem dd_lw_activate_17 : decode method_17_code 17 = .ok (.goto 15, 3) := by decide +kernel
theorem dd_lw_activate_20 : decode method_17_code 20 = .ok (.astore 4, 2) := by decide +kernel
theorem dd_lw_activate_22 : decode method_17_code 22 = .ok (.iconst 1, 1) := by decide +kernel
theorem dd_lw_activate_23 : decode method_17_code 23 = .ok (.ireturn, 1) := by decide +kernel
theorem dd_lw_activate_24 : decode method_17_code 24 = .ok (.astore 4, 2) := by decide +kernel
theorem dd_lw_activate_26 : decode method_17_code 26 = .ok (.iconst 2, 1) := by decide +kernel
theorem dd_lw_activate_27 : decode method_17_code 27 = .ok (.ireturn, 1) := by decide +kernel
theorem dd_lw_activate_28 : decode method_17_code 28 = .ok (.astore 4, 2) := by decide +kernel
theorem dd_lw_activate_30 : decode method_17_code 30 = .ok (.iconst 3, 1) := by decide +kernel
theorem dd_lw_activate_31 : decode method_17_code 31 = .ok (.ireturn, 1) := by decide +kernel
theorem dd_lw_activate_32 : decode method_17_code 32 = .ok (.iconst 0, 1) := by decide +kernel
theorem dd_lw_activate_33 : decode method_17_code 33 = .ok (.ireturn, 1) := by decide +kernel
theorem dd_ra_activate_0 : decode prog_1_method_16_code 0 = .ok (.aload_n 0, 1) := by decide +kernel
theorem dd_ra_activate_1 : decode prog_1_method_16_code 1 = .ok (.iload_n 1, 1) := by decide +kernel
theorem dd_ra_activate_2 : decode prog_1_method_16_code 2 = .ok (.invokevirtual 158, 3) := by decide +kernel
theorem dd_ra_activate_5 : decode prog_1_method_16_code 5 = .ok (.aload_n 0, 1) := by decide +kernel
theorem dd_ra_activate_6 : decode prog_1_method_16_code 6 = .ok (.iload_n 2, 1) := by decide +kernel
theorem dd_ra_activate_7 : decode prog_1_method_16_code 7 = .ok (.invokevirtual 60, 3) := by decide +kernel
theorem dd_ra_activate_10 : decode prog_1_method_16_code 10 = .ok (.aload_n 0, 1) := by decide +kernel
theorem dd_ra_activate_11 : decode prog_1_method_16_code 11 = .ok (.aload_n 0, 1) := by decide +kernel
theorem dd_ra_activate_12 : decode prog_1_method_16_code 12 = .ok (.getfield 32, 3) := by decide +kernel
theorem dd_ra_activate_15 : decode prog_1_method_16_code 15 = .ok (.iload_n 1, 1) := by decide +kernel
theorem dd_ra_activate_16 : decode prog_1_method_16_code 16 = .ok (.iaload, 1) := by decide +kernel
theorem dd_ra_activate_17 : decode prog_1_method_16_code 17 = .ok (.invokevirtual 73, 3) := by decide +kernel
theorem dd_ra_activate_20 : decode prog_1_method_16_code 20 = .ok (.iload_n 2, 1) := by decide +kernel
theorem dd_ra_activate_21 : decode prog_1_method_16_code 21 = .ok (.invokestatic 91, 3) := by decide +kernel
theorem dd_ra_activate_24 : decode prog_1_method_16_code 24 = .ok (.ifCond .ne 13, 3) := by decide +kernel
theorem dd_ra_activate_27 : decode prog_1_method_16_code 27 = .ok (.new 161, 3) := by decide +kernel
theorem dd_ra_activate_30 : decode prog_1_method_16_code 30 = .ok (.dup, 1) := by decide +kernel
theorem dd_ra_activate_31 : decode prog_1_method_16_code 31 = .ok (.ldc 163, 2) := by decide +kernel
theorem dd_ra_activate_33 : decode prog_1_method_16_code 33 = .ok (.invokespecial 165, 3) := by decide +kernel
theorem dd_ra_activate_36 : decode prog_1_method_16_code 36 = .ok (.athrow, 1) := by decide +kernel
theorem dd_ra_activate_37 : decode prog_1_method_16_code 37 = .ok (.aload_n 0, 1) := by decide +kernel
theorem dd_ra_activate_38 : decode prog_1_method_16_code 38 = .ok (.getfield 35, 3) := by decide +kernel
theorem dd_ra_activate_41 : decode prog_1_method_16_code 41 = .ok (.iload_n 1, 1) := by decide +kernel
theorem dd_ra_activate_42 : decode prog_1_method_16_code 42 = .ok (.iaload, 1) := by decide +kernel
theorem dd_ra_activate_43 : decode prog_1_method_16_code 43 = .ok (.iconst 1, 1) := by decide +kernel
theorem dd_ra_activate_44 : decode prog_1_method_16_code 44 = .ok (.iload_n 2, 1) := by decide +kernel
theorem dd_ra_activate_45 : decode prog_1_method_16_code 45 = .ok (.ishl, 1) := by decide +kernel
theorem dd_ra_activate_46 : decode prog_1_method_16_code 46 = .ok (.ior, 1) := by decide +kernel
theorem dd_ra_activate_47 : decode prog_1_method_16_code 47 = .ok (.istore_n 3, 1) := by decide +kernel
theorem dd_ra_activate_48 : decode prog_1_method_16_code 48 = .ok (.aload_n 0, 1) := by decide +kernel
theorem dd_ra_activate_49 : decode prog_1_method_16_code 49 = .ok (.getfield 12, 3) := by decide +kernel
theorem dd_ra_activate_52 : decode prog_1_method_16_code 52 = .ok (.getfield 99, 3) := by decide +kernel
theorem dd_ra_activate_55 : decode prog_1_method_16_code 55 = .ok (.iload_n 3, 1) := by decide +kernel
theorem dd_ra_activate_56 : decode prog_1_method_16_code 56 = .ok (.invokestatic 166, 3) := by decide +kernel
theorem dd_ra_activate_59 : decode prog_1_method_16_code 59 = .ok (.ifCond .ne 13, 3) := by decide +kernel
theorem dd_ra_activate_62 : decode prog_1_method_16_code 62 = .ok (.new 48, 3) := by decide +kernel
theorem dd_ra_activate_65 : decode prog_1_method_16_code 65 = .ok (.dup, 1) := by decide +kernel
theorem dd_ra_activate_66 : decode prog_1_method_16_code 66 = .ok (.ldc 170, 2) := by decide +kernel
theorem dd_ra_activate_68 : decode prog_1_method_16_code 68 = .ok (.invokespecial 52, 3) := by decide +kernel
theorem dd_ra_activate_71 : decode prog_1_method_16_code 71 = .ok (.athrow, 1) := by decide +kernel
theorem dd_ra_activate_72 : decode prog_1_method_16_code 72 = .ok (.iload_n 3, 1) := by decide +kernel
theorem dd_ra_activate_73 : decode prog_1_method_16_code 73 = .ok (.aload_n 0, 1) := by decide +kernel
theorem dd_ra_activate_74 : decode prog_1_method_16_code 74 = .ok (.getfield 35, 3) := by decide +kernel
theorem dd_ra_activate_77 : decode prog_1_method_16_code 77 = .ok (.iload_n 1, 1) := by decide +kernel
theorem dd_ra_activate_78 : decode prog_1_method_16_code 78 = .ok (.iaload, 1) := by decide +kernel
theorem dd_ra_activate_79 : decode prog_1_method_16_code 79 = .ok (.if_icmp .eq 7, 3) := by decide +kernel
theorem dd_ra_activate_82 : decode prog_1_method_16_code 82 = .ok (.iconst 1, 1) := by decide +kernel
theorem dd_ra_activate_83 : decode prog_1_method_16_code 83 = .ok (.goto 4, 3) := by decide +kernel
theorem dd_ra_activate_86 : decode prog_1_method_16_code 86 = .ok (.iconst 0, 1) := by decide +kernel
theorem dd_ra_activate_87 : decode prog_1_method_16_code 87 = .ok (.istore 4, 2) := by decide +kernel
theorem dd_ra_activate_89 : decode prog_1_method_16_code 89 = .ok (.aload_n 0, 1) := by decide +kernel
theorem dd_ra_activate_90 : decode prog_1_method_16_code 90 = .ok (.getfield 35, 3) := by decide +kernel
theorem dd_ra_activate_93 : decode prog_1_method_16_code 93 = .ok (.iload_n 1, 1) := by decide +kernel
theorem dd_ra_activate_94 : decode prog_1_method_16_code 94 = .ok (.iload_n 3, 1) := by decide +kernel
theorem dd_ra_activate_95 : decode prog_1_method_16_code 95 = .ok (.iastore, 1) := by decide +kernel
theorem dd_ra_activate_96 : decode prog_1_method_16_code 96 = .ok (.iload 4, 2) := by decide +kernel
theorem dd_ra_activate_98 : decode prog_1_method_16_code 98 = .ok (.ireturn, 1) := by decide +kernel
theorem dd_lw_rest_0 : decode method_18_code 0 = .ok (.aload_n 3, 1) := by decide +kernel
theorem dd_lw_rest_1 : decode method_18_code 1 = .ok (.iconst 0, 1) := by decide +kernel
theorem dd_lw_rest_2 : decode method_18_code 2 = .ok (.aload_n 0, 1) := by decide +kernel
theorem dd_lw_rest_3 : decode method_18_code 3 = .ok (.iload_n 1, 1) := by decide +kernel
theorem dd_lw_rest_4 : decode method_18_code 4 = .ok (.iload_n 2, 1) := by decide +kernel
theorem dd_lw_rest_5 : decode method_18_code 5 = .ok (.invokevirtual 71, 3) := by decide +kernel
theorem dd_lw_rest_8 : decode method_18_code 8 = .ok (.ifCond .eq 7, 3) := by decide +kernel
theorem dd_lw_rest_11 : decode method_18_code 11 = .ok (.lconst 1, 1) := by decide +kernel
theorem dd_lw_rest_12 : decode method_18_code 12 = .ok (.goto 4, 3) := by decide +kernel
theorem dd_lw_rest_15 : decode method_18_code 15 = .ok (.lconst 0, 1) := by decide +kernel
theorem dd_lw_rest_16 : decode method_18_code 16 = .ok (.lastore, 1) := by decide +kernel
theorem dd_lw_rest_17 : decode method_18_code 17 = .ok (.goto 7, 3) := by decide +kernel
theorem dd_lw_rest_20 : decode method_18_code 20 = .ok (.astore 4, 2) := by decide +kernel
theorem dd_lw_rest_22 : decode method_18_code 22 = .ok (.iconst 1, 1) := by decide +kernel
theorem dd_lw_rest_23 : decode method_18_code 23 = .ok (.ireturn, 1) := by decide +kernel
theorem dd_lw_rest_24 : decode method_18_code 24 = .ok (.iconst 0, 1) := by decide +kernel
theorem dd_lw_rest_25 : decode method_18_code 25 = .ok (.ireturn, 1) := by decide +kernel
theorem dd_ra_rest_0 : decode prog_1_method_17_code 0 = .ok (.aload_n 0, 1) := by decide +kernel
theorem dd_ra_rest_1 : decode prog_1_method_17_code 1 = .ok (.iload_n 1, 1) := by decide +kernel
theorem dd_ra_rest_2 : decode prog_1_method_17_code 2 = .ok (.invokevirtual 158, 3) := by decide +kernel
theorem dd_ra_rest_5 : decode prog_1_method_17_code 5 = .ok (.aload_n 0, 1) := by decide +kernel
theorem dd_ra_rest_6 : decode prog_1_method_17_code 6 = .ok (.iload_n 2, 1) := by decide +kernel
theorem dd_ra_rest_7 : decode prog_1_method_17_code 7 = .ok (.invokevirtual 60, 3) := by decide +kernel
theorem dd_ra_rest_10 : decode prog_1_method_17_code 10 = .ok (.aload_n 0, 1) := by decide +kernel
theorem dd_ra_rest_11 : decode prog_1_method_17_code 11 = .ok (.getfield 35, 3) := by decide +kernel
theorem dd_ra_rest_14 : decode prog_1_method_17_code 14 = .ok (.iload_n 1, 1) := by decide +kernel
theorem dd_ra_rest_15 : decode prog_1_method_17_code 15 = .ok (.iaload, 1) := by decide +kernel
theorem dd_ra_rest_16 : decode prog_1_method_17_code 16 = .ok (.iload_n 2, 1) := by decide +kernel
theorem dd_ra_rest_17 : decode prog_1_method_17_code 17 = .ok (.invokestatic 91, 3) := by decide +kernel
theorem dd_ra_rest_20 : decode prog_1_method_17_code 20 = .ok (.istore_n 3, 1) := by decide +kernel
theorem dd_ra_rest_21 : decode prog_1_method_17_code 21 = .ok (.aload_n 0, 1) := by decide +kernel
theorem dd_ra_rest_22 : decode prog_1_method_17_code 22 = .ok (.getfield 35, 3) := by decide +kernel
theorem dd_ra_rest_25 : decode prog_1_method_17_code 25 = .ok (.iload_n 1, 1) := by decide +kernel
theorem dd_ra_rest_26 : decode prog_1_method_17_code 26 = .ok (.dup2, 1) := by decide +kernel
theorem dd_ra_rest_27 : decode prog_1_method_17_code 27 = .ok (.iaload, 1) := by decide +kernel
theorem dd_ra_rest_28 : decode prog_1_method_17_code 28 = .ok (.iconst 1, 1) := by decide +kernel
theorem dd_ra_rest_29 : decode prog_1_method_17_code 29 = .ok (.iload_n 2, 1) := by decide +kernel
theorem dd_ra_rest_30 : decode prog_1_method_17_code 30 = .ok (.ishl, 1) := by decide +kernel
theorem dd_ra_rest_31 : decode prog_1_method_17_code 31 = .ok (.iconst (-1), 1) := by decide +kernel
theorem dd_ra_rest_32 : decode prog_1_method_17_code 32 = .ok (.ixor, 1) := by decide +kernel
theorem dd_ra_rest_33 : decode prog_1_method_17_code 33 = .ok (.iand, 1) := by decide +kernel
theorem dd_ra_rest_34 : decode prog_1_method_17_code 34 = .ok (.iastore, 1) := by decide +kernel
theorem dd_ra_rest_35 : decode prog_1_method_17_code 35 = .ok (.iload_n 3, 1) := by decide +kernel
theorem dd_ra_rest_36 : decode prog_1_method_17_code 36 = .ok (.ireturn, 1) := by decide +kernel
theorem dd_lw_active_0 : decode method_19_code 0 = .ok (.aload_n 2, 1) := by decide +kernel
theorem dd_lw_active_1 : decode method_19_code 1 = .ok (.iconst 0, 1) := by decide +kernel
theorem dd_lw_active_2 : decode method_19_code 2 = .ok (.aload_n 0, 1) := by decide +kernel
theorem dd_lw_active_3 : decode method_19_code 3 = .ok (.iload_n 1, 1) := by decide +kernel
theorem dd_lw_active_4 : decode method_19_code 4 = .ok (.invokevirtual 74, 3) := by decide +kernel
theorem dd_lw_active_7 : decode method_19_code 7 = .ok (.i2l, 1) := by decide +kernel
theorem dd_lw_active_8 : decode method_19_code 8 = .ok (.lastore, 1) := by decide +kernel
theorem dd_lw_active_9 : decode method_19_code 9 = .ok (.goto 6, 3) := by decide +kernel
theorem dd_lw_active_12 : decode method_19_code 12 = .ok (.astore_n 3, 1) := by decide +kernel
theorem dd_lw_active_13 : decode method_19_code 13 = .ok (.iconst 1, 1) := by decide +kernel
theorem dd_lw_active_14 : decode method_19_code 14 = .ok (.ireturn, 1) := by decide +kernel
theorem dd_lw_active_15 : decode method_19_code 15 = .ok (.iconst 0, 1) := by decide +kernel
theorem dd_lw_active_16 : decode method_19_code 16 = .ok (.ireturn, 1) := by decide +kernel
theorem dd_ra_active_0 : decode prog_1_method_18_code 0 = .ok (.aload_n 0, 1) := by decide +kernel
theorem dd_ra_active_1 : decode prog_1_method_18_code 1 = .ok (.iload_n 1, 1) := by decide +kernel
theorem dd_ra_active_2 : decode prog_1_method_18_code 2 = .ok (.invokevirtual 158, 3) := by decide +kernel
theorem dd_ra_active_5 : decode prog_1_method_18_code 5 = .ok (.aload_n 0, 1) := by decide +kernel
theorem dd_ra_active_6 : decode prog_1_method_18_code 6 = .ok (.getfield 35, 3) := by decide +kernel
theorem dd_ra_active_9 : decode prog_1_method_18_code 9 = .ok (.iload_n 1, 1) := by decide +kernel
theorem dd_ra_active_10 : decode prog_1_method_18_code 10 = .ok (.iaload, 1) := by decide +kernel
theorem dd_ra_active_11 : decode prog_1_method_18_code 11 = .ok (.ireturn, 1) := by decide +kernel
theorem dd_lw_may_0 : decode method_20_code 0 = .ok (.aload_n 3, 1) := by decide +kernel
theorem dd_lw_may_1 : decode method_20_code 1 = .ok (.iconst 0, 1) := by decide +kernel
theorem dd_lw_may_2 : decode method_20_code 2 = .ok (.aload_n 0, 1) := by decide +kernel
theorem dd_lw_may_3 : decode method_20_code 3 = .ok (.iload_n 1, 1) := by decide +kernel
theorem dd_lw_may_4 : decode method_20_code 4 = .ok (.iload_n 2, 1) := by decide +kernel
theorem dd_lw_may_5 : decode method_20_code 5 = .ok (.invokevirtual 77, 3) := by decide +kernel
theorem dd_lw_may_8 : decode method_20_code 8 = .ok (.ifCond .eq 7, 3) := by decide +kernel
theorem dd_lw_may_11 : decode method_20_code 11 = .ok (.lconst 1, 1) := by decide +kernel
theorem dd_lw_may_12 : decode method_20_code 12 = .ok (.goto 4, 3) := by decide +kernel
theorem dd_lw_may_15 : decode method_20_code 15 = .ok (.lconst 0, 1) := by decide +kernel
theorem dd_lw_may_16 : decode method_20_code 16 = .ok (.lastore, 1) := by decide +kernel
theorem dd_lw_may_17 : decode method_20_code 17 = .ok (.goto 7, 3) := by decide +kernel
theorem dd_lw_may_20 : decode method_20_code 20 = .ok (.astore 4, 2) := by decide +kernel
theorem dd_lw_may_22 : decode method_20_code 22 = .ok (.iconst 1, 1) := by decide +kernel
theorem dd_lw_may_23 : decode method_20_code 23 = .ok (.ireturn, 1) := by decide +kernel
theorem dd_lw_may_24 : decode method_20_code 24 = .ok (.iconst 0, 1) := by decide +kernel
theorem dd_lw_may_25 : decode method_20_code 25 = .ok (.ireturn, 1) := by decide +kernel
theorem dd_ra_may_0 : decode prog_1_method_19_code 0 = .ok (.aload_n 0, 1) := by decide +kernel
theorem dd_ra_may_1 : decode prog_1_method_19_code 1 = .ok (.iload_n 1, 1) := by decide +kernel
theorem dd_ra_may_2 : decode prog_1_method_19_code 2 = .ok (.invokevirtual 158, 3) := by decide +kernel
theorem dd_ra_may_5 : decode prog_1_method_19_code 5 = .ok (.iload_n 2, 1) := by decide +kernel
theorem dd_ra_may_6 : decode prog_1_method_19_code 6 = .ok (.invokestatic 88, 3) := by decide +kernel
theorem dd_ra_may_9 : decode prog_1_method_19_code 9 = .ok (.aload_n 0, 1) := by decide +kernel
theorem dd_ra_may_10 : decode prog_1_method_19_code 10 = .ok (.getfield 12, 3) := by decide +kernel
theorem dd_ra_may_13 : decode prog_1_method_19_code 13 = .ok (.getfield 172, 3) := by decide +kernel
theorem dd_ra_may_16 : decode prog_1_method_19_code 16 = .ok (.aload_n 0, 1) := by decide +kernel
theorem dd_ra_may_17 : decode prog_1_method_19_code 17 = .ok (.getfield 35, 3) := by decide +kernel
theorem dd_ra_may_20 : decode prog_1_method_19_code 20 = .ok (.iload_n 1, 1) := by decide +kernel
theorem dd_ra_may_21 : decode prog_1_method_19_code 21 = .ok (.iaload, 1) := by decide +kernel
theorem dd_ra_may_22 : decode prog_1_method_19_code 22 = .ok (.iaload, 1) := by decide +kernel
theorem dd_ra_may_23 : decode prog_1_method_19_code 23 = .ok (.istore_n 3, 1) := by decide +kernel
theorem dd_ra_may_24 : decode prog_1_method_19_code 24 = .ok (.iconst 0, 1) := by decide +kernel
theorem dd_ra_may_25 : decode prog_1_method_19_code 25 = .ok (.istore 4, 2) := by decide +kernel
theorem dd_ra_may_27 : decode prog_1_method_19_code 27 = .ok (.iload 4, 2) := by decide +kernel
theorem dd_ra_may_29 : decode prog_1_method_19_code 29 = .ok (.aload_n 0, 1) := by decide +kernel
theorem dd_ra_may_30 : decode prog_1_method_19_code 30 = .ok (.getfield 12, 3) := by decide +kernel
theorem dd_ra_may_33 : decode prog_1_method_19_code 33 = .ok (.getfield 44, 3) := by decide +kernel
theorem dd_ra_may_36 : decode prog_1_method_19_code 36 = .ok (.if_icmp .ge 34, 3) := by decide +kernel
theorem dd_ra_may_39 : decode prog_1_method_19_code 39 = .ok (.iload_n 3, 1) := by decide +kernel
theorem dd_ra_may_40 : decode prog_1_method_19_code 40 = .ok (.iload 4, 2) := by decide +kernel
theorem dd_ra_may_42 : decode prog_1_method_19_code 42 = .ok (.invokestatic 91, 3) := by decide +kernel
theorem dd_ra_may_45 : decode prog_1_method_19_code 45 = .ok (.ifCond .eq 19, 3) := by decide +kernel
theorem dd_ra_may_48 : decode prog_1_method_19_code 48 = .ok (.aload_n 0, 1) := by decide +kernel
theorem dd_ra_may_49 : decode prog_1_method_19_code 49 = .ok (.getfield 29, 3) := by decide +kernel
theorem dd_ra_may_52 : decode prog_1_method_19_code 52 = .ok (.iload 4, 2) := by decide +kernel
theorem dd_ra_may_54 : decode prog_1_method_19_code 54 = .ok (.iaload, 1) := by decide +kernel
theorem dd_ra_may_55 : decode prog_1_method_19_code 55 = .ok (.iload_n 2, 1) := by decide +kernel
theorem dd_ra_may_56 : decode prog_1_method_19_code 56 = .ok (.invokestatic 91, 3) := by decide +kernel
theorem dd_ra_may_59 : decode prog_1_method_19_code 59 = .ok (.ifCond .eq 5, 3) := by decide +kernel
theorem dd_ra_may_62 : decode prog_1_method_19_code 62 = .ok (.iconst 1, 1) := by decide +kernel
theorem dd_ra_may_63 : decode prog_1_method_19_code 63 = .ok (.ireturn, 1) := by decide +kernel
theorem dd_ra_may_64 : decode prog_1_method_19_code 64 = .ok (.iinc 4 1, 3) := by decide +kernel
theorem dd_ra_may_67 : decode prog_1_method_19_code 67 = .ok (.goto (-40), 3) := by decide +kernel
theorem dd_ra_may_70 : decode prog_1_method_19_code 70 = .ok (.iconst 0, 1) := by decide +kernel
theorem dd_ra_may_71 : decode prog_1_method_19_code 71 = .ok (.ireturn, 1) := by decide +kernel
theorem dd_lw_distance_0 : decode method_21_code 0 = .ok (.aload_n 3, 1) := by decide +kernel
theorem dd_lw_distance_1 : decode method_21_code 1 = .ok (.iconst 0, 1) := by decide +kernel
theorem dd_lw_distance_2 : decode method_21_code 2 = .ok (.aload_n 0, 1) := by decide +kernel
theorem dd_lw_distance_3 : decode method_21_code 3 = .ok (.iload_n 1, 1) := by decide +kernel
theorem dd_lw_distance_4 : decode method_21_code 4 = .ok (.iload_n 2, 1) := by decide +kernel
theorem dd_lw_distance_5 : decode method_21_code 5 = .ok (.invokevirtual 80, 3) := by decide +kernel
theorem dd_lw_distance_8 : decode method_21_code 8 = .ok (.i2l, 1) := by decide +kernel
theorem dd_lw_distance_9 : decode method_21_code 9 = .ok (.lastore, 1) := by decide +kernel
theorem dd_lw_distance_10 : decode method_21_code 10 = .ok (.goto 11, 3) := by decide +kernel
theorem dd_lw_distance_13 : decode method_21_code 13 = .ok (.astore 4, 2) := by decide +kernel
theorem dd_lw_distance_15 : decode method_21_code 15 = .ok (.iconst 1, 1) := by decide +kernel
theorem dd_lw_distance_16 : decode method_21_code 16 = .ok (.ireturn, 1) := by decide +kernel
theorem dd_lw_distance_17 : decode method_21_code 17 = .ok (.astore 4, 2) := by decide +kernel
theorem dd_lw_distance_19 : decode method_21_code 19 = .ok (.iconst 2, 1) := by decide +kernel
theorem dd_lw_distance_20 : decode method_21_code 20 = .ok (.ireturn, 1) := by decide +kernel
theorem dd_lw_distance_21 : decode method_21_code 21 = .ok (.iconst 0, 1) := by decide +kernel
theorem dd_lw_distance_22 : decode method_21_code 22 = .ok (.ireturn, 1) := by decide +kernel
theorem dd_ra_distance_0 : decode prog_1_method_20_code 0 = .ok (.aload_n 0, 1) := by decide +kernel
theorem dd_ra_distance_1 : decode prog_1_method_20_code 1 = .ok (.iload_n 1, 1) := by decide +kernel
theorem dd_ra_distance_2 : decode prog_1_method_20_code 2 = .ok (.iload_n 2, 1) := by decide +kernel
theorem dd_ra_distance_3 : decode prog_1_method_20_code 3 = .ok (.invokevirtual 175, 3) := by decide +kernel
theorem dd_ra_distance_6 : decode prog_1_method_20_code 6 = .ok (.aload_n 0, 1) := by decide +kernel
theorem dd_ra_distance_7 : decode prog_1_method_20_code 7 = .ok (.getfield 21, 3) := by decide +kernel
theorem dd_ra_distance_10 : decode prog_1_method_20_code 10 = .ok (.aload_n 0, 1) := by decide +kernel
theorem dd_ra_distance_11 : decode prog_1_method_20_code 11 = .ok (.getfield 25, 3) := by decide +kernel
theorem dd_ra_distance_14 : decode prog_1_method_20_code 14 = .ok (.aload_n 0, 1) := by decide +kernel
theorem dd_ra_distance_15 : decode prog_1_method_20_code 15 = .ok (.getfield 55, 3) := by decide +kernel
theorem dd_ra_distance_18 : decode prog_1_method_20_code 18 = .ok (.iload_n 1, 1) := by decide +kernel
theorem dd_ra_distance_19 : decode prog_1_method_20_code 19 = .ok (.iload_n 2, 1) := by decide +kernel
theorem dd_ra_distance_20 : decode prog_1_method_20_code 20 = .ok (.invokevirtual 178, 3) := by decide +kernel
theorem dd_ra_distance_23 : decode prog_1_method_20_code 23 = .ok (.istore_n 3, 1) := by decide +kernel
theorem dd_ra_distance_24 : decode prog_1_method_20_code 24 = .ok (.iload_n 3, 1) := by decide +kernel
theorem dd_ra_distance_25 : decode prog_1_method_20_code 25 = .ok (.iconst (-1), 1) := by decide +kernel
theorem dd_ra_distance_26 : decode prog_1_method_20_code 26 = .ok (.if_icmp .ne 7, 3) := by decide +kernel
theorem dd_ra_distance_29 : decode prog_1_method_20_code 29 = .ok (.iconst (-1), 1) := by decide +kernel
theorem dd_ra_distance_30 : decode prog_1_method_20_code 30 = .ok (.goto 11, 3) := by decide +kernel
theorem dd_ra_distance_33 : decode prog_1_method_20_code 33 = .ok (.aload_n 0, 1) := by decide +kernel
theorem dd_ra_distance_34 : decode prog_1_method_20_code 34 = .ok (.getfield 21, 3) := by decide +kernel
theorem dd_ra_distance_37 : decode prog_1_method_20_code 37 = .ok (.iload_n 3, 1) := by decide +kernel
theorem dd_ra_distance_38 : decode prog_1_method_20_code 38 = .ok (.invokevirtual 182, 3) := by decide +kernel
theorem dd_ra_distance_41 : decode prog_1_method_20_code 41 = .ok (.ireturn, 1) := by decide +kernel
theorem dd_ra_checkQuestion_0 : decode prog_1_method_30_code 0 = .ok (.aload_n 0, 1) := by decide +kernel
theorem dd_ra_checkQuestion_1 : decode prog_1_method_30_code 1 = .ok (.iload_n 1, 1) := by decide +kernel
theorem dd_ra_checkQuestion_2 : decode prog_1_method_30_code 2 = .ok (.invokevirtual 143, 3) := by decide +kernel
theorem dd_ra_checkQuestion_5 : decode prog_1_method_30_code 5 = .ok (.aload_n 0, 1) := by decide +kernel
theorem dd_ra_checkQuestion_6 : decode prog_1_method_30_code 6 = .ok (.iload_n 2, 1) := by decide +kernel
theorem dd_ra_checkQuestion_7 : decode prog_1_method_30_code 7 = .ok (.invokevirtual 60, 3) := by decide +kernel
theorem dd_ra_checkQuestion_10 : decode prog_1_method_30_code 10 = .ok (.aload_n 0, 1) := by decide +kernel
theorem dd_ra_checkQuestion_11 : decode prog_1_method_30_code 11 = .ok (.getfield 55, 3) := by decide +kernel
theorem dd_ra_checkQuestion_14 : decode prog_1_method_30_code 14 = .ok (.aload_n 0, 1) := by decide +kernel
theorem dd_ra_checkQuestion_15 : decode prog_1_method_30_code 15 = .ok (.getfield 12, 3) := by decide +kernel
theorem dd_ra_checkQuestion_18 : decode prog_1_method_30_code 18 = .ok (.getfield 44, 3) := by decide +kernel
theorem dd_ra_checkQuestion_21 : decode prog_1_method_30_code 21 = .ok (.imul, 1) := by decide +kernel
theorem dd_ra_checkQuestion_22 : decode prog_1_method_30_code 22 = .ok (.bipush 12, 2) := by decide +kernel
theorem dd_ra_checkQuestion_24 : decode prog_1_method_30_code 24 = .ok (.if_icmp .le 13, 3) := by decide +kernel
theorem dd_ra_checkQuestion_27 : decode prog_1_method_30_code 27 = .ok (.new 161, 3) := by decide +kernel
theorem dd_ra_checkQuestion_30 : decode prog_1_method_30_code 30 = .ok (.dup, 1) := by decide +kernel
theorem dd_ra_checkQuestion_31 : decode prog_1_method_30_code 31 = .ok (.ldc 204, 2) := by decide +kernel
theorem dd_ra_checkQuestion_33 : decode prog_1_method_30_code 33 = .ok (.invokespecial 165, 3) := by decide +kernel
theorem dd_ra_checkQuestion_36 : decode prog_1_method_30_code 36 = .ok (.athrow, 1) := by decide +kernel
theorem dd_ra_checkQuestion_37 : decode prog_1_method_30_code 37 = .ok (.return_, 1) := by decide +kernel
theorem dd_se_nearestGoal_0 : decode prog_5_method_2_code 0 = .ok (.aload_n 0, 1) := by decide +kernel
theorem dd_se_nearestGoal_1 : decode prog_5_method_2_code 1 = .ok (.iload_n 2, 1) := by decide +kernel
theorem dd_se_nearestGoal_2 : decode prog_5_method_2_code 2 = .ok (.putfield 22, 3) := by decide +kernel
theorem dd_se_nearestGoal_5 : decode prog_5_method_2_code 5 = .ok (.aload_n 0, 1) := by decide +kernel
theorem dd_se_nearestGoal_6 : decode prog_5_method_2_code 6 = .ok (.aload_n 1, 1) := by decide +kernel
theorem dd_se_nearestGoal_7 : decode prog_5_method_2_code 7 = .ok (.invokevirtual 26, 3) := by decide +kernel
theorem dd_se_nearestGoal_10 : decode prog_5_method_2_code 10 = .ok (.iconst 0, 1) := by decide +kernel
theorem dd_se_nearestGoal_11 : decode prog_5_method_2_code 11 = .ok (.istore 5, 2) := by decide +kernel
theorem dd_se_nearestGoal_13 : decode prog_5_method_2_code 13 = .ok (.iload 5, 2) := by decide +kernel
theorem dd_se_nearestGoal_15 : decode prog_5_method_2_code 15 = .ok (.aload_n 0, 1) := by decide +kernel
theorem dd_se_nearestGoal_16 : decode prog_5_method_2_code 16 = .ok (.getfield 30, 3) := by decide +kernel
theorem dd_se_nearestGoal_19 : decode prog_5_method_2_code 19 = .ok (.if_icmp .ge 50, 3) := by decide +kernel
theorem dd_se_nearestGoal_22 : decode prog_5_method_2_code 22 = .ok (.iload 5, 2) := by decide +kernel
theorem dd_se_nearestGoal_24 : decode prog_5_method_2_code 24 = .ok (.sipush 4096, 3) := by decide +kernel
theorem dd_se_nearestGoal_27 : decode prog_5_method_2_code 27 = .ok (.if_icmp .ge 42, 3) := by decide +kernel
theorem dd_se_nearestGoal_30 : decode prog_5_method_2_code 30 = .ok (.aload_n 0, 1) := by decide +kernel
theorem dd_se_nearestGoal_31 : decode prog_5_method_2_code 31 = .ok (.getfield 15, 3) := by decide +kernel
theorem dd_se_nearestGoal_34 : decode prog_5_method_2_code 34 = .ok (.iload 5, 2) := by decide +kernel
theorem dd_se_nearestGoal_36 : decode prog_5_method_2_code 36 = .ok (.iaload, 1) := by decide +kernel
theorem dd_se_nearestGoal_37 : decode prog_5_method_2_code 37 = .ok (.istore 6, 2) := by decide +kernel
theorem dd_se_nearestGoal_39 : decode prog_5_method_2_code 39 = .ok (.aload_n 0, 1) := by decide +kernel
theorem dd_se_nearestGoal_40 : decode prog_5_method_2_code 40 = .ok (.iload 6, 2) := by decide +kernel
theorem dd_se_nearestGoal_42 : decode prog_5_method_2_code 42 = .ok (.iload_n 3, 1) := by decide +kernel
theorem dd_se_nearestGoal_43 : decode prog_5_method_2_code 43 = .ok (.invokevirtual 33, 3) := by decide +kernel
theorem dd_se_nearestGoal_46 : decode prog_5_method_2_code 46 = .ok (.iload 4, 2) := by decide +kernel
theorem dd_se_nearestGoal_48 : decode prog_5_method_2_code 48 = .ok (.invokestatic 37, 3) := by decide +kernel
theorem dd_se_nearestGoal_51 : decode prog_5_method_2_code 51 = .ok (.ifCond .eq 6, 3) := by decide +kernel
theorem dd_se_nearestGoal_54 : decode prog_5_method_2_code 54 = .ok (.iload 6, 2) := by decide +kernel
theorem dd_se_nearestGoal_56 : decode prog_5_method_2_code 56 = .ok (.ireturn, 1) := by decide +kernel
theorem dd_se_nearestGoal_57 : decode prog_5_method_2_code 57 = .ok (.aload_n 0, 1) := by decide +kernel
theorem dd_se_nearestGoal_58 : decode prog_5_method_2_code 58 = .ok (.iload 6, 2) := by decide +kernel
theorem dd_se_nearestGoal_60 : decode prog_5_method_2_code 60 = .ok (.invokevirtual 41, 3) := by decide +kernel
theorem dd_se_nearestGoal_63 : decode prog_5_method_2_code 63 = .ok (.iinc 5 1, 3) := by decide +kernel
theorem dd_se_nearestGoal_66 : decode prog_5_method_2_code 66 = .ok (.goto (-53), 3) := by decide +kernel
theorem dd_se_nearestGoal_69 : decode prog_5_method_2_code 69 = .ok (.iconst (-1), 1) := by decide +kernel
theorem dd_se_nearestGoal_70 : decode prog_5_method_2_code 70 = .ok (.ireturn, 1) := by decide +kernel
theorem dd_se_begin_0 : decode prog_5_method_5_code 0 = .ok (.iconst 0, 1) := by decide +kernel
theorem dd_se_begin_1 : decode prog_5_method_5_code 1 = .ok (.istore_n 2, 1) := by decide +kernel
theorem dd_se_begin_2 : decode prog_5_method_5_code 2 = .ok (.iconst 0, 1) := by decide +kernel
theorem dd_se_begin_3 : decode prog_5_method_5_code 3 = .ok (.istore_n 3, 1) := by decide +kernel
theorem dd_se_begin_4 : decode prog_5_method_5_code 4 = .ok (.iload_n 3, 1) := by decide +kernel
theorem dd_se_begin_5 : decode prog_5_method_5_code 5 = .ok (.aload_n 0, 1) := by decide +kernel
theorem dd_se_begin_6 : decode prog_5_method_5_code 6 = .ok (.getfield 22, 3) := by decide +kernel
theorem dd_se_begin_9 : decode prog_5_method_5_code 9 = .ok (.if_icmp .ge 22, 3) := by decide +kernel
theorem dd_se_begin_12 : decode prog_5_method_5_code 12 = .ok (.iload_n 2, 1) := by decide +kernel
theorem dd_se_begin_13 : decode prog_5_method_5_code 13 = .ok (.aload_n 1, 1) := by decide +kernel
theorem dd_se_begin_14 : decode prog_5_method_5_code 14 = .ok (.iload_n 3, 1) := by decide +kernel
theorem dd_se_begin_15 : decode prog_5_method_5_code 15 = .ok (.iaload, 1) := by decide +kernel
theorem dd_se_begin_16 : decode prog_5_method_5_code 16 = .ok (.aload_n 0, 1) := by decide +kernel
theorem dd_se_begin_17 : decode prog_5_method_5_code 17 = .ok (.iload_n 3, 1) := by decide +kernel
theorem dd_se_begin_18 : decode prog_5_method_5_code 18 = .ok (.iconst 0, 1) := by decide +kernel
theorem dd_se_begin_19 : decode prog_5_method_5_code 19 = .ok (.invokevirtual 52, 3) := by decide +kernel
theorem dd_se_begin_22 : decode prog_5_method_5_code 22 = .ok (.ishl, 1) := by decide +kernel
theorem dd_se_begin_23 : decode prog_5_method_5_code 23 = .ok (.ior, 1) := by decide +kernel
theorem dd_se_begin_24 : decode prog_5_method_5_code 24 = .ok (.istore_n 2, 1) := by decide +kernel
theorem dd_se_begin_25 : decode prog_5_method_5_code 25 = .ok (.iinc 3 1, 3) := by decide +kernel
theorem dd_se_begin_28 : decode prog_5_method_5_code 28 = .ok (.goto (-24), 3) := by decide +kernel
theorem dd_se_begin_31 : decode prog_5_method_5_code 31 = .ok (.aload_n 0, 1) := by decide +kernel
theorem dd_se_begin_32 : decode prog_5_method_5_code 32 = .ok (.getfield 19, 3) := by decide +kernel
theorem dd_se_begin_35 : decode prog_5_method_5_code 35 = .ok (.iconst (-1), 1) := by decide +kernel
theorem dd_se_begin_36 : decode prog_5_method_5_code 36 = .ok (.invokestatic 55, 3) := by decide +kernel
theorem dd_se_begin_39 : decode prog_5_method_5_code 39 = .ok (.aload_n 0, 1) := by decide +kernel
theorem dd_se_begin_40 : decode prog_5_method_5_code 40 = .ok (.iconst 0, 1) := by decide +kernel
theorem dd_se_begin_41 : decode prog_5_method_5_code 41 = .ok (.putfield 30, 3) := by decide +kernel
theorem dd_se_begin_44 : decode prog_5_method_5_code 44 = .ok (.aload_n 0, 1) := by decide +kernel
theorem dd_se_begin_45 : decode prog_5_method_5_code 45 = .ok (.iload_n 2, 1) := by decide +kernel
theorem dd_se_begin_46 : decode prog_5_method_5_code 46 = .ok (.bipush (-2), 2) := by decide +kernel
theorem dd_se_begin_48 : decode prog_5_method_5_code 48 = .ok (.invokevirtual 61, 3) := by decide +kernel
theorem dd_se_begin_51 : decode prog_5_method_5_code 51 = .ok (.return_, 1) := by decide +kernel
theorem dd_se_pairBit_0 : decode prog_5_method_13_code 0 = .ok (.iload_n 1, 1) := by decide +kernel
theorem dd_se_pairBit_1 : decode prog_5_method_13_code 1 = .ok (.aload_n 0, 1) := by decide +kernel
theorem dd_se_pairBit_2 : decode prog_5_method_13_code 2 = .ok (.getfield 9, 3) := by decide +kernel
theorem dd_se_pairBit_5 : decode prog_5_method_13_code 5 = .ok (.getfield 71, 3) := by decide +kernel
theorem dd_se_pairBit_8 : decode prog_5_method_13_code 8 = .ok (.imul, 1) := by decide +kernel
theorem dd_se_pairBit_9 : decode prog_5_method_13_code 9 = .ok (.iload_n 2, 1) := by decide +kernel
theorem dd_se_pairBit_10 : decode prog_5_method_13_code 10 = .ok (.iadd, 1) := by decide +kernel
theorem dd_se_pairBit_11 : decode prog_5_method_13_code 11 = .ok (.ireturn, 1) := by decide +kernel
theorem dd_se_reach_0 : decode prog_5_method_8_code 0 = .ok (.aload_n 0, 1) := by decide +kernel
theorem dd_se_reach_1 : decode prog_5_method_8_code 1 = .ok (.getfield 19, 3) := by decide +kernel
theorem dd_se_reach_4 : decode prog_5_method_8_code 4 = .ok (.iload_n 1, 1) := by decide +kernel
theorem dd_se_reach_5 : decode prog_5_method_8_code 5 = .ok (.iload_n 2, 1) := by decide +kernel
theorem dd_se_reach_6 : decode prog_5_method_8_code 6 = .ok (.iastore, 1) := by decide +kernel
theorem dd_se_reach_7 : decode prog_5_method_8_code 7 = .ok (.aload_n 0, 1) := by decide +kernel
theorem dd_se_reach_8 : decode prog_5_method_8_code 8 = .ok (.getfield 15, 3) := by decide +kernel
theorem dd_se_reach_11 : decode prog_5_method_8_code 11 = .ok (.aload_n 0, 1) := by decide +kernel
theorem dd_se_reach_12 : decode prog_5_method_8_code 12 = .ok (.getfield 30, 3) := by decide +kernel
theorem dd_se_reach_15 : decode prog_5_method_8_code 15 = .ok (.iload_n 1, 1) := by decide +kernel
theorem dd_se_reach_16 : decode prog_5_method_8_code 16 = .ok (.iastore, 1) := by decide +kernel
theorem dd_se_reach_17 : decode prog_5_method_8_code 17 = .ok (.aload_n 0, 1) := by decide +kernel
theorem dd_se_reach_18 : decode prog_5_method_8_code 18 = .ok (.dup, 1) := by decide +kernel
theorem dd_se_reach_19 : decode prog_5_method_8_code 19 = .ok (.getfield 30, 3) := by decide +kernel
theorem dd_se_reach_22 : decode prog_5_method_8_code 22 = .ok (.iconst 1, 1) := by decide +kernel
theorem dd_se_reach_23 : decode prog_5_method_8_code 23 = .ok (.iadd, 1) := by decide +kernel
theorem dd_se_reach_24 : decode prog_5_method_8_code 24 = .ok (.putfield 30, 3) := by decide +kernel
theorem dd_se_reach_27 : decode prog_5_method_8_code 27 = .ok (.return_, 1) := by decide +kernel
theorem dd_se_authorizedIn_0 : decode prog_5_method_11_code 0 = .ok (.aload_n 0, 1) := by decide +kernel
theorem dd_se_authorizedIn_1 : decode prog_5_method_11_code 1 = .ok (.getfield 9, 3) := by decide +kernel
theorem dd_se_authorizedIn_4 : decode prog_5_method_11_code 4 = .ok (.getfield 80, 3) := by decide +kernel
theorem dd_se_authorizedIn_7 : decode prog_5_method_11_code 7 = .ok (.aload_n 0, 1) := by decide +kernel
theorem dd_se_authorizedIn_8 : decode prog_5_method_11_code 8 = .ok (.iload_n 1, 1) := by decide +kernel
theorem dd_se_authorizedIn_9 : decode prog_5_method_11_code 9 = .ok (.iload_n 2, 1) := by decide +kernel
theorem dd_se_authorizedIn_10 : decode prog_5_method_11_code 10 = .ok (.invokevirtual 68, 3) := by decide +kernel
theorem dd_se_authorizedIn_13 : decode prog_5_method_11_code 13 = .ok (.iaload, 1) := by decide +kernel
theorem dd_se_authorizedIn_14 : decode prog_5_method_11_code 14 = .ok (.ireturn, 1) := by decide +kernel
theorem dd_se_assignedIn_0 : decode prog_5_method_12_code 0 = .ok (.iload_n 1, 1) := by decide +kernel
theorem dd_se_assignedIn_1 : decode prog_5_method_12_code 1 = .ok (.aload_n 0, 1) := by decide +kernel
theorem dd_se_assignedIn_2 : decode prog_5_method_12_code 2 = .ok (.iload_n 2, 1) := by decide +kernel
theorem dd_se_assignedIn_3 : decode prog_5_method_12_code 3 = .ok (.iconst 0, 1) := by decide +kernel
theorem dd_se_assignedIn_4 : decode prog_5_method_12_code 4 = .ok (.invokevirtual 52, 3) := by decide +kernel
theorem dd_se_assignedIn_7 : decode prog_5_method_12_code 7 = .ok (.ishr, 1) := by decide +kernel
theorem dd_se_assignedIn_8 : decode prog_5_method_12_code 8 = .ok (.iconst 1, 1) := by decide +kernel
theorem dd_se_assignedIn_9 : decode prog_5_method_12_code 9 = .ok (.aload_n 0, 1) := by decide +kernel
theorem dd_se_assignedIn_10 : decode prog_5_method_12_code 10 = .ok (.getfield 9, 3) := by decide +kernel
theorem dd_se_assignedIn_13 : decode prog_5_method_12_code 13 = .ok (.getfield 71, 3) := by decide +kernel
theorem dd_se_assignedIn_16 : decode prog_5_method_12_code 16 = .ok (.ishl, 1) := by decide +kernel
theorem dd_se_assignedIn_17 : decode prog_5_method_12_code 17 = .ok (.iconst 1, 1) := by decide +kernel
theorem dd_se_assignedIn_18 : decode prog_5_method_12_code 18 = .ok (.isub, 1) := by decide +kernel
theorem dd_se_assignedIn_19 : decode prog_5_method_12_code 19 = .ok (.iand, 1) := by decide +kernel
theorem dd_se_assignedIn_20 : decode prog_5_method_12_code 20 = .ok (.ireturn, 1) := by decide +kernel
