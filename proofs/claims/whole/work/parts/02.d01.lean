/-! decode rows: printed by wip/whole/facts.py -/
theorem dd_po_putAbove_0 : decode prog_3_method_4_code 0 = .ok (.iconst 0, 1) := by decide +kernel
theorem dd_po_putAbove_1 : decode prog_3_method_4_code 1 = .ok (.istore_n 3, 1) := by decide +kernel
theorem dd_po_putAbove_2 : decode prog_3_method_4_code 2 = .ok (.iload_n 3, 1) := by decide +kernel
theorem dd_po_putAbove_3 : decode prog_3_method_4_code 3 = .ok (.bipush 64, 2) := by decide +kernel
theorem dd_po_putAbove_5 : decode prog_3_method_4_code 5 = .ok (.if_icmp .ge 27, 3) := by decide +kernel
theorem dd_po_putAbove_8 : decode prog_3_method_4_code 8 = .ok (.aload_n 0, 1) := by decide +kernel
theorem dd_po_putAbove_9 : decode prog_3_method_4_code 9 = .ok (.getfield 9, 3) := by decide +kernel
theorem dd_po_putAbove_12 : decode prog_3_method_4_code 12 = .ok (.iload_n 3, 1) := by decide +kernel
theorem dd_po_putAbove_13 : decode prog_3_method_4_code 13 = .ok (.aload_n 0, 1) := by decide +kernel
theorem dd_po_putAbove_14 : decode prog_3_method_4_code 14 = .ok (.aload_n 0, 1) := by decide +kernel
theorem dd_po_putAbove_15 : decode prog_3_method_4_code 15 = .ok (.getfield 9, 3) := by decide +kernel
theorem dd_po_putAbove_18 : decode prog_3_method_4_code 18 = .ok (.iload_n 3, 1) := by decide +kernel
theorem dd_po_putAbove_19 : decode prog_3_method_4_code 19 = .ok (.iaload, 1) := by decide +kernel
theorem dd_po_putAbove_20 : decode prog_3_method_4_code 20 = .ok (.iload_n 1, 1) := by decide +kernel
theorem dd_po_putAbove_21 : decode prog_3_method_4_code 21 = .ok (.iload_n 2, 1) := by decide +kernel
theorem dd_po_putAbove_22 : decode prog_3_method_4_code 22 = .ok (.invokevirtual 32, 3) := by decide +kernel
theorem dd_po_putAbove_25 : decode prog_3_method_4_code 25 = .ok (.iastore, 1) := by decide +kernel
theorem dd_po_putAbove_26 : decode prog_3_method_4_code 26 = .ok (.iinc 3 1, 3) := by decide +kernel
theorem dd_po_putAbove_29 : decode prog_3_method_4_code 29 = .ok (.goto (-27), 3) := by decide +kernel
theorem dd_po_putAbove_32 : decode prog_3_method_4_code 32 = .ok (.return_, 1) := by decide +kernel
theorem dd_lw_grant_0 : decode method_6_code 0 = .ok (.aload_n 3, 1) := by decide +kernel
theorem dd_lw_grant_1 : decode method_6_code 1 = .ok (.iconst 0, 1) := by decide +kernel
theorem dd_lw_grant_2 : decode method_6_code 2 = .ok (.aload_n 0, 1) := by decide +kernel
theorem dd_lw_grant_3 : decode method_6_code 3 = .ok (.iload_n 1, 1) := by decide +kernel
theorem dd_lw_grant_4 : decode method_6_code 4 = .ok (.iload_n 2, 1) := by decide +kernel
theorem dd_lw_grant_5 : decode method_6_code 5 = .ok (.invokevirtual 26, 3) := by decide +kernel
theorem dd_lw_grant_8 : decode method_6_code 8 = .ok (.ifCond .eq 7, 3) := by decide +kernel
theorem dd_lw_grant_11 : decode method_6_code 11 = .ok (.lconst 1, 1) := by decide +kernel
theorem dd_lw_grant_12 : decode method_6_code 12 = .ok (.goto 4, 3) := by decide +kernel
theorem dd_lw_grant_15 : decode method_6_code 15 = .ok (.lconst 0, 1) := by decide +kernel
theorem dd_lw_grant_16 : decode method_6_code 16 = .ok (.lastore, 1) := by decide +kernel
theorem dd_lw_grant_17 : decode method_6_code 17 = .ok (.goto 7, 3) := by decide +kernel
theorem dd_lw_grant_20 : decode method_6_code 20 = .ok (.astore 4, 2) := by decide +kernel
theorem dd_lw_grant_22 : decode method_6_code 22 = .ok (.iconst 1, 1) := by decide +kernel
theorem dd_lw_grant_23 : decode method_6_code 23 = .ok (.ireturn, 1) := by decide +kernel
theorem dd_lw_grant_24 : decode method_6_code 24 = .ok (.iconst 0, 1) := by decide +kernel
theorem dd_lw_grant_25 : decode method_6_code 25 = .ok (.ireturn, 1) := by decide +kernel
theorem dd_ra_grant_0 : decode prog_1_method_5_code 0 = .ok (.aload_n 0, 1) := by decide +kernel
theorem dd_ra_grant_1 : decode prog_1_method_5_code 1 = .ok (.iload_n 1, 1) := by decide +kernel
theorem dd_ra_grant_2 : decode prog_1_method_5_code 2 = .ok (.invokevirtual 60, 3) := by decide +kernel
theorem dd_ra_grant_5 : decode prog_1_method_5_code 5 = .ok (.iload_n 2, 1) := by decide +kernel
theorem dd_ra_grant_6 : decode prog_1_method_5_code 6 = .ok (.invokestatic 88, 3) := by decide +kernel
theorem dd_ra_grant_9 : decode prog_1_method_5_code 9 = .ok (.aload_n 0, 1) := by decide +kernel
theorem dd_ra_grant_10 : decode prog_1_method_5_code 10 = .ok (.getfield 29, 3) := by decide +kernel
theorem dd_ra_grant_13 : decode prog_1_method_5_code 13 = .ok (.iload_n 1, 1) := by decide +kernel
theorem dd_ra_grant_14 : decode prog_1_method_5_code 14 = .ok (.iaload, 1) := by decide +kernel
theorem dd_ra_grant_15 : decode prog_1_method_5_code 15 = .ok (.iload_n 2, 1) := by decide +kernel
theorem dd_ra_grant_16 : decode prog_1_method_5_code 16 = .ok (.invokestatic 91, 3) := by decide +kernel
theorem dd_ra_grant_19 : decode prog_1_method_5_code 19 = .ok (.ifCond .ne 7, 3) := by decide +kernel
theorem dd_ra_grant_22 : decode prog_1_method_5_code 22 = .ok (.iconst 1, 1) := by decide +kernel
theorem dd_ra_grant_23 : decode prog_1_method_5_code 23 = .ok (.goto 4, 3) := by decide +kernel
theorem dd_ra_grant_26 : decode prog_1_method_5_code 26 = .ok (.iconst 0, 1) := by decide +kernel
theorem dd_ra_grant_27 : decode prog_1_method_5_code 27 = .ok (.istore_n 3, 1) := by decide +kernel
theorem dd_ra_grant_28 : decode prog_1_method_5_code 28 = .ok (.aload_n 0, 1) := by decide +kernel
theorem dd_ra_grant_29 : decode prog_1_method_5_code 29 = .ok (.getfield 29, 3) := by decide +kernel
theorem dd_ra_grant_32 : decode prog_1_method_5_code 32 = .ok (.iload_n 1, 1) := by decide +kernel
theorem dd_ra_grant_33 : decode prog_1_method_5_code 33 = .ok (.dup2, 1) := by decide +kernel
theorem dd_ra_grant_34 : decode prog_1_method_5_code 34 = .ok (.iaload, 1) := by decide +kernel
theorem dd_ra_grant_35 : decode prog_1_method_5_code 35 = .ok (.iconst 1, 1) := by decide +kernel
theorem dd_ra_grant_36 : decode prog_1_method_5_code 36 = .ok (.iload_n 2, 1) := by decide +kernel
theorem dd_ra_grant_37 : decode prog_1_method_5_code 37 = .ok (.ishl, 1) := by decide +kernel
theorem dd_ra_grant_38 : decode prog_1_method_5_code 38 = .ok (.ior, 1) := by decide +kernel
theorem dd_ra_grant_39 : decode prog_1_method_5_code 39 = .ok (.iastore, 1) := by decide +kernel
theorem dd_ra_grant_40 : decode prog_1_method_5_code 40 = .ok (.iload_n 3, 1) := by decide +kernel
theorem dd_ra_grant_41 : decode prog_1_method_5_code 41 = .ok (.ireturn, 1) := by decide +kernel
theorem dd_ra_checkPermission_0 : decode prog_1_method_34_code 0 = .ok (.iload_n 0, 1) := by decide +kernel
theorem dd_ra_checkPermission_1 : decode prog_1_method_34_code 1 = .ok (.ifCond .lt 9, 3) := by decide +kernel
theorem dd_ra_checkPermission_4 : decode prog_1_method_34_code 4 = .ok (.iload_n 0, 1) := by decide +kernel
theorem dd_ra_checkPermission_5 : decode prog_1_method_34_code 5 = .ok (.bipush 31, 2) := by decide +kernel
theorem dd_ra_checkPermission_7 : decode prog_1_method_34_code 7 = .ok (.if_icmp .lt 13, 3) := by decide +kernel
theorem dd_ra_checkPermission_10 : decode prog_1_method_34_code 10 = .ok (.new 195, 3) := by decide +kernel
theorem dd_ra_checkPermission_13 : decode prog_1_method_34_code 13 = .ok (.dup, 1) := by decide +kernel
theorem dd_ra_checkPermission_14 : decode prog_1_method_34_code 14 = .ok (.ldc 219, 2) := by decide +kernel
theorem dd_ra_checkPermission_16 : decode prog_1_method_34_code 16 = .ok (.invokespecial 199, 3) := by decide +kernel
theorem dd_ra_checkPermission_19 : decode prog_1_method_34_code 19 = .ok (.athrow, 1) := by decide +kernel
theorem dd_ra_checkPermission_20 : decode prog_1_method_34_code 20 = .ok (.return_, 1) := by decide +kernel
theorem dd_lw_limit_0 : decode method_7_code 0 = .ok (.aload_n 0, 1) := by decide +kernel
theorem dd_lw_limit_1 : decode method_7_code 1 = .ok (.iload_n 1, 1) := by decide +kernel
theorem dd_lw_limit_2 : decode method_7_code 2 = .ok (.iload_n 2, 1) := by decide +kernel
theorem dd_lw_limit_3 : decode method_7_code 3 = .ok (.iload_n 3, 1) := by decide +kernel
theorem dd_lw_limit_4 : decode method_7_code 4 = .ok (.invokevirtual 29, 3) := by decide +kernel
theorem dd_lw_limit_7 : decode method_7_code 7 = .ok (.goto 11, 3) := by decide +kernel
theorem dd_lw_limit_10 : decode method_7_code 10 = .ok (.astore 4, 2) := by decide +kernel
theorem dd_lw_limit_12 : decode method_7_code 12 = .ok (.iconst 1, 1) := by decide +kernel
theorem dd_lw_limit_13 : decode method_7_code 13 = .ok (.ireturn, 1) := by decide +kernel
theorem dd_lw_limit_14 : decode method_7_code 14 = .ok (.astore 4, 2) := by decide +kernel
theorem dd_lw_limit_16 : decode method_7_code 16 = .ok (.iconst 2, 1) := by decide +kernel
theorem dd_lw_limit_17 : decode method_7_code 17 = .ok (.ireturn, 1) := by decide +kernel
theorem dd_lw_limit_18 : decode method_7_code 18 = .ok (.iconst 0, 1) := by decide +kernel
theorem dd_lw_limit_19 : decode method_7_code 19 = .ok (.ireturn, 1) := by decide +kernel
theorem dd_ra_limit_0 : decode prog_1_method_6_code 0 = .ok (.iload_n 3, 1) := by decide +kernel
theorem dd_ra_limit_1 : decode prog_1_method_6_code 1 = .ok (.iconst 2, 1) := by decide +kernel
theorem dd_ra_limit_2 : decode prog_1_method_6_code 2 = .ok (.if_icmp .ge 13, 3) := by decide +kernel
theorem dd_ra_limit_5 : decode prog_1_method_6_code 5 = .ok (.new 68, 3) := by decide +kernel
theorem dd_ra_limit_8 : decode prog_1_method_6_code 8 = .ok (.dup, 1) := by decide +kernel
theorem dd_ra_limit_9 : decode prog_1_method_6_code 9 = .ok (.ldc 94, 2) := by decide +kernel
theorem dd_ra_limit_11 : decode prog_1_method_6_code 11 = .ok (.invokespecial 72, 3) := by decide +kernel
theorem dd_ra_limit_14 : decode prog_1_method_6_code 14 = .ok (.athrow, 1) := by decide +kernel
theorem dd_ra_limit_15 : decode prog_1_method_6_code 15 = .ok (.iload_n 2, 1) := by decide +kernel
theorem dd_ra_limit_16 : decode prog_1_method_6_code 16 = .ok (.invokestatic 96, 3) := by decide +kernel
theorem dd_ra_limit_19 : decode prog_1_method_6_code 19 = .ok (.iload_n 1, 1) := by decide +kernel
theorem dd_ra_limit_20 : decode prog_1_method_6_code 20 = .ok (.ifCond .eq 13, 3) := by decide +kernel
theorem dd_ra_limit_23 : decode prog_1_method_6_code 23 = .ok (.aload_n 0, 1) := by decide +kernel
theorem dd_ra_limit_24 : decode prog_1_method_6_code 24 = .ok (.getfield 12, 3) := by decide +kernel
theorem dd_ra_limit_27 : decode prog_1_method_6_code 27 = .ok (.getfield 99, 3) := by decide +kernel
theorem dd_ra_limit_30 : decode prog_1_method_6_code 30 = .ok (.goto 10, 3) := by decide +kernel
theorem dd_ra_limit_33 : decode prog_1_method_6_code 33 = .ok (.aload_n 0, 1) := by decide +kernel
theorem dd_ra_limit_34 : decode prog_1_method_6_code 34 = .ok (.getfield 12, 3) := by decide +kernel
theorem dd_ra_limit_37 : decode prog_1_method_6_code 37 = .ok (.getfield 103, 3) := by decide +kernel
theorem dd_ra_limit_40 : decode prog_1_method_6_code 40 = .ok (.astore 4, 2) := by decide +kernel
theorem dd_ra_limit_42 : decode prog_1_method_6_code 42 = .ok (.aload 4, 2) := by decide +kernel
theorem dd_ra_limit_44 : decode prog_1_method_6_code 44 = .ok (.invokevirtual 106, 3) := by decide +kernel
theorem dd_ra_limit_47 : decode prog_1_method_6_code 47 = .ok (.iconst 4, 1) := by decide +kernel
theorem dd_ra_limit_48 : decode prog_1_method_6_code 48 = .ok (.if_icmp .lt 13, 3) := by decide +kernel
theorem dd_ra_limit_51 : decode prog_1_method_6_code 51 = .ok (.new 48, 3) := by decide +kernel
theorem dd_ra_limit_54 : decode prog_1_method_6_code 54 = .ok (.dup, 1) := by decide +kernel
theorem dd_ra_limit_55 : decode prog_1_method_6_code 55 = .ok (.ldc 112, 2) := by decide +kernel
theorem dd_ra_limit_57 : decode prog_1_method_6_code 57 = .ok (.invokespecial 52, 3) := by decide +kernel
theorem dd_ra_limit_60 : decode prog_1_method_6_code 60 = .ok (.athrow, 1) := by decide +kernel
theorem dd_ra_limit_61 : decode prog_1_method_6_code 61 = .ok (.new 114, 3) := by decide +kernel
theorem dd_ra_limit_64 : decode prog_1_method_6_code 64 = .ok (.dup, 1) := by decide +kernel
theorem dd_ra_limit_65 : decode prog_1_method_6_code 65 = .ok (.iload_n 2, 1) := by decide +kernel
theorem dd_ra_limit_66 : decode prog_1_method_6_code 66 = .ok (.iload_n 3, 1) := by decide +kernel
theorem dd_ra_limit_67 : decode prog_1_method_6_code 67 = .ok (.invokespecial 116, 3) := by decide +kernel
theorem dd_ra_limit_70 : decode prog_1_method_6_code 70 = .ok (.astore 5, 2) := by decide +kernel
theorem dd_ra_limit_72 : decode prog_1_method_6_code 72 = .ok (.iload_n 1, 1) := by decide +kernel
theorem dd_ra_limit_73 : decode prog_1_method_6_code 73 = .ok (.ifCond .eq 15, 3) := by decide +kernel
theorem dd_ra_limit_76 : decode prog_1_method_6_code 76 = .ok (.aload_n 0, 1) := by decide +kernel
theorem dd_ra_limit_77 : decode prog_1_method_6_code 77 = .ok (.aload 5, 2) := by decide +kernel
theorem dd_ra_limit_79 : decode prog_1_method_6_code 79 = .ok (.invokevirtual 118, 3) := by decide +kernel
theorem dd_ra_limit_82 : decode prog_1_method_6_code 82 = .ok (.ifCond .eq 15, 3) := by decide +kernel
theorem dd_ra_limit_85 : decode prog_1_method_6_code 85 = .ok (.goto 22, 3) := by decide +kernel
theorem dd_ra_limit_88 : decode prog_1_method_6_code 88 = .ok (.aload_n 0, 1) := by decide +kernel
theorem dd_ra_limit_89 : decode prog_1_method_6_code 89 = .ok (.aload 5, 2) := by decide +kernel
theorem dd_ra_limit_91 : decode prog_1_method_6_code 91 = .ok (.invokevirtual 122, 3) := by decide +kernel
theorem dd_ra_limit_94 : decode prog_1_method_6_code 94 = .ok (.ifCond .ne 13, 3) := by decide +kernel
theorem dd_ra_limit_97 : decode prog_1_method_6_code 97 = .ok (.new 48, 3) := by decide +kernel
theorem dd_ra_limit_100 : decode prog_1_method_6_code 100 = .ok (.dup, 1) := by decide +kernel
theorem dd_ra_limit_101 : decode prog_1_method_6_code 101 = .ok (.ldc 125, 2) := by decide +kernel
theorem dd_ra_limit_103 : decode prog_1_method_6_code 103 = .ok (.invokespecial 52, 3) := by decide +kernel
theorem dd_ra_limit_106 : decode prog_1_method_6_code 106 = .ok (.athrow, 1) := by decide +kernel
theorem dd_ra_limit_107 : decode prog_1_method_6_code 107 = .ok (.aload 4, 2) := by decide +kernel
theorem dd_ra_limit_109 : decode prog_1_method_6_code 109 = .ok (.aload 5, 2) := by decide +kernel
theorem dd_ra_limit_111 : decode prog_1_method_6_code 111 = .ok (.invokevirtual 127, 3) := by decide +kernel
theorem dd_ra_limit_114 : decode prog_1_method_6_code 114 = .ok (.pop, 1) := by decide +kernel
theorem dd_ra_limit_115 : decode prog_1_method_6_code 115 = .ok (.return_, 1) := by decide +kernel
theorem dd_ra_checkRoleSet_0 : decode prog_1_method_35_code 0 = .ok (.iload_n 0, 1) := by decide +kernel
theorem dd_ra_checkRoleSet_1 : decode prog_1_method_35_code 1 = .ok (.ifCond .lt 9, 3) := by decide +kernel
theorem dd_ra_checkRoleSet_4 : decode prog_1_method_35_code 4 = .ok (.iload_n 0, 1) := by decide +kernel
theorem dd_ra_checkRoleSet_5 : decode prog_1_method_35_code 5 = .ok (.bipush 64, 2) := by decide +kernel
theorem dd_ra_checkRoleSet_7 : decode prog_1_method_35_code 7 = .ok (.if_icmp .lt 13, 3) := by decide +kernel
theorem dd_ra_checkRoleSet_10 : decode prog_1_method_35_code 10 = .ok (.new 68, 3) := by decide +kernel
theorem dd_ra_checkRoleSet_13 : decode prog_1_method_35_code 13 = .ok (.dup, 1) := by decide +kernel
theorem dd_ra_checkRoleSet_14 : decode prog_1_method_35_code 14 = .ok (.ldc 221, 2) := by decide +kernel
theorem dd_ra_checkRoleSet_16 : decode prog_1_method_35_code 16 = .ok (.invokespecial 72, 3) := by decide +kernel
theorem dd_ra_checkRoleSet_19 : decode prog_1_method_35_code 19 = .ok (.athrow, 1) := by decide +kernel
theorem dd_ra_checkRoleSet_20 : decode prog_1_method_35_code 20 = .ok (.return_, 1) := by decide +kernel
theorem dd_li_init_0 : decode prog_2_method_1_code 0 = .ok (.aload_n 0, 1) := by decide +kernel
theorem dd_li_init_1 : decode prog_2_method_1_code 1 = .ok (.invokespecial 1, 3) := by decide +kernel
theorem dd_li_init_4 : decode prog_2_method_1_code 4 = .ok (.aload_n 0, 1) := by decide +kernel
theorem dd_li_init_5 : decode prog_2_method_1_code 5 = .ok (.iload_n 1, 1) := by decide +kernel
theorem dd_li_init_6 : decode prog_2_method_1_code 6 = .ok (.putfield 7, 3) := by decide +kernel
theorem dd_li_init_9 : decode prog_2_method_1_code 9 = .ok (.aload_n 0, 1) := by decide +kernel
theorem dd_li_init_10 : decode prog_2_method_1_code 10 = .ok (.iload_n 2, 1) := by decide +kernel
theorem dd_li_init_11 : decode prog_2_method_1_code 11 = .ok (.putfield 13, 3) := by decide +kernel
theorem dd_li_init_14 : decode prog_2_method_1_code 14 = .ok (.return_, 1) := by decide +kernel
theorem dd_ra_isKeptBySessions_0 : decode prog_1_method_26_code 0 = .ok (.iconst 0, 1) := by decide +kernel
theorem dd_ra_isKeptBySessions_1 : decode prog_1_method_26_code 1 = .ok (.istore_n 2, 1) := by decide +kernel
theorem dd_ra_isKeptBySessions_2 : decode prog_1_method_26_code 2 = .ok (.iload_n 2, 1) := by decide +kernel
theorem dd_ra_isKeptBySessions_3 : decode prog_1_method_26_code 3 = .ok (.iconst 4, 1) := by decide +kernel
theorem dd_ra_isKeptBySessions_4 : decode prog_1_method_26_code 4 = .ok (.if_icmp .ge 24, 3) := by decide +kernel
theorem dd_ra_isKeptBySessions_7 : decode prog_1_method_26_code 7 = .ok (.aload_n 1, 1) := by decide +kernel
theorem dd_ra_isKeptBySessions_8 : decode prog_1_method_26_code 8 = .ok (.aload_n 0, 1) := by decide +kernel
theorem dd_ra_isKeptBySessions_9 : decode prog_1_method_26_code 9 = .ok (.getfield 35, 3) := by decide +kernel
theorem dd_ra_isKeptBySessions_12 : decode prog_1_method_26_code 12 = .ok (.iload_n 2, 1) := by decide +kernel
theorem dd_ra_isKeptBySessions_13 : decode prog_1_method_26_code 13 = .ok (.iaload, 1) := by decide +kernel
theorem dd_ra_isKeptBySessions_14 : decode prog_1_method_26_code 14 = .ok (.invokevirtual 191, 3) := by decide +kernel
theorem dd_ra_isKeptBySessions_17 : decode prog_1_method_26_code 17 = .ok (.ifCond .ne 5, 3) := by decide +kernel
theorem dd_ra_isKeptBySessions_20 : decode prog_1_method_26_code 20 = .ok (.iconst 0, 1) := by decide +kernel
theorem dd_ra_isKeptBySessions_21 : decode prog_1_method_26_code 21 = .ok (.ireturn, 1) := by decide +kernel
theorem dd_ra_isKeptBySessions_22 : decode prog_1_method_26_code 22 = .ok (.iinc 2 1, 3) := by decide +kernel
theorem dd_ra_isKeptBySessions_25 : decode prog_1_method_26_code 25 = .ok (.goto (-23), 3) := by decide +kernel
theorem dd_ra_isKeptBySessions_28 : decode prog_1_method_26_code 28 = .ok (.iconst 1, 1) := by decide +kernel
theorem dd_ra_isKeptBySessions_29 : decode prog_1_method_26_code 29 = .ok (.ireturn, 1) := by decide +kernel
theorem dd_ra_isKeptByUsers_0 : decode prog_1_method_25_code 0 = .ok (.iconst 0, 1) := by decide +kernel
theorem dd_ra_isKeptByUsers_1 : decode prog_1_method_25_code 1 = .ok (.istore_n 2, 1) := by decide +kernel
theorem dd_ra_isKeptByUsers_2 : decode prog_1_method_25_code 2 = .ok (.iload_n 2, 1) := by decide +kernel
theorem dd_ra_isKeptByUsers_3 : decode prog_1_method_25_code 3 = .ok (.aload_n 0, 1) := by decide +kernel
theorem dd_ra_isKeptByUsers_4 : decode prog_1_method_25_code 4 = .ok (.getfield 55, 3) := by decide +kernel
theorem dd_ra_isKeptByUsers_7 : decode prog_1_method_25_code 7 = .ok (.if_icmp .ge 23, 3) := by decide +kernel
theorem dd_ra_isKeptByUsers_10 : decode prog_1_method_25_code 10 = .ok (.aload_n 1, 1) := by decide +kernel
theorem dd_ra_isKeptByUsers_11 : decode prog_1_method_25_code 11 = .ok (.aload_n 0, 1) := by decide +kernel
theorem dd_ra_isKeptByUsers_12 : decode prog_1_method_25_code 12 = .ok (.iload_n 2, 1) := by decide +kernel
theorem dd_ra_isKeptByUsers_13 : decode prog_1_method_25_code 13 = .ok (.invokevirtual 73, 3) := by decide +kernel
theorem dd_ra_isKeptByUsers_16 : decode prog_1_method_25_code 16 = .ok (.invokevirtual 191, 3) := by decide +kernel
theorem dd_ra_isKeptByUsers_19 : decode prog_1_method_25_code 19 = .ok (.ifCond .ne 5, 3) := by decide +kernel
theorem dd_ra_isKeptByUsers_22 : decode prog_1_method_25_code 22 = .ok (.iconst 0, 1) := by decide +kernel
theorem dd_ra_isKeptByUsers_23 : decode prog_1_method_25_code 23 = .ok (.ireturn, 1) := by decide +kernel
theorem dd_ra_isKeptByUsers_24 : decode prog_1_method_25_code 24 = .ok (.iinc 2 1, 3) := by decide +kernel
theorem dd_ra_isKeptByUsers_27 : decode prog_1_method_25_code 27 = .ok (.goto (-25), 3) := by decide +kernel
theorem dd_ra_isKeptByUsers_30 : decode prog_1_method_25_code 30 = .ok (.iconst 1, 1) := by decide +kernel
theorem dd_ra_isKeptByUsers_31 : decode prog_1_method_25_code 31 = .ok (.ireturn, 1) := by decide +kernel
theorem dd_al_add1_0 : decode prog_24_method_25_code 0 = .ok (.aload_n 0, 1) := by decide +kernel
theorem dd_al_add1_1 : decode prog_24_method_25_code 1 = .ok (.dup, 1) := by decide +kernel
theorem dd_al_add1_2 : decode prog_24_method_25_code 2 = .ok (.getfield 63, 3) := by decide +kernel
theorem dd_al_add1_5 : decode prog_24_method_25_code 5 = .ok (.iconst 1, 1) := by decide +kernel
theorem dd_al_add1_6 : decode prog_24_method_25_code 6 = .ok (.iadd, 1) := by decide +kernel
theorem dd_al_add1_7 : decode prog_24_method_25_code 7 = .ok (.putfield 63, 3) := by decide +kernel
theorem dd_al_add1_10 : decode prog_24_method_25_code 10 = .ok (.aload_n 0, 1) := by decide +kernel
theorem dd_al_add1_11 : decode prog_24_method_25_code 11 = .ok (.aload_n 1, 1) := by decide +kernel
theorem dd_al_add1_12 : decode prog_24_method_25_code 12 = .ok (.aload_n 0, 1) := by decide +kernel
theorem dd_al_add1_13 : decode prog_24_method_25_code 13 = .ok (.getfield 9, 3) := by decide +kernel
theorem dd_al_add1_16 : decode prog_24_method_25_code 16 = .ok (.aload_n 0, 1) := by decide +kernel
theorem dd_al_add1_17 : decode prog_24_method_25_code 17 = .ok (.getfield 48, 3) := by decide +kernel
theorem dd_al_add1_20 : decode prog_24_method_25_code 20 = .ok (.invokevirtual 131, 3) := by decide +kernel
theorem dd_al_add1_23 : decode prog_24_method_25_code 23 = .ok (.iconst 1, 1) := by decide +kernel
theorem dd_al_add1_24 : decode prog_24_method_25_code 24 = .ok (.ireturn, 1) := by decide +kernel
theorem dd_al_add2_0 : decode prog_24_method_24_code 0 = .ok (.iload_n 3, 1) := by decide +kernel
theorem dd_al_add2_1 : decode prog_24_method_24_code 1 = .ok (.aload_n 2, 1) := by decide +kernel
theorem dd_al_add2_2 : decode prog_24_method_24_code 2 = .ok (.arraylength, 1) := by decide +kernel
theorem dd_al_add2_3 : decode prog_24_method_24_code 3 = .ok (.if_icmp .ne 8, 3) := by decide +kernel
theorem dd_al_add2_6 : decode prog_24_method_24_code 6 = .ok (.aload_n 0, 1) := by decide +kernel
theorem dd_al_add2_7 : decode prog_24_method_24_code 7 = .ok (.invokevirtual 129, 3) := by decide +kernel
theorem dd_al_add2_10 : decode prog_24_method_24_code 10 = .ok (.astore_n 2, 1) := by decide +kernel
theorem dd_al_add2_11 : decode prog_24_method_24_code 11 = .ok (.aload_n 2, 1) := by decide +kernel
theorem dd_al_add2_12 : decode prog_24_method_24_code 12 = .ok (.iload_n 3, 1) := by decide +kernel
theorem dd_al_add2_13 : decode prog_24_method_24_code 13 = .ok (.aload_n 1, 1) := by decide +kernel
theorem dd_al_add2_14 : decode prog_24_method_24_code 14 = .ok (.aastore, 1) := by decide +kernel
theorem dd_al_add2_15 : decode prog_24_method_24_code 15 = .ok (.aload_n 0, 1) := by decide +kernel
theorem dd_al_add2_16 : decode prog_24_method_24_code 16 = .ok (.iload_n 3, 1) := by decide +kernel
theorem dd_al_add2_17 : decode prog_24_method_24_code 17 = .ok (.iconst 1, 1) := by decide +kernel
theorem dd_al_add2_18 : decode prog_24_method_24_code 18 = .ok (.iadd, 1) := by decide +kernel
theorem dd_al_add2_19 : decode prog_24_method_24_code 19 = .ok (.putfield 48, 3) := by decide +kernel
theorem dd_al_add2_22 : decode prog_24_method_24_code 22 = .ok (.return_, 1) := by decide +kernel
theorem dd_al_grow1_0 : decode prog_24_method_7_code 0 = .ok (.aload_n 0, 1) := by decide +kernel
theorem dd_al_grow1_1 : decode prog_24_method_7_code 1 = .ok (.aload_n 0, 1) := by decide +kernel
theorem dd_al_grow1_2 : decode prog_24_method_7_code 2 = .ok (.getfield 48, 3) := by decide +kernel
theorem dd_al_grow1_5 : decode prog_24_method_7_code 5 = .ok (.iconst 1, 1) := by decide +kernel
theorem dd_al_grow1_6 : decode prog_24_method_7_code 6 = .ok (.iadd, 1) := by decide +kernel
theorem dd_al_grow1_7 : decode prog_24_method_7_code 7 = .ok (.invokevirtual 69, 3) := by decide +kernel
theorem dd_al_grow1_10 : decode prog_24_method_7_code 10 = .ok (.areturn, 1) := by decide +kernel
theorem dd_al_grow2_0 : decode prog_24_method_6_code 0 = .ok (.aload_n 0, 1) := by decide +kernel
theorem dd_al_grow2_1 : decode prog_24_method_6_code 1 = .ok (.getfield 9, 3) := by decide +kernel
theorem dd_al_grow2_4 : decode prog_24_method_6_code 4 = .ok (.arraylength, 1) := by decide +kernel
theorem dd_al_grow2_5 : decode prog_24_method_6_code 5 = .ok (.istore_n 2, 1) := by decide +kernel
theorem dd_al_grow2_6 : decode prog_24_method_6_code 6 = .ok (.iload_n 2, 1) := by decide +kernel
theorem dd_al_grow2_7 : decode prog_24_method_6_code 7 = .ok (.ifCond .gt 13, 3) := by decide +kernel
theorem dd_al_grow2_10 : decode prog_24_method_6_code 10 = .ok (.aload_n 0, 1) := by decide +kernel
theorem dd_al_grow2_11 : decode prog_24_method_6_code 11 = .ok (.getfield 9, 3) := by decide +kernel
theorem dd_al_grow2_14 : decode prog_24_method_6_code 14 = .ok (.getstatic 39, 3) := by decide +kernel
theorem dd_al_grow2_17 : decode prog_24_method_6_code 17 = .ok (.if_acmp .eq 28, 3) := by decide +kernel
theorem dd_al_grow2_20 : decode prog_24_method_6_code 20 = .ok (.iload_n 2, 1) := by decide +kernel
theorem dd_al_grow2_21 : decode prog_24_method_6_code 21 = .ok (.iload_n 1, 1) := by decide +kernel
theorem dd_al_grow2_22 : decode prog_24_method_6_code 22 = .ok (.iload_n 2, 1) := by decide +kernel
theorem dd_al_grow2_23 : decode prog_24_method_6_code 23 = .ok (.isub, 1) := by decide +kernel
theorem dd_al_grow2_24 : decode prog_24_method_6_code 24 = .ok (.iload_n 2, 1) := by decide +kernel
theorem dd_al_grow2_25 : decode prog_24_method_6_code 25 = .ok (.iconst 1, 1) := by decide +kernel
theorem dd_al_grow2_26 : decode prog_24_method_6_code 26 = .ok (.ishr, 1) := by decide +kernel
theorem dd_al_grow2_27 : decode prog_24_method_6_code 27 = .ok (.invokestatic 73, 3) := by decide +kernel
theorem dd_al_grow2_30 : decode prog_24_method_6_code 30 = .ok (.istore_n 3, 1) := by decide +kernel
theorem dd_al_grow2_31 : decode prog_24_method_6_code 31 = .ok (.aload_n 0, 1) := by decide +kernel
theorem dd_al_grow2_32 : decode prog_24_method_6_code 32 = .ok (.aload_n 0, 1) := by decide +kernel
theorem dd_al_grow2_33 : decode prog_24_method_6_code 33 = .ok (.getfield 9, 3) := by decide +kernel
theorem dd_al_grow2_36 : decode prog_24_method_6_code 36 = .ok (.iload_n 3, 1) := by decide +kernel
theorem dd_al_grow2_37 : decode prog_24_method_6_code 37 = .ok (.invokestatic 66, 3) := by decide +kernel
theorem dd_al_grow2_40 : decode prog_24_method_6_code 40 = .ok (.dup_x1, 1) := by decide +kernel
theorem dd_al_grow2_41 : decode prog_24_method_6_code 41 = .ok (.putfield 9, 3) := by decide +kernel
theorem dd_al_grow2_44 : decode prog_24_method_6_code 44 = .ok (.areturn, 1) := by decide +kernel
theorem dd_al_grow2_45 : decode prog_24_method_6_code 45 = .ok (.aload_n 0, 1) := by decide +kernel
theorem dd_al_grow2_46 : decode prog_24_method_6_code 46 = .ok (.bipush 10, 2) := by decide +kernel
theorem dd_al_grow2_48 : decode prog_24_method_6_code 48 = .ok (.iload_n 1, 1) := by decide +kernel
theorem dd_al_grow2_49 : decode prog_24_method_6_code 49 = .ok (.invokestatic 79, 3) := by decide +kernel
theorem dd_al_grow2_52 : decode prog_24_method_6_code 52 = .ok (.anewarray 7, 3) := by decide +kernel
theorem dd_al_grow2_55 : decode prog_24_method_6_code 55 = .ok (.dup_x1, 1) := by decide +kernel
theorem dd_al_grow2_56 : decode prog_24_method_6_code 56 = .ok (.putfield 9, 3) := by decide +kernel
theorem dd_al_grow2_59 : decode prog_24_method_6_code 59 = .ok (.areturn, 1) := by decide +kernel
theorem dd_su_newLength_0 : decode prog_31_method_27_code 0 = .ok (.iload_n 0, 1) := by decide +kernel
theorem dd_su_newLength_1 : decode prog_31_method_27_code 1 = .ok (.iload_n 1, 1) := by decide +kernel
theorem dd_su_newLength_2 : decode prog_31_method_27_code 2 = .ok (.iload_n 2, 1) := by decide +kernel
theorem dd_su_newLength_3 : decode prog_31_method_27_code 3 = .ok (.invokestatic 194, 3) := by decide +kernel
theorem dd_su_newLength_6 : decode prog_31_method_27_code 6 = .ok (.iadd, 1) := by decide +kernel
theorem dd_su_newLength_7 : decode prog_31_method_27_code 7 = .ok (.istore_n 3, 1) := by decide +kernel
theorem dd_su_newLength_8 : decode prog_31_method_27_code 8 = .ok (.iconst 0, 1) := by decide +kernel
theorem dd_su_newLength_9 : decode prog_31_method_27_code 9 = .ok (.iload_n 3, 1) := by decide +kernel
theorem dd_su_newLength_10 : decode prog_31_method_27_code 10 = .ok (.if_icmp .ge 11, 3) := by decide +kernel
theorem dd_su_newLength_13 : decode prog_31_method_27_code 13 = .ok (.iload_n 3, 1) := by decide +kernel
theorem dd_su_newLength_14 : decode prog_31_method_27_code 14 = .ok (.ldc 200, 2) := by decide +kernel
theorem dd_su_newLength_16 : decode prog_31_method_27_code 16 = .ok (.if_icmp .gt 5, 3) := by decide +kernel
theorem dd_su_newLength_19 : decode prog_31_method_27_code 19 = .ok (.iload_n 3, 1) := by decide +kernel
theorem dd_su_newLength_20 : decode prog_31_method_27_code 20 = .ok (.ireturn, 1) := by decide +kernel
theorem dd_su_newLength_21 : decode prog_31_method_27_code 21 = .ok (.iload_n 0, 1) := by decide +kernel
theorem dd_su_newLength_22 : decode prog_31_method_27_code 22 = .ok (.iload_n 1, 1) := by decide +kernel
theorem dd_su_newLength_23 : decode prog_31_method_27_code 23 = .ok (.invokestatic 201, 3) := by decide +kernel
theorem dd_su_newLength_26 : decode prog_31_method_27_code 26 = .ok (.ireturn, 1) := by decide +kernel
theorem dd_ma_max_0 : decode prog_16_method_65_code 0 = .ok (.iload_n 0, 1) := by decide +kernel
theorem dd_ma_max_1 : decode prog_16_method_65_code 1 = .ok (.iload_n 1, 1) := by decide +kernel
theorem dd_ma_max_2 : decode prog_16_method_65_code 2 = .ok (.if_icmp .lt 7, 3) := by decide +kernel
theorem dd_ma_max_5 : decode prog_16_method_65_code 5 = .ok (.iload_n 0, 1) := by decide +kernel
theorem dd_ma_max_6 : decode prog_16_method_65_code 6 = .ok (.goto 4, 3) := by decide +kernel
theorem dd_ma_max_9 : decode prog_16_method_65_code 9 = .ok (.iload_n 1, 1) := by decide +kernel
theorem dd_ma_max_10 : decode prog_16_method_65_code 10 = .ok (.ireturn, 1) := by decide +kernel
theorem dd_su_hugeLength_0 : decode prog_31_method_28_code 0 = .ok (.iload_n 0, 1) := by decide +kernel
theorem dd_su_hugeLength_1 : decode prog_31_method_28_code 1 = .ok (.iload_n 1, 1) := by decide +kernel
theorem dd_su_hugeLength_2 : decode prog_31_method_28_code 2 = .ok (.iadd, 1) := by decide +kernel
theorem dd_su_hugeLength_3 : decode prog_31_method_28_code 3 = .ok (.istore_n 2, 1) := by decide +kernel
theorem dd_su_hugeLength_4 : decode prog_31_method_28_code 4 = .ok (.iload_n 2, 1) := by decide +kernel
theorem dd_su_hugeLength_5 : decode prog_31_method_28_code 5 = .ok (.ifCond .ge 44, 3) := by decide +kernel
theorem dd_su_hugeLength_8 : decode prog_31_method_28_code 8 = .ok (.new 204, 3) := by decide +kernel
theorem dd_su_hugeLength_11 : decode prog_31_method_28_code 11 = .ok (.dup, 1) := by decide +kernel
theorem dd_su_hugeLength_12 : decode prog_31_method_28_code 12 = .ok (.new 89, 3) := by decide +kernel
theorem dd_su_hugeLength_15 : decode prog_31_method_28_code 15 = .ok (.dup, 1) := by decide +kernel
theorem dd_su_hugeLength_16 : decode prog_31_method_28_code 16 = .ok (.invokespecial 91, 3) := by decide +kernel
theorem dd_su_hugeLength_19 : decode prog_31_method_28_code 19 = .ok (.ldc 206, 2) := by decide +kernel
theorem dd_su_hugeLength_21 : decode prog_31_method_28_code 21 = .ok (.invokevirtual 94, 3) := by decide +kernel
theorem dd_su_hugeLength_24 : decode prog_31_method_28_code 24 = .ok (.iload_n 0, 1) := by decide +kernel
theorem dd_su_hugeLength_25 : decode prog_31_method_28_code 25 = .ok (.invokevirtual 98, 3) := by decide +kernel
theorem dd_su_hugeLength_28 : decode prog_31_method_28_code 28 = .ok (.ldc 208, 2) := by decide +kernel
theorem dd_su_hugeLength_30 : decode prog_31_method_28_code 30 = .ok (.invokevirtual 94, 3) := by decide +kernel
theorem dd_su_hugeLength_33 : decode prog_31_method_28_code 33 = .ok (.iload_n 1, 1) := by decide +kernel
theorem dd_su_hugeLength_34 : decode prog_31_method_28_code 34 = .ok (.invokevirtual 98, 3) := by decide +kernel
theorem dd_su_hugeLength_37 : decode prog_31_method_28_code 37 = .ok (.ldc 210, 2) := by decide +kernel
theorem dd_su_hugeLength_39 : decode prog_31_method_28_code 39 = .ok (.invokevirtual 94, 3) := by decide +kernel
theorem dd_su_hugeLength_42 : decode prog_31_method_28_code 42 = .ok (.invokevirtual 101, 3) := by decide +kernel
theorem dd_su_hugeLength_45 : decode prog_31_method_28_code 45 = .ok (.invokespecial 212, 3) := by decide +kernel
theorem dd_su_hugeLength_48 : decode prog_31_method_28_code 48 = .ok (.athrow, 1) := by decide +kernel
theorem dd_su_hugeLength_49 : decode prog_31_method_28_code 49 = .ok (.iload_n 2, 1) := by decide +kernel
theorem dd_su_hugeLength_50 : decode prog_31_method_28_code 50 = .ok (.ldc 200, 2) := by decide +kernel
theorem dd_su_hugeLength_52 : decode prog_31_method_28_code 52 = .ok (.if_icmp .gt 6, 3) := by decide +kernel
theorem dd_su_hugeLength_55 : decode prog_31_method_28_code 55 = .ok (.ldc 200, 2) := by decide +kernel
theorem dd_su_hugeLength_57 : decode prog_31_method_28_code 57 = .ok (.ireturn, 1) := by decide +kernel
theorem dd_su_hugeLength_58 : decode prog_31_method_28_code 58 = .ok (.iload_n 2, 1) := by decide +kernel
theorem dd_su_hugeLength_59 : decode prog_31_method_28_code 59 = .ok (.ireturn, 1) := by decide +kernel
theorem dd_ar_copyOf1_0 : decode prog_25_method_119_code 0 = .ok (.aload_n 0, 1) := by decide +kernel
theorem dd_ar_copyOf1_1 : decode prog_25_method_119_code 1 = .ok (.iload_n 1, 1) := by decide +kernel
theorem dd_ar_copyOf1_2 : decode prog_25_method_119_code 2 = .ok (.aload_n 0, 1) := by decide +kernel
theorem dd_ar_copyOf1_3 : decode prog_25_method_119_code 3 = .ok (.invokevirtual 86, 3) := by decide +kernel
theorem dd_ar_copyOf1_6 : decode prog_25_method_119_code 6 = .ok (.invokestatic 300, 3) := by decide +kernel
theorem dd_ar_copyOf1_9 : decode prog_25_method_119_code 9 = .ok (.areturn, 1) := by decide +kernel
theorem dd_ar_copyOf2_0 : decode prog_25_method_120_code 0 = .ok (.aload_n 2, 1) := by decide +kernel
theorem dd_ar_copyOf2_1 : decode prog_25_method_120_code 1 = .ok (.ldc 110, 2) := by decide +kernel
theorem dd_ar_copyOf2_3 : decode prog_25_method_120_code 3 = .ok (.if_acmp .ne 10, 3) := by decide +kernel
theorem dd_ar_copyOf2_6 : decode prog_25_method_120_code 6 = .ok (.iload_n 1, 1) := by decide +kernel
theorem dd_ar_copyOf2_7 : decode prog_25_method_120_code 7 = .ok (.anewarray 2, 3) := by decide +kernel
theorem dd_ar_copyOf2_10 : decode prog_25_method_120_code 10 = .ok (.goto 14, 3) := by decide +kernel
theorem dd_ar_copyOf2_13 : decode prog_25_method_120_code 13 = .ok (.aload_n 2, 1) := by decide +kernel
theorem dd_ar_copyOf2_14 : decode prog_25_method_120_code 14 = .ok (.invokevirtual 90, 3) := by decide +kernel
theorem dd_ar_copyOf2_17 : decode prog_25_method_120_code 17 = .ok (.iload_n 1, 1) := by decide +kernel
theorem dd_ar_copyOf2_18 : decode prog_25_method_120_code 18 = .ok (.invokestatic 95, 3) := by decide +kernel
theorem dd_ar_copyOf2_21 : decode prog_25_method_120_code 21 = .ok (.checkcast 110, 3) := by decide +kernel
theorem dd_ar_copyOf2_24 : decode prog_25_method_120_code 24 = .ok (.astore_n 3, 1) := by decide +kernel
theorem dd_ar_copyOf2_25 : decode prog_25_method_120_code 25 = .ok (.aload_n 0, 1) := by decide +kernel
theorem dd_ar_copyOf2_26 : decode prog_25_method_120_code 26 = .ok (.iconst 0, 1) := by decide +kernel
theorem dd_ar_copyOf2_27 : decode prog_25_method_120_code 27 = .ok (.aload_n 3, 1) := by decide +kernel
theorem dd_ar_copyOf2_28 : decode prog_25_method_120_code 28 = .ok (.iconst 0, 1) := by decide +kernel
theorem dd_ar_copyOf2_29 : decode prog_25_method_120_code 29 = .ok (.aload_n 0, 1) := by decide +kernel
theorem dd_ar_copyOf2_30 : decode prog_25_method_120_code 30 = .ok (.arraylength, 1) := by decide +kernel
theorem dd_ar_copyOf2_31 : decode prog_25_method_120_code 31 = .ok (.iload_n 1, 1) := by decide +kernel
theorem dd_ar_copyOf2_32 : decode prog_25_method_120_code 32 = .ok (.invokestatic 304, 3) := by decide +kernel
theorem dd_ar_copyOf2_35 : decode prog_25_method_120_code 35 = .ok (.invokestatic 150, 3) := by decide +kernel
theorem dd_ar_copyOf2_38 : decode prog_25_method_120_code 38 = .ok (.aload_n 3, 1) := by decide +kernel
theorem dd_ar_copyOf2_39 : decode prog_25_method_120_code 39 = .ok (.areturn, 1) := by decide +kernel
theorem dd_ma_min_0 : decode prog_16_method_69_code 0 = .ok (.iload_n 0, 1) := by decide +kernel
theorem dd_ma_min_1 : decode prog_16_method_69_code 1 = .ok (.iload_n 1, 1) := by decide +kernel
theorem dd_ma_min_2 : decode prog_16_method_69_code 2 = .ok (.if_icmp .gt 7, 3) := by decide +kernel
theorem dd_ma_min_5 : decode prog_16_method_69_code 5 = .ok (.iload_n 0, 1) := by decide +kernel
theorem dd_ma_min_6 : decode prog_16_method_69_code 6 = .ok (.goto 4, 3) := by decide +kernel
theorem dd_ma_min_9 : decode prog_16_method_69_code 9 = .ok (.iload_n 1, 1) := by decide +kernel
theorem dd_ma_min_10 : decode prog_16_method_69_code 10 = .ok (.ireturn, 1) := by decide +kernel
theorem dd_lw_giveRule_0 : decode method_8_code 0 = .ok (.aload 5, 2) := by decide +kernel
theorem dd_lw_giveRule_2 : decode method_8_code 2 = .ok (.iconst 0, 1) := by decide +kernel
theorem dd_lw_giveRule_3 : decode method_8_code 3 = .ok (.aload_n 0, 1) := by decide +kernel
theorem dd_lw_giveRule_4 : decode method_8_code 4 = .ok (.iload_n 1, 1) := by decide +kernel
theorem dd_lw_giveRule_5 : decode method_8_code 5 = .ok (.iload_n 2, 1) := by decide +kernel
theorem dd_lw_giveRule_6 : decode method_8_code 6 = .ok (.iload_n 3, 1) := by decide +kernel
theorem dd_lw_giveRule_7 : decode method_8_code 7 = .ok (.iload 4, 2) := by decide +kernel
theorem dd_lw_giveRule_9 : decode method_8_code 9 = .ok (.invokevirtual 33, 3) := by decide +kernel
theorem dd_lw_giveRule_12 : decode method_8_code 12 = .ok (.i2l, 1) := by decide +kernel
theorem dd_lw_giveRule_13 : decode method_8_code 13 = .ok (.lastore, 1) := by decide +kernel
theorem dd_lw_giveRule_14 : decode method_8_code 14 = .ok (.goto 15, 3) := by decide +kernel
theorem dd_lw_giveRule_17 : decode method_8_code 17 = .ok (.astore 6, 2) := by decide +kernel
theorem dd_lw_giveRule_19 : decode method_8_code 19 = .ok (.iconst 1, 1) := by decide +kernel
theorem dd_lw_giveRule_20 : decode method_8_code 20 = .ok (.ireturn, 1) := by decide +kernel
theorem dd_lw_giveRule_21 : decode method_8_code 21 = .ok (.astore 6, 2) := by decide +kernel
theorem dd_lw_giveRule_23 : decode method_8_code 23 = .ok (.iconst 2, 1) := by decide +kernel
theorem dd_lw_giveRule_24 : decode method_8_code 24 = .ok (.ireturn, 1) := by decide +kernel
theorem dd_lw_giveRule_25 : decode method_8_code 25 = .ok (.astore 6, 2) := by decide +kernel
theorem dd_lw_giveRule_27 : decode method_8_code 27 = .ok (.iconst 3, 1) := by decide +kernel
theorem dd_lw_giveRule_28 : decode method_8_code 28 = .ok (.ireturn, 1) := by decide +kernel
theorem dd_lw_giveRule_29 : decode method_8_code 29 = .ok (.iconst 0, 1) := by decide +kernel
theorem dd_lw_giveRule_30 : decode method_8_code 30 = .ok (.ireturn, 1) := by decide +kernel
theorem dd_ra_giveRule_0 : decode prog_1_method_7_code 0 = .ok (.aload_n 0, 1) := by decide +kernel
theorem dd_ra_giveRule_1 : decode prog_1_method_7_code 1 = .ok (.iload_n 1, 1) := by decide +kernel
theorem dd_ra_giveRule_2 : decode prog_1_method_7_code 2 = .ok (.invokevirtual 60, 3) := by decide +kernel
theorem dd_ra_giveRule_5 : decode prog_1_method_7_code 5 = .ok (.aload_n 0, 1) := by decide +kernel
theorem dd_ra_giveRule_6 : decode prog_1_method_7_code 6 = .ok (.iload 4, 2) := by decide +kernel
theorem dd_ra_giveRule_8 : decode prog_1_method_7_code 8 = .ok (.invokevirtual 60, 3) := by decide +kernel
theorem dd_ra_giveRule_11 : decode prog_1_method_7_code 11 = .ok (.iload_n 2, 1) := by decide +kernel
theorem dd_ra_giveRule_12 : decode prog_1_method_7_code 12 = .ok (.invokestatic 96, 3) := by decide +kernel
theorem dd_ra_giveRule_15 : decode prog_1_method_7_code 15 = .ok (.iload_n 3, 1) := by decide +kernel
theorem dd_ra_giveRule_16 : decode prog_1_method_7_code 16 = .ok (.invokestatic 96, 3) := by decide +kernel
theorem dd_ra_giveRule_19 : decode prog_1_method_7_code 19 = .ok (.aload_n 0, 1) := by decide +kernel
theorem dd_ra_giveRule_20 : decode prog_1_method_7_code 20 = .ok (.invokevirtual 131, 3) := by decide +kernel
theorem dd_ra_giveRule_23 : decode prog_1_method_7_code 23 = .ok (.aload_n 0, 1) := by decide +kernel
theorem dd_ra_giveRule_24 : decode prog_1_method_7_code 24 = .ok (.getfield 12, 3) := by decide +kernel
theorem dd_ra_giveRule_27 : decode prog_1_method_7_code 27 = .ok (.new 134, 3) := by decide +kernel
theorem dd_ra_giveRule_30 : decode prog_1_method_7_code 30 = .ok (.dup, 1) := by decide +kernel
theorem dd_ra_giveRule_31 : decode prog_1_method_7_code 31 = .ok (.iconst 1, 1) := by decide +kernel
theorem dd_ra_giveRule_32 : decode prog_1_method_7_code 32 = .ok (.iload_n 1, 1) := by decide +kernel
theorem dd_ra_giveRule_33 : decode prog_1_method_7_code 33 = .ok (.iload_n 2, 1) := by decide +kernel
theorem dd_ra_giveRule_34 : decode prog_1_method_7_code 34 = .ok (.iload_n 3, 1) := by decide +kernel
theorem dd_ra_giveRule_35 : decode prog_1_method_7_code 35 = .ok (.iload 4, 2) := by decide +kernel
theorem dd_ra_giveRule_37 : decode prog_1_method_7_code 37 = .ok (.invokespecial 136, 3) := by decide +kernel
theorem dd_ra_giveRule_40 : decode prog_1_method_7_code 40 = .ok (.invokevirtual 139, 3) := by decide +kernel
theorem dd_ra_giveRule_43 : decode prog_1_method_7_code 43 = .ok (.ireturn, 1) := by decide +kernel
theorem dd_ra_checkRoomForRule_0 : decode prog_1_method_31_code 0 = .ok (.aload_n 0, 1) := by decide +kernel
theorem dd_ra_checkRoomForRule_1 : decode prog_1_method_31_code 1 = .ok (.getfield 12, 3) := by decide +kernel
theorem dd_ra_checkRoomForRule_4 : decode prog_1_method_31_code 4 = .ok (.getfield 206, 3) := by decide +kernel
theorem dd_ra_checkRoomForRule_7 : decode prog_1_method_31_code 7 = .ok (.invokevirtual 106, 3) := by decide +kernel
theorem dd_ra_checkRoomForRule_10 : decode prog_1_method_31_code 10 = .ok (.bipush 8, 2) := by decide +kernel
theorem dd_ra_checkRoomForRule_12 : decode prog_1_method_31_code 12 = .ok (.if_icmp .lt 13, 3) := by decide +kernel
theorem dd_ra_checkRoomForRule_15 : decode prog_1_method_31_code 15 = .ok (.new 48, 3) := by decide +kernel
theorem dd_ra_checkRoomForRule_18 : decode prog_1_method_31_code 18 = .ok (.dup, 1) := by decide +kernel
theorem dd_ra_checkRoomForRule_19 : decode prog_1_method_31_code 19 = .ok (.ldc 209, 2) := by decide +kernel
theorem dd_ra_checkRoomForRule_21 : decode prog_1_method_31_code 21 = .ok (.invokespecial 52, 3) := by decide +kernel
theorem dd_ra_checkRoomForRule_24 : decode prog_1_method_31_code 24 = .ok (.athrow, 1) := by decide +kernel
theorem dd_ra_checkRoomForRule_25 : decode prog_1_method_31_code 25 = .ok (.return_, 1) := by decide +kernel
theorem dd_ru_init_0 : decode prog_4_method_1_code 0 = .ok (.aload_n 0, 1) := by decide +kernel
theorem dd_ru_init_1 : decode prog_4_method_1_code 1 = .ok (.invokespecial 1, 3) := by decide +kernel
theorem dd_ru_init_4 : decode prog_4_method_1_code 4 = .ok (.aload_n 0, 1) := by decide +kernel
theorem dd_ru_init_5 : decode prog_4_method_1_code 5 = .ok (.iload_n 1, 1) := by decide +kernel
theorem dd_ru_init_6 : decode prog_4_method_1_code 6 = .ok (.putfield 7, 3) := by decide +kernel
theorem dd_ru_init_9 : decode prog_4_method_1_code 9 = .ok (.aload_n 0, 1) := by decide +kernel
theorem dd_ru_init_10 : decode prog_4_method_1_code 10 = .ok (.iload_n 2, 1) := by decide +kernel
theorem dd_ru_init_11 : decode prog_4_method_1_code 11 = .ok (.putfield 13, 3) := by decide +kernel
theorem dd_ru_init_14 : decode prog_4_method_1_code 14 = .ok (.aload_n 0, 1) := by decide +kernel
theorem dd_ru_init_15 : decode prog_4_method_1_code 15 = .ok (.iload_n 3, 1) := by decide +kernel
theorem dd_ru_init_16 : decode prog_4_method_1_code 16 = .ok (.putfield 17, 3) := by decide +kernel
theorem dd_ru_init_19 : decode prog_4_method_1_code 19 = .ok (.aload_n 0, 1) := by decide +kernel
theorem dd_ru_init_20 : decode prog_4_method_1_code 20 = .ok (.iload 4, 2) := by decide +kernel
theorem dd_ru_init_22 : decode prog_4_method_1_code 22 = .ok (.putfield 20, 3) := by decide +kernel
theorem dd_ru_init_25 : decode prog_4_method_1_code 25 = .ok (.aload_n 0, 1) := by decide +kernel
theorem dd_ru_init_26 : decode prog_4_method_1_code 26 = .ok (.iload 5, 2) := by decide +kernel
theorem dd_ru_init_28 : decode prog_4_method_1_code 28 = .ok (.putfield 23, 3) := by decide +kernel
theorem dd_ru_init_31 : decode prog_4_method_1_code 31 = .ok (.return_, 1) := by decide +kernel
