/-! decode rows: printed by wip/whole/facts.py -/
theorem dd_ra_init_0 : decode prog_1_method_1_code 0 = .ok (.aload_n 0, 1) := by decide +kernel
theorem dd_ra_init_1 : decode prog_1_method_1_code 1 = .ok (.invokespecial 3, 3) := by decide +kernel
theorem dd_ra_init_4 : decode prog_1_method_1_code 4 = .ok (.aload_n 0, 1) := by decide +kernel
theorem dd_ra_init_5 : decode prog_1_method_1_code 5 = .ok (.new 9, 3) := by decide +kernel
theorem dd_ra_init_8 : decode prog_1_method_1_code 8 = .ok (.dup, 1) := by decide +kernel
theorem dd_ra_init_9 : decode prog_1_method_1_code 9 = .ok (.invokespecial 11, 3) := by decide +kernel
theorem dd_ra_init_12 : decode prog_1_method_1_code 12 = .ok (.putfield 12, 3) := by decide +kernel
theorem dd_ra_init_15 : decode prog_1_method_1_code 15 = .ok (.aload_n 0, 1) := by decide +kernel
theorem dd_ra_init_16 : decode prog_1_method_1_code 16 = .ok (.new 16, 3) := by decide +kernel
theorem dd_ra_init_19 : decode prog_1_method_1_code 19 = .ok (.dup, 1) := by decide +kernel
theorem dd_ra_init_20 : decode prog_1_method_1_code 20 = .ok (.aload_n 0, 1) := by decide +kernel
theorem dd_ra_init_21 : decode prog_1_method_1_code 21 = .ok (.getfield 12, 3) := by decide +kernel
theorem dd_ra_init_24 : decode prog_1_method_1_code 24 = .ok (.invokespecial 18, 3) := by decide +kernel
theorem dd_ra_init_27 : decode prog_1_method_1_code 27 = .ok (.putfield 21, 3) := by decide +kernel
theorem dd_ra_init_30 : decode prog_1_method_1_code 30 = .ok (.aload_n 0, 1) := by decide +kernel
theorem dd_ra_init_31 : decode prog_1_method_1_code 31 = .ok (.iconst 5, 1) := by decide +kernel
theorem dd_ra_init_32 : decode prog_1_method_1_code 32 = .ok (.newarray .int, 2) := by decide +kernel
theorem dd_ra_init_34 : decode prog_1_method_1_code 34 = .ok (.putfield 25, 3) := by decide +kernel
theorem dd_ra_init_37 : decode prog_1_method_1_code 37 = .ok (.aload_n 0, 1) := by decide +kernel
theorem dd_ra_init_38 : decode prog_1_method_1_code 38 = .ok (.bipush 6, 2) := by decide +kernel
theorem dd_ra_init_40 : decode prog_1_method_1_code 40 = .ok (.newarray .int, 2) := by decide +kernel
theorem dd_ra_init_42 : decode prog_1_method_1_code 42 = .ok (.putfield 29, 3) := by decide +kernel
theorem dd_ra_init_45 : decode prog_1_method_1_code 45 = .ok (.aload_n 0, 1) := by decide +kernel
theorem dd_ra_init_46 : decode prog_1_method_1_code 46 = .ok (.iconst 4, 1) := by decide +kernel
theorem dd_ra_init_47 : decode prog_1_method_1_code 47 = .ok (.newarray .int, 2) := by decide +kernel
theorem dd_ra_init_49 : decode prog_1_method_1_code 49 = .ok (.putfield 32, 3) := by decide +kernel
theorem dd_ra_init_52 : decode prog_1_method_1_code 52 = .ok (.aload_n 0, 1) := by decide +kernel
theorem dd_ra_init_53 : decode prog_1_method_1_code 53 = .ok (.iconst 4, 1) := by decide +kernel
theorem dd_ra_init_54 : decode prog_1_method_1_code 54 = .ok (.newarray .int, 2) := by decide +kernel
theorem dd_ra_init_56 : decode prog_1_method_1_code 56 = .ok (.putfield 35, 3) := by decide +kernel
theorem dd_ra_init_59 : decode prog_1_method_1_code 59 = .ok (.aload_n 0, 1) := by decide +kernel
theorem dd_ra_init_60 : decode prog_1_method_1_code 60 = .ok (.getfield 32, 3) := by decide +kernel
theorem dd_ra_init_63 : decode prog_1_method_1_code 63 = .ok (.iconst (-1), 1) := by decide +kernel
theorem dd_ra_init_64 : decode prog_1_method_1_code 64 = .ok (.invokestatic 38, 3) := by decide +kernel
theorem dd_ra_init_67 : decode prog_1_method_1_code 67 = .ok (.return_, 1) := by decide +kernel
theorem dd_po_init_0 : decode prog_3_method_1_code 0 = .ok (.aload_n 0, 1) := by decide +kernel
theorem dd_po_init_1 : decode prog_3_method_1_code 1 = .ok (.invokespecial 3, 3) := by decide +kernel
theorem dd_po_init_4 : decode prog_3_method_1_code 4 = .ok (.aload_n 0, 1) := by decide +kernel
theorem dd_po_init_5 : decode prog_3_method_1_code 5 = .ok (.bipush 64, 2) := by decide +kernel
theorem dd_po_init_7 : decode prog_3_method_1_code 7 = .ok (.newarray .int, 2) := by decide +kernel
theorem dd_po_init_9 : decode prog_3_method_1_code 9 = .ok (.putfield 9, 3) := by decide +kernel
theorem dd_po_init_12 : decode prog_3_method_1_code 12 = .ok (.iconst 0, 1) := by decide +kernel
theorem dd_po_init_13 : decode prog_3_method_1_code 13 = .ok (.istore_n 1, 1) := by decide +kernel
theorem dd_po_init_14 : decode prog_3_method_1_code 14 = .ok (.iload_n 1, 1) := by decide +kernel
theorem dd_po_init_15 : decode prog_3_method_1_code 15 = .ok (.bipush 64, 2) := by decide +kernel
theorem dd_po_init_17 : decode prog_3_method_1_code 17 = .ok (.if_icmp .ge 16, 3) := by decide +kernel
theorem dd_po_init_20 : decode prog_3_method_1_code 20 = .ok (.aload_n 0, 1) := by decide +kernel
theorem dd_po_init_21 : decode prog_3_method_1_code 21 = .ok (.getfield 9, 3) := by decide +kernel
theorem dd_po_init_24 : decode prog_3_method_1_code 24 = .ok (.iload_n 1, 1) := by decide +kernel
theorem dd_po_init_25 : decode prog_3_method_1_code 25 = .ok (.iload_n 1, 1) := by decide +kernel
theorem dd_po_init_26 : decode prog_3_method_1_code 26 = .ok (.iastore, 1) := by decide +kernel
theorem dd_po_init_27 : decode prog_3_method_1_code 27 = .ok (.iinc 1 1, 3) := by decide +kernel
theorem dd_po_init_30 : decode prog_3_method_1_code 30 = .ok (.goto (-16), 3) := by decide +kernel
theorem dd_po_init_33 : decode prog_3_method_1_code 33 = .ok (.aload_n 0, 1) := by decide +kernel
theorem dd_po_init_34 : decode prog_3_method_1_code 34 = .ok (.new 15, 3) := by decide +kernel
theorem dd_po_init_37 : decode prog_3_method_1_code 37 = .ok (.dup, 1) := by decide +kernel
theorem dd_po_init_38 : decode prog_3_method_1_code 38 = .ok (.invokespecial 17, 3) := by decide +kernel
theorem dd_po_init_41 : decode prog_3_method_1_code 41 = .ok (.putfield 18, 3) := by decide +kernel
theorem dd_po_init_44 : decode prog_3_method_1_code 44 = .ok (.aload_n 0, 1) := by decide +kernel
theorem dd_po_init_45 : decode prog_3_method_1_code 45 = .ok (.new 15, 3) := by decide +kernel
theorem dd_po_init_48 : decode prog_3_method_1_code 48 = .ok (.dup, 1) := by decide +kernel
theorem dd_po_init_49 : decode prog_3_method_1_code 49 = .ok (.invokespecial 17, 3) := by decide +kernel
theorem dd_po_init_52 : decode prog_3_method_1_code 52 = .ok (.putfield 22, 3) := by decide +kernel
theorem dd_po_init_55 : decode prog_3_method_1_code 55 = .ok (.aload_n 0, 1) := by decide +kernel
theorem dd_po_init_56 : decode prog_3_method_1_code 56 = .ok (.new 15, 3) := by decide +kernel
theorem dd_po_init_59 : decode prog_3_method_1_code 59 = .ok (.dup, 1) := by decide +kernel
theorem dd_po_init_60 : decode prog_3_method_1_code 60 = .ok (.invokespecial 17, 3) := by decide +kernel
theorem dd_po_init_63 : decode prog_3_method_1_code 63 = .ok (.putfield 25, 3) := by decide +kernel
theorem dd_po_init_66 : decode prog_3_method_1_code 66 = .ok (.return_, 1) := by decide +kernel
theorem dd_al_init_0 : decode prog_24_method_2_code 0 = .ok (.aload_n 0, 1) := by decide +kernel
theorem dd_al_init_1 : decode prog_24_method_2_code 1 = .ok (.invokespecial 1, 3) := by decide +kernel
theorem dd_al_init_4 : decode prog_24_method_2_code 4 = .ok (.aload_n 0, 1) := by decide +kernel
theorem dd_al_init_5 : decode prog_24_method_2_code 5 = .ok (.getstatic 39, 3) := by decide +kernel
theorem dd_al_init_8 : decode prog_24_method_2_code 8 = .ok (.putfield 9, 3) := by decide +kernel
theorem dd_al_init_11 : decode prog_24_method_2_code 11 = .ok (.return_, 1) := by decide +kernel
theorem dd_bl_init_0 : decode prog_23_method_1_code 0 = .ok (.aload_n 0, 1) := by decide +kernel
theorem dd_bl_init_1 : decode prog_23_method_1_code 1 = .ok (.invokespecial 1, 3) := by decide +kernel
theorem dd_bl_init_4 : decode prog_23_method_1_code 4 = .ok (.aload_n 0, 1) := by decide +kernel
theorem dd_bl_init_5 : decode prog_23_method_1_code 5 = .ok (.iconst 0, 1) := by decide +kernel
theorem dd_bl_init_6 : decode prog_23_method_1_code 6 = .ok (.putfield 7, 3) := by decide +kernel
theorem dd_bl_init_9 : decode prog_23_method_1_code 9 = .ok (.return_, 1) := by decide +kernel
theorem dd_bc_init_0 : decode prog_22_method_1_code 0 = .ok (.aload_n 0, 1) := by decide +kernel
theorem dd_bc_init_1 : decode prog_22_method_1_code 1 = .ok (.invokespecial 1, 3) := by decide +kernel
theorem dd_bc_init_4 : decode prog_22_method_1_code 4 = .ok (.return_, 1) := by decide +kernel
theorem dd_se_init_0 : decode prog_5_method_1_code 0 = .ok (.aload_n 0, 1) := by decide +kernel
theorem dd_se_init_1 : decode prog_5_method_1_code 1 = .ok (.invokespecial 3, 3) := by decide +kernel
theorem dd_se_init_4 : decode prog_5_method_1_code 4 = .ok (.aload_n 0, 1) := by decide +kernel
theorem dd_se_init_5 : decode prog_5_method_1_code 5 = .ok (.aload_n 1, 1) := by decide +kernel
theorem dd_se_init_6 : decode prog_5_method_1_code 6 = .ok (.putfield 9, 3) := by decide +kernel
theorem dd_se_init_9 : decode prog_5_method_1_code 9 = .ok (.aload_n 0, 1) := by decide +kernel
theorem dd_se_init_10 : decode prog_5_method_1_code 10 = .ok (.sipush 4096, 3) := by decide +kernel
theorem dd_se_init_13 : decode prog_5_method_1_code 13 = .ok (.newarray .int, 2) := by decide +kernel
theorem dd_se_init_15 : decode prog_5_method_1_code 15 = .ok (.putfield 15, 3) := by decide +kernel
theorem dd_se_init_18 : decode prog_5_method_1_code 18 = .ok (.aload_n 0, 1) := by decide +kernel
theorem dd_se_init_19 : decode prog_5_method_1_code 19 = .ok (.sipush 4096, 3) := by decide +kernel
theorem dd_se_init_22 : decode prog_5_method_1_code 22 = .ok (.newarray .int, 2) := by decide +kernel
theorem dd_se_init_24 : decode prog_5_method_1_code 24 = .ok (.putfield 19, 3) := by decide +kernel
theorem dd_se_init_27 : decode prog_5_method_1_code 27 = .ok (.return_, 1) := by decide +kernel
theorem dd_ar_fill_0 : decode prog_25_method_103_code 0 = .ok (.iconst 0, 1) := by decide +kernel
theorem dd_ar_fill_1 : decode prog_25_method_103_code 1 = .ok (.istore_n 2, 1) := by decide +kernel
theorem dd_ar_fill_2 : decode prog_25_method_103_code 2 = .ok (.aload_n 0, 1) := by decide +kernel
theorem dd_ar_fill_3 : decode prog_25_method_103_code 3 = .ok (.arraylength, 1) := by decide +kernel
theorem dd_ar_fill_4 : decode prog_25_method_103_code 4 = .ok (.istore_n 3, 1) := by decide +kernel
theorem dd_ar_fill_5 : decode prog_25_method_103_code 5 = .ok (.iload_n 2, 1) := by decide +kernel
theorem dd_ar_fill_6 : decode prog_25_method_103_code 6 = .ok (.iload_n 3, 1) := by decide +kernel
theorem dd_ar_fill_7 : decode prog_25_method_103_code 7 = .ok (.if_icmp .ge 13, 3) := by decide +kernel
theorem dd_ar_fill_10 : decode prog_25_method_103_code 10 = .ok (.aload_n 0, 1) := by decide +kernel
theorem dd_ar_fill_11 : decode prog_25_method_103_code 11 = .ok (.iload_n 2, 1) := by decide +kernel
theorem dd_ar_fill_12 : decode prog_25_method_103_code 12 = .ok (.iload_n 1, 1) := by decide +kernel
theorem dd_ar_fill_13 : decode prog_25_method_103_code 13 = .ok (.iastore, 1) := by decide +kernel
theorem dd_ar_fill_14 : decode prog_25_method_103_code 14 = .ok (.iinc 2 1, 3) := by decide +kernel
theorem dd_ar_fill_17 : decode prog_25_method_103_code 17 = .ok (.goto (-12), 3) := by decide +kernel
theorem dd_ar_fill_20 : decode prog_25_method_103_code 20 = .ok (.return_, 1) := by decide +kernel
theorem dd_lw_role_0 : decode method_3_code 0 = .ok (.aload_n 1, 1) := by decide +kernel
theorem dd_lw_role_1 : decode method_3_code 1 = .ok (.iconst 0, 1) := by decide +kernel
theorem dd_lw_role_2 : decode method_3_code 2 = .ok (.aload_n 0, 1) := by decide +kernel
theorem dd_lw_role_3 : decode method_3_code 3 = .ok (.invokevirtual 7, 3) := by decide +kernel
theorem dd_lw_role_6 : decode method_3_code 6 = .ok (.i2l, 1) := by decide +kernel
theorem dd_lw_role_7 : decode method_3_code 7 = .ok (.lastore, 1) := by decide +kernel
theorem dd_lw_role_8 : decode method_3_code 8 = .ok (.goto 6, 3) := by decide +kernel
theorem dd_lw_role_11 : decode method_3_code 11 = .ok (.astore_n 2, 1) := by decide +kernel
theorem dd_lw_role_12 : decode method_3_code 12 = .ok (.iconst 1, 1) := by decide +kernel
theorem dd_lw_role_13 : decode method_3_code 13 = .ok (.ireturn, 1) := by decide +kernel
theorem dd_lw_role_14 : decode method_3_code 14 = .ok (.iconst 0, 1) := by decide +kernel
theorem dd_lw_role_15 : decode method_3_code 15 = .ok (.ireturn, 1) := by decide +kernel
theorem dd_ra_role_0 : decode prog_1_method_2_code 0 = .ok (.aload_n 0, 1) := by decide +kernel
theorem dd_ra_role_1 : decode prog_1_method_2_code 1 = .ok (.getfield 12, 3) := by decide +kernel
theorem dd_ra_role_4 : decode prog_1_method_2_code 4 = .ok (.getfield 44, 3) := by decide +kernel
theorem dd_ra_role_7 : decode prog_1_method_2_code 7 = .ok (.bipush 6, 2) := by decide +kernel
theorem dd_ra_role_9 : decode prog_1_method_2_code 9 = .ok (.if_icmp .lt 13, 3) := by decide +kernel
theorem dd_ra_role_12 : decode prog_1_method_2_code 12 = .ok (.new 48, 3) := by decide +kernel
theorem dd_ra_role_15 : decode prog_1_method_2_code 15 = .ok (.dup, 1) := by decide +kernel
theorem dd_ra_role_16 : decode prog_1_method_2_code 16 = .ok (.ldc 50, 2) := by decide +kernel
theorem dd_ra_role_18 : decode prog_1_method_2_code 18 = .ok (.invokespecial 52, 3) := by decide +kernel
theorem dd_ra_role_21 : decode prog_1_method_2_code 21 = .ok (.athrow, 1) := by decide +kernel
theorem dd_ra_role_22 : decode prog_1_method_2_code 22 = .ok (.aload_n 0, 1) := by decide +kernel
theorem dd_ra_role_23 : decode prog_1_method_2_code 23 = .ok (.getfield 12, 3) := by decide +kernel
theorem dd_ra_role_26 : decode prog_1_method_2_code 26 = .ok (.getfield 44, 3) := by decide +kernel
theorem dd_ra_role_29 : decode prog_1_method_2_code 29 = .ok (.istore_n 1, 1) := by decide +kernel
theorem dd_ra_role_30 : decode prog_1_method_2_code 30 = .ok (.aload_n 0, 1) := by decide +kernel
theorem dd_ra_role_31 : decode prog_1_method_2_code 31 = .ok (.getfield 12, 3) := by decide +kernel
theorem dd_ra_role_34 : decode prog_1_method_2_code 34 = .ok (.iload_n 1, 1) := by decide +kernel
theorem dd_ra_role_35 : decode prog_1_method_2_code 35 = .ok (.iconst 1, 1) := by decide +kernel
theorem dd_ra_role_36 : decode prog_1_method_2_code 36 = .ok (.iadd, 1) := by decide +kernel
theorem dd_ra_role_37 : decode prog_1_method_2_code 37 = .ok (.putfield 44, 3) := by decide +kernel
theorem dd_ra_role_40 : decode prog_1_method_2_code 40 = .ok (.iload_n 1, 1) := by decide +kernel
theorem dd_ra_role_41 : decode prog_1_method_2_code 41 = .ok (.ireturn, 1) := by decide +kernel
theorem dd_lw_user_0 : decode method_4_code 0 = .ok (.aload_n 1, 1) := by decide +kernel
theorem dd_lw_user_1 : decode method_4_code 1 = .ok (.iconst 0, 1) := by decide +kernel
theorem dd_lw_user_2 : decode method_4_code 2 = .ok (.aload_n 0, 1) := by decide +kernel
theorem dd_lw_user_3 : decode method_4_code 3 = .ok (.invokevirtual 15, 3) := by decide +kernel
theorem dd_lw_user_6 : decode method_4_code 6 = .ok (.i2l, 1) := by decide +kernel
theorem dd_lw_user_7 : decode method_4_code 7 = .ok (.lastore, 1) := by decide +kernel
theorem dd_lw_user_8 : decode method_4_code 8 = .ok (.goto 6, 3) := by decide +kernel
theorem dd_lw_user_11 : decode method_4_code 11 = .ok (.astore_n 2, 1) := by decide +kernel
theorem dd_lw_user_12 : decode method_4_code 12 = .ok (.iconst 1, 1) := by decide +kernel
theorem dd_lw_user_13 : decode method_4_code 13 = .ok (.ireturn, 1) := by decide +kernel
theorem dd_lw_user_14 : decode method_4_code 14 = .ok (.iconst 0, 1) := by decide +kernel
theorem dd_lw_user_15 : decode method_4_code 15 = .ok (.ireturn, 1) := by decide +kernel
theorem dd_ra_user_0 : decode prog_1_method_3_code 0 = .ok (.aload_n 0, 1) := by decide +kernel
theorem dd_ra_user_1 : decode prog_1_method_3_code 1 = .ok (.getfield 55, 3) := by decide +kernel
theorem dd_ra_user_4 : decode prog_1_method_3_code 4 = .ok (.iconst 5, 1) := by decide +kernel
theorem dd_ra_user_5 : decode prog_1_method_3_code 5 = .ok (.if_icmp .lt 13, 3) := by decide +kernel
theorem dd_ra_user_8 : decode prog_1_method_3_code 8 = .ok (.new 48, 3) := by decide +kernel
theorem dd_ra_user_11 : decode prog_1_method_3_code 11 = .ok (.dup, 1) := by decide +kernel
theorem dd_ra_user_12 : decode prog_1_method_3_code 12 = .ok (.ldc 58, 2) := by decide +kernel
theorem dd_ra_user_14 : decode prog_1_method_3_code 14 = .ok (.invokespecial 52, 3) := by decide +kernel
theorem dd_ra_user_17 : decode prog_1_method_3_code 17 = .ok (.athrow, 1) := by decide +kernel
theorem dd_ra_user_18 : decode prog_1_method_3_code 18 = .ok (.aload_n 0, 1) := by decide +kernel
theorem dd_ra_user_19 : decode prog_1_method_3_code 19 = .ok (.getfield 55, 3) := by decide +kernel
theorem dd_ra_user_22 : decode prog_1_method_3_code 22 = .ok (.istore_n 1, 1) := by decide +kernel
theorem dd_ra_user_23 : decode prog_1_method_3_code 23 = .ok (.aload_n 0, 1) := by decide +kernel
theorem dd_ra_user_24 : decode prog_1_method_3_code 24 = .ok (.iload_n 1, 1) := by decide +kernel
theorem dd_ra_user_25 : decode prog_1_method_3_code 25 = .ok (.iconst 1, 1) := by decide +kernel
theorem dd_ra_user_26 : decode prog_1_method_3_code 26 = .ok (.iadd, 1) := by decide +kernel
theorem dd_ra_user_27 : decode prog_1_method_3_code 27 = .ok (.putfield 55, 3) := by decide +kernel
theorem dd_ra_user_30 : decode prog_1_method_3_code 30 = .ok (.iload_n 1, 1) := by decide +kernel
theorem dd_ra_user_31 : decode prog_1_method_3_code 31 = .ok (.ireturn, 1) := by decide +kernel
theorem dd_lw_above_0 : decode method_5_code 0 = .ok (.aload_n 3, 1) := by decide +kernel
theorem dd_lw_above_1 : decode method_5_code 1 = .ok (.iconst 0, 1) := by decide +kernel
theorem dd_lw_above_2 : decode method_5_code 2 = .ok (.aload_n 0, 1) := by decide +kernel
theorem dd_lw_above_3 : decode method_5_code 3 = .ok (.iload_n 1, 1) := by decide +kernel
theorem dd_lw_above_4 : decode method_5_code 4 = .ok (.iload_n 2, 1) := by decide +kernel
theorem dd_lw_above_5 : decode method_5_code 5 = .ok (.invokevirtual 18, 3) := by decide +kernel
theorem dd_lw_above_8 : decode method_5_code 8 = .ok (.ifCond .eq 7, 3) := by decide +kernel
theorem dd_lw_above_11 : decode method_5_code 11 = .ok (.lconst 1, 1) := by decide +kernel
theorem dd_lw_above_12 : decode method_5_code 12 = .ok (.goto 4, 3) := by decide +kernel
theorem dd_lw_above_15 : decode method_5_code 15 = .ok (.lconst 0, 1) := by decide +kernel
theorem dd_lw_above_16 : decode method_5_code 16 = .ok (.lastore, 1) := by decide +kernel
theorem dd_lw_above_17 : decode method_5_code 17 = .ok (.goto 15, 3) := by decide +kernel
theorem dd_lw_above_20 : decode method_5_code 20 = .ok (.astore 4, 2) := by decide +kernel
theorem dd_lw_above_22 : decode method_5_code 22 = .ok (.iconst 1, 1) := by decide +kernel
theorem dd_lw_above_23 : decode method_5_code 23 = .ok (.ireturn, 1) := by decide +kernel
theorem dd_lw_above_24 : decode method_5_code 24 = .ok (.astore 4, 2) := by decide +kernel
theorem dd_lw_above_26 : decode method_5_code 26 = .ok (.iconst 2, 1) := by decide +kernel
theorem dd_lw_above_27 : decode method_5_code 27 = .ok (.ireturn, 1) := by decide +kernel
theorem dd_lw_above_28 : decode method_5_code 28 = .ok (.astore 4, 2) := by decide +kernel
theorem dd_lw_above_30 : decode method_5_code 30 = .ok (.iconst 3, 1) := by decide +kernel
theorem dd_lw_above_31 : decode method_5_code 31 = .ok (.ireturn, 1) := by decide +kernel
theorem dd_lw_above_32 : decode method_5_code 32 = .ok (.iconst 0, 1) := by decide +kernel
theorem dd_lw_above_33 : decode method_5_code 33 = .ok (.ireturn, 1) := by decide +kernel
theorem dd_ra_above_0 : decode prog_1_method_4_code 0 = .ok (.aload_n 0, 1) := by decide +kernel
theorem dd_ra_above_1 : decode prog_1_method_4_code 1 = .ok (.iload_n 1, 1) := by decide +kernel
theorem dd_ra_above_2 : decode prog_1_method_4_code 2 = .ok (.invokevirtual 60, 3) := by decide +kernel
theorem dd_ra_above_5 : decode prog_1_method_4_code 5 = .ok (.aload_n 0, 1) := by decide +kernel
theorem dd_ra_above_6 : decode prog_1_method_4_code 6 = .ok (.iload_n 2, 1) := by decide +kernel
theorem dd_ra_above_7 : decode prog_1_method_4_code 7 = .ok (.invokevirtual 60, 3) := by decide +kernel
theorem dd_ra_above_10 : decode prog_1_method_4_code 10 = .ok (.iload_n 1, 1) := by decide +kernel
theorem dd_ra_above_11 : decode prog_1_method_4_code 11 = .ok (.iload_n 2, 1) := by decide +kernel
theorem dd_ra_above_12 : decode prog_1_method_4_code 12 = .ok (.if_icmp .eq 15, 3) := by decide +kernel
theorem dd_ra_above_15 : decode prog_1_method_4_code 15 = .ok (.aload_n 0, 1) := by decide +kernel
theorem dd_ra_above_16 : decode prog_1_method_4_code 16 = .ok (.getfield 12, 3) := by decide +kernel
theorem dd_ra_above_19 : decode prog_1_method_4_code 19 = .ok (.iload_n 2, 1) := by decide +kernel
theorem dd_ra_above_20 : decode prog_1_method_4_code 20 = .ok (.iload_n 1, 1) := by decide +kernel
theorem dd_ra_above_21 : decode prog_1_method_4_code 21 = .ok (.invokevirtual 64, 3) := by decide +kernel
theorem dd_ra_above_24 : decode prog_1_method_4_code 24 = .ok (.ifCond .eq 13, 3) := by decide +kernel
theorem dd_ra_above_27 : decode prog_1_method_4_code 27 = .ok (.new 68, 3) := by decide +kernel
theorem dd_ra_above_30 : decode prog_1_method_4_code 30 = .ok (.dup, 1) := by decide +kernel
theorem dd_ra_above_31 : decode prog_1_method_4_code 31 = .ok (.ldc 70, 2) := by decide +kernel
theorem dd_ra_above_33 : decode prog_1_method_4_code 33 = .ok (.invokespecial 72, 3) := by decide +kernel
theorem dd_ra_above_36 : decode prog_1_method_4_code 36 = .ok (.athrow, 1) := by decide +kernel
theorem dd_ra_above_37 : decode prog_1_method_4_code 37 = .ok (.aload_n 0, 1) := by decide +kernel
theorem dd_ra_above_38 : decode prog_1_method_4_code 38 = .ok (.getfield 12, 3) := by decide +kernel
theorem dd_ra_above_41 : decode prog_1_method_4_code 41 = .ok (.iload_n 1, 1) := by decide +kernel
theorem dd_ra_above_42 : decode prog_1_method_4_code 42 = .ok (.iload_n 2, 1) := by decide +kernel
theorem dd_ra_above_43 : decode prog_1_method_4_code 43 = .ok (.invokevirtual 64, 3) := by decide +kernel
theorem dd_ra_above_46 : decode prog_1_method_4_code 46 = .ok (.ifCond .eq 5, 3) := by decide +kernel
theorem dd_ra_above_49 : decode prog_1_method_4_code 49 = .ok (.iconst 0, 1) := by decide +kernel
theorem dd_ra_above_50 : decode prog_1_method_4_code 50 = .ok (.ireturn, 1) := by decide +kernel
theorem dd_ra_above_51 : decode prog_1_method_4_code 51 = .ok (.iconst 0, 1) := by decide +kernel
theorem dd_ra_above_52 : decode prog_1_method_4_code 52 = .ok (.istore_n 3, 1) := by decide +kernel
theorem dd_ra_above_53 : decode prog_1_method_4_code 53 = .ok (.iload_n 3, 1) := by decide +kernel
theorem dd_ra_above_54 : decode prog_1_method_4_code 54 = .ok (.aload_n 0, 1) := by decide +kernel
theorem dd_ra_above_55 : decode prog_1_method_4_code 55 = .ok (.getfield 55, 3) := by decide +kernel
theorem dd_ra_above_58 : decode prog_1_method_4_code 58 = .ok (.if_icmp .ge 27, 3) := by decide +kernel
theorem dd_ra_above_61 : decode prog_1_method_4_code 61 = .ok (.aload_n 0, 1) := by decide +kernel
theorem dd_ra_above_62 : decode prog_1_method_4_code 62 = .ok (.aload_n 0, 1) := by decide +kernel
theorem dd_ra_above_63 : decode prog_1_method_4_code 63 = .ok (.getfield 12, 3) := by decide +kernel
theorem dd_ra_above_66 : decode prog_1_method_4_code 66 = .ok (.aload_n 0, 1) := by decide +kernel
theorem dd_ra_above_67 : decode prog_1_method_4_code 67 = .ok (.iload_n 3, 1) := by decide +kernel
theorem dd_ra_above_68 : decode prog_1_method_4_code 68 = .ok (.invokevirtual 73, 3) := by decide +kernel
theorem dd_ra_above_71 : decode prog_1_method_4_code 71 = .ok (.iload_n 1, 1) := by decide +kernel
theorem dd_ra_above_72 : decode prog_1_method_4_code 72 = .ok (.iload_n 2, 1) := by decide +kernel
theorem dd_ra_above_73 : decode prog_1_method_4_code 73 = .ok (.invokevirtual 77, 3) := by decide +kernel
theorem dd_ra_above_76 : decode prog_1_method_4_code 76 = .ok (.invokevirtual 81, 3) := by decide +kernel
theorem dd_ra_above_79 : decode prog_1_method_4_code 79 = .ok (.iinc 3 1, 3) := by decide +kernel
theorem dd_ra_above_82 : decode prog_1_method_4_code 82 = .ok (.goto (-29), 3) := by decide +kernel
theorem dd_ra_above_85 : decode prog_1_method_4_code 85 = .ok (.aload_n 0, 1) := by decide +kernel
theorem dd_ra_above_86 : decode prog_1_method_4_code 86 = .ok (.getfield 12, 3) := by decide +kernel
theorem dd_ra_above_89 : decode prog_1_method_4_code 89 = .ok (.iload_n 1, 1) := by decide +kernel
theorem dd_ra_above_90 : decode prog_1_method_4_code 90 = .ok (.iload_n 2, 1) := by decide +kernel
theorem dd_ra_above_91 : decode prog_1_method_4_code 91 = .ok (.invokevirtual 84, 3) := by decide +kernel
theorem dd_ra_above_94 : decode prog_1_method_4_code 94 = .ok (.iconst 1, 1) := by decide +kernel
theorem dd_ra_above_95 : decode prog_1_method_4_code 95 = .ok (.ireturn, 1) := by decide +kernel
theorem dd_ra_checkRole_0 : decode prog_1_method_27_code 0 = .ok (.iload_n 1, 1) := by decide +kernel
theorem dd_ra_checkRole_1 : decode prog_1_method_27_code 1 = .ok (.ifCond .lt 14, 3) := by decide +kernel
theorem dd_ra_checkRole_4 : decode prog_1_method_27_code 4 = .ok (.iload_n 1, 1) := by decide +kernel
theorem dd_ra_checkRole_5 : decode prog_1_method_27_code 5 = .ok (.aload_n 0, 1) := by decide +kernel
theorem dd_ra_checkRole_6 : decode prog_1_method_27_code 6 = .ok (.getfield 12, 3) := by decide +kernel
theorem dd_ra_checkRole_9 : decode prog_1_method_27_code 9 = .ok (.getfield 44, 3) := by decide +kernel
theorem dd_ra_checkRole_12 : decode prog_1_method_27_code 12 = .ok (.if_icmp .lt 13, 3) := by decide +kernel
theorem dd_ra_checkRole_15 : decode prog_1_method_27_code 15 = .ok (.new 195, 3) := by decide +kernel
theorem dd_ra_checkRole_18 : decode prog_1_method_27_code 18 = .ok (.dup, 1) := by decide +kernel
theorem dd_ra_checkRole_19 : decode prog_1_method_27_code 19 = .ok (.ldc 197, 2) := by decide +kernel
theorem dd_ra_checkRole_21 : decode prog_1_method_27_code 21 = .ok (.invokespecial 199, 3) := by decide +kernel
theorem dd_ra_checkRole_24 : decode prog_1_method_27_code 24 = .ok (.athrow, 1) := by decide +kernel
theorem dd_ra_checkRole_25 : decode prog_1_method_27_code 25 = .ok (.return_, 1) := by decide +kernel
theorem dd_po_standsAbove_0 : decode prog_3_method_2_code 0 = .ok (.iload_n 1, 1) := by decide +kernel
theorem dd_po_standsAbove_1 : decode prog_3_method_2_code 1 = .ok (.iload_n 2, 1) := by decide +kernel
theorem dd_po_standsAbove_2 : decode prog_3_method_2_code 2 = .ok (.if_icmp .eq 22, 3) := by decide +kernel
theorem dd_po_standsAbove_5 : decode prog_3_method_2_code 5 = .ok (.aload_n 0, 1) := by decide +kernel
theorem dd_po_standsAbove_6 : decode prog_3_method_2_code 6 = .ok (.getfield 9, 3) := by decide +kernel
theorem dd_po_standsAbove_9 : decode prog_3_method_2_code 9 = .ok (.iconst 1, 1) := by decide +kernel
theorem dd_po_standsAbove_10 : decode prog_3_method_2_code 10 = .ok (.iload_n 1, 1) := by decide +kernel
theorem dd_po_standsAbove_11 : decode prog_3_method_2_code 11 = .ok (.ishl, 1) := by decide +kernel
theorem dd_po_standsAbove_12 : decode prog_3_method_2_code 12 = .ok (.iaload, 1) := by decide +kernel
theorem dd_po_standsAbove_13 : decode prog_3_method_2_code 13 = .ok (.iload_n 2, 1) := by decide +kernel
theorem dd_po_standsAbove_14 : decode prog_3_method_2_code 14 = .ok (.invokestatic 28, 3) := by decide +kernel
theorem dd_po_standsAbove_17 : decode prog_3_method_2_code 17 = .ok (.ifCond .eq 7, 3) := by decide +kernel
theorem dd_po_standsAbove_20 : decode prog_3_method_2_code 20 = .ok (.iconst 1, 1) := by decide +kernel
theorem dd_po_standsAbove_21 : decode prog_3_method_2_code 21 = .ok (.goto 4, 3) := by decide +kernel
theorem dd_po_standsAbove_24 : decode prog_3_method_2_code 24 = .ok (.iconst 0, 1) := by decide +kernel
theorem dd_po_standsAbove_25 : decode prog_3_method_2_code 25 = .ok (.ireturn, 1) := by decide +kernel
theorem dd_ra_has_0 : decode prog_1_method_36_code 0 = .ok (.iload_n 0, 1) := by decide +kernel
theorem dd_ra_has_1 : decode prog_1_method_36_code 1 = .ok (.iload_n 1, 1) := by decide +kernel
theorem dd_ra_has_2 : decode prog_1_method_36_code 2 = .ok (.ishr, 1) := by decide +kernel
theorem dd_ra_has_3 : decode prog_1_method_36_code 3 = .ok (.iconst 1, 1) := by decide +kernel
theorem dd_ra_has_4 : decode prog_1_method_36_code 4 = .ok (.iand, 1) := by decide +kernel
theorem dd_ra_has_5 : decode prog_1_method_36_code 5 = .ok (.iconst 1, 1) := by decide +kernel
theorem dd_ra_has_6 : decode prog_1_method_36_code 6 = .ok (.if_icmp .ne 7, 3) := by decide +kernel
theorem dd_ra_has_9 : decode prog_1_method_36_code 9 = .ok (.iconst 1, 1) := by decide +kernel
theorem dd_ra_has_10 : decode prog_1_method_36_code 10 = .ok (.goto 4, 3) := by decide +kernel
theorem dd_ra_has_13 : decode prog_1_method_36_code 13 = .ok (.iconst 0, 1) := by decide +kernel
theorem dd_ra_has_14 : decode prog_1_method_36_code 14 = .ok (.ireturn, 1) := by decide +kernel
theorem dd_ra_authorizedRoles_0 : decode prog_1_method_22_code 0 = .ok (.aload_n 0, 1) := by decide +kernel
theorem dd_ra_authorizedRoles_1 : decode prog_1_method_22_code 1 = .ok (.getfield 12, 3) := by decide +kernel
theorem dd_ra_authorizedRoles_4 : decode prog_1_method_22_code 4 = .ok (.getfield 172, 3) := by decide +kernel
theorem dd_ra_authorizedRoles_7 : decode prog_1_method_22_code 7 = .ok (.aload_n 0, 1) := by decide +kernel
theorem dd_ra_authorizedRoles_8 : decode prog_1_method_22_code 8 = .ok (.getfield 25, 3) := by decide +kernel
theorem dd_ra_authorizedRoles_11 : decode prog_1_method_22_code 11 = .ok (.iload_n 1, 1) := by decide +kernel
theorem dd_ra_authorizedRoles_12 : decode prog_1_method_22_code 12 = .ok (.iaload, 1) := by decide +kernel
theorem dd_ra_authorizedRoles_13 : decode prog_1_method_22_code 13 = .ok (.iaload, 1) := by decide +kernel
theorem dd_ra_authorizedRoles_14 : decode prog_1_method_22_code 14 = .ok (.ireturn, 1) := by decide +kernel
theorem dd_po_widened_0 : decode prog_3_method_3_code 0 = .ok (.iload_n 1, 1) := by decide +kernel
theorem dd_po_widened_1 : decode prog_3_method_3_code 1 = .ok (.iload_n 2, 1) := by decide +kernel
theorem dd_po_widened_2 : decode prog_3_method_3_code 2 = .ok (.invokestatic 28, 3) := by decide +kernel
theorem dd_po_widened_5 : decode prog_3_method_3_code 5 = .ok (.ifCond .eq 16, 3) := by decide +kernel
theorem dd_po_widened_8 : decode prog_3_method_3_code 8 = .ok (.iload_n 1, 1) := by decide +kernel
theorem dd_po_widened_9 : decode prog_3_method_3_code 9 = .ok (.aload_n 0, 1) := by decide +kernel
theorem dd_po_widened_10 : decode prog_3_method_3_code 10 = .ok (.getfield 9, 3) := by decide +kernel
theorem dd_po_widened_13 : decode prog_3_method_3_code 13 = .ok (.iconst 1, 1) := by decide +kernel
theorem dd_po_widened_14 : decode prog_3_method_3_code 14 = .ok (.iload_n 3, 1) := by decide +kernel
theorem dd_po_widened_15 : decode prog_3_method_3_code 15 = .ok (.ishl, 1) := by decide +kernel
theorem dd_po_widened_16 : decode prog_3_method_3_code 16 = .ok (.iaload, 1) := by decide +kernel
theorem dd_po_widened_17 : decode prog_3_method_3_code 17 = .ok (.ior, 1) := by decide +kernel
theorem dd_po_widened_18 : decode prog_3_method_3_code 18 = .ok (.goto 4, 3) := by decide +kernel
theorem dd_po_widened_21 : decode prog_3_method_3_code 21 = .ok (.iload_n 1, 1) := by decide +kernel
theorem dd_po_widened_22 : decode prog_3_method_3_code 22 = .ok (.ireturn, 1) := by decide +kernel
theorem dd_ra_checkStaticLimits_0 : decode prog_1_method_32_code 0 = .ok (.aload_n 0, 1) := by decide +kernel
theorem dd_ra_checkStaticLimits_1 : decode prog_1_method_32_code 1 = .ok (.getfield 12, 3) := by decide +kernel
theorem dd_ra_checkStaticLimits_4 : decode prog_1_method_32_code 4 = .ok (.getfield 103, 3) := by decide +kernel
theorem dd_ra_checkStaticLimits_7 : decode prog_1_method_32_code 7 = .ok (.iload_n 1, 1) := by decide +kernel
theorem dd_ra_checkStaticLimits_8 : decode prog_1_method_32_code 8 = .ok (.invokestatic 166, 3) := by decide +kernel
theorem dd_ra_checkStaticLimits_11 : decode prog_1_method_32_code 11 = .ok (.ifCond .ne 13, 3) := by decide +kernel
theorem dd_ra_checkStaticLimits_14 : decode prog_1_method_32_code 14 = .ok (.new 48, 3) := by decide +kernel
theorem dd_ra_checkStaticLimits_17 : decode prog_1_method_32_code 17 = .ok (.dup, 1) := by decide +kernel
theorem dd_ra_checkStaticLimits_18 : decode prog_1_method_32_code 18 = .ok (.ldc 211, 2) := by decide +kernel
theorem dd_ra_checkStaticLimits_20 : decode prog_1_method_32_code 20 = .ok (.invokespecial 52, 3) := by decide +kernel
theorem dd_ra_checkStaticLimits_23 : decode prog_1_method_32_code 23 = .ok (.athrow, 1) := by decide +kernel
theorem dd_ra_checkStaticLimits_24 : decode prog_1_method_32_code 24 = .ok (.return_, 1) := by decide +kernel
theorem dd_ra_areKept_0 : decode prog_1_method_37_code 0 = .ok (.iconst 0, 1) := by decide +kernel
theorem dd_ra_areKept_1 : decode prog_1_method_37_code 1 = .ok (.istore_n 2, 1) := by decide +kernel
theorem dd_ra_areKept_2 : decode prog_1_method_37_code 2 = .ok (.iload_n 2, 1) := by decide +kernel
theorem dd_ra_areKept_3 : decode prog_1_method_37_code 3 = .ok (.aload_n 0, 1) := by decide +kernel
theorem dd_ra_areKept_4 : decode prog_1_method_37_code 4 = .ok (.invokevirtual 106, 3) := by decide +kernel
theorem dd_ra_areKept_7 : decode prog_1_method_37_code 7 = .ok (.if_icmp .ge 26, 3) := by decide +kernel
theorem dd_ra_areKept_10 : decode prog_1_method_37_code 10 = .ok (.aload_n 0, 1) := by decide +kernel
theorem dd_ra_areKept_11 : decode prog_1_method_37_code 11 = .ok (.iload_n 2, 1) := by decide +kernel
theorem dd_ra_areKept_12 : decode prog_1_method_37_code 12 = .ok (.invokevirtual 223, 3) := by decide +kernel
theorem dd_ra_areKept_15 : decode prog_1_method_37_code 15 = .ok (.checkcast 114, 3) := by decide +kernel
theorem dd_ra_areKept_18 : decode prog_1_method_37_code 18 = .ok (.iload_n 1, 1) := by decide +kernel
theorem dd_ra_areKept_19 : decode prog_1_method_37_code 19 = .ok (.invokevirtual 191, 3) := by decide +kernel
theorem dd_ra_areKept_22 : decode prog_1_method_37_code 22 = .ok (.ifCond .ne 5, 3) := by decide +kernel
theorem dd_ra_areKept_25 : decode prog_1_method_37_code 25 = .ok (.iconst 0, 1) := by decide +kernel
theorem dd_ra_areKept_26 : decode prog_1_method_37_code 26 = .ok (.ireturn, 1) := by decide +kernel
theorem dd_ra_areKept_27 : decode prog_1_method_37_code 27 = .ok (.iinc 2 1, 3) := by decide +kernel
theorem dd_ra_areKept_30 : decode prog_1_method_37_code 30 = .ok (.goto (-28), 3) := by decide +kernel
theorem dd_ra_areKept_33 : decode prog_1_method_37_code 33 = .ok (.iconst 1, 1) := by decide +kernel
theorem dd_ra_areKept_34 : decode prog_1_method_37_code 34 = .ok (.ireturn, 1) := by decide +kernel
theorem dd_al_size_0 : decode prog_24_method_8_code 0 = .ok (.aload_n 0, 1) := by decide +kernel
theorem dd_al_size_1 : decode prog_24_method_8_code 1 = .ok (.getfield 48, 3) := by decide +kernel
theorem dd_al_size_4 : decode prog_24_method_8_code 4 = .ok (.ireturn, 1) := by decide +kernel
theorem dd_al_get_0 : decode prog_24_method_20_code 0 = .ok (.iload_n 1, 1) := by decide +kernel
theorem dd_al_get_1 : decode prog_24_method_20_code 1 = .ok (.aload_n 0, 1) := by decide +kernel
theorem dd_al_get_2 : decode prog_24_method_20_code 2 = .ok (.getfield 48, 3) := by decide +kernel
theorem dd_al_get_5 : decode prog_24_method_20_code 5 = .ok (.invokestatic 118, 3) := by decide +kernel
theorem dd_al_get_8 : decode prog_24_method_20_code 8 = .ok (.pop, 1) := by decide +kernel
theorem dd_al_get_9 : decode prog_24_method_20_code 9 = .ok (.aload_n 0, 1) := by decide +kernel
theorem dd_al_get_10 : decode prog_24_method_20_code 10 = .ok (.iload_n 1, 1) := by decide +kernel
theorem dd_al_get_11 : decode prog_24_method_20_code 11 = .ok (.invokevirtual 123, 3) := by decide +kernel
theorem dd_al_get_14 : decode prog_24_method_20_code 14 = .ok (.areturn, 1) := by decide +kernel
theorem dd_ot_checkIndex_0 : decode prog_28_method_17_code 0 = .ok (.iload_n 0, 1) := by decide +kernel
theorem dd_ot_checkIndex_1 : decode prog_28_method_17_code 1 = .ok (.iload_n 1, 1) := by decide +kernel
theorem dd_ot_checkIndex_2 : decode prog_28_method_17_code 2 = .ok (.aconst_null, 1) := by decide +kernel
theorem dd_ot_checkIndex_3 : decode prog_28_method_17_code 3 = .ok (.invokestatic 105, 3) := by decide +kernel
theorem dd_ot_checkIndex_6 : decode prog_28_method_17_code 6 = .ok (.ireturn, 1) := by decide +kernel
theorem dd_pc_checkIndex_0 : decode prog_32_method_11_code 0 = .ok (.iload_n 0, 1) := by decide +kernel
theorem dd_pc_checkIndex_1 : decode prog_32_method_11_code 1 = .ok (.ifCond .lt 8, 3) := by decide +kernel
theorem dd_pc_checkIndex_4 : decode prog_32_method_11_code 4 = .ok (.iload_n 0, 1) := by decide +kernel
theorem dd_pc_checkIndex_5 : decode prog_32_method_11_code 5 = .ok (.iload_n 1, 1) := by decide +kernel
theorem dd_pc_checkIndex_6 : decode prog_32_method_11_code 6 = .ok (.if_icmp .lt 10, 3) := by decide +kernel
theorem dd_pc_checkIndex_9 : decode prog_32_method_11_code 9 = .ok (.aload_n 2, 1) := by decide +kernel
theorem dd_pc_checkIndex_10 : decode prog_32_method_11_code 10 = .ok (.iload_n 0, 1) := by decide +kernel
theorem dd_pc_checkIndex_11 : decode prog_32_method_11_code 11 = .ok (.iload_n 1, 1) := by decide +kernel
theorem dd_pc_checkIndex_12 : decode prog_32_method_11_code 12 = .ok (.invokestatic 95, 3) := by decide +kernel
theorem dd_pc_checkIndex_15 : decode prog_32_method_11_code 15 = .ok (.athrow, 1) := by decide +kernel
theorem dd_pc_checkIndex_16 : decode prog_32_method_11_code 16 = .ok (.iload_n 0, 1) := by decide +kernel
theorem dd_pc_checkIndex_17 : decode prog_32_method_11_code 17 = .ok (.ireturn, 1) := by decide +kernel
theorem dd_al_elementData_0 : decode prog_24_method_18_code 0 = .ok (.aload_n 0, 1) := by decide +kernel
theorem dd_al_elementData_1 : decode prog_24_method_18_code 1 = .ok (.getfield 9, 3) := by decide +kernel
theorem dd_al_elementData_4 : decode prog_24_method_18_code 4 = .ok (.iload_n 1, 1) := by decide +kernel
theorem dd_al_elementData_5 : decode prog_24_method_18_code 5 = .ok (.aaload, 1) := by decide +kernel
theorem dd_al_elementData_6 : decode prog_24_method_18_code 6 = .ok (.areturn, 1) := by decide +kernel
theorem dd_li_isKept_0 : decode prog_2_method_2_code 0 = .ok (.iload_n 1, 1) := by decide +kernel
theorem dd_li_isKept_1 : decode prog_2_method_2_code 1 = .ok (.aload_n 0, 1) := by decide +kernel
theorem dd_li_isKept_2 : decode prog_2_method_2_code 2 = .ok (.getfield 7, 3) := by decide +kernel
theorem dd_li_isKept_5 : decode prog_2_method_2_code 5 = .ok (.iand, 1) := by decide +kernel
theorem dd_li_isKept_6 : decode prog_2_method_2_code 6 = .ok (.invokestatic 16, 3) := by decide +kernel
theorem dd_li_isKept_9 : decode prog_2_method_2_code 9 = .ok (.aload_n 0, 1) := by decide +kernel
theorem dd_li_isKept_10 : decode prog_2_method_2_code 10 = .ok (.getfield 13, 3) := by decide +kernel
theorem dd_li_isKept_13 : decode prog_2_method_2_code 13 = .ok (.if_icmp .ge 7, 3) := by decide +kernel
theorem dd_li_isKept_16 : decode prog_2_method_2_code 16 = .ok (.iconst 1, 1) := by decide +kernel
theorem dd_li_isKept_17 : decode prog_2_method_2_code 17 = .ok (.goto 4, 3) := by decide +kernel
theorem dd_li_isKept_20 : decode prog_2_method_2_code 20 = .ok (.iconst 0, 1) := by decide +kernel
theorem dd_li_isKept_21 : decode prog_2_method_2_code 21 = .ok (.ireturn, 1) := by decide +kernel
theorem dd_ig_bitCount_0 : decode prog_14_method_49_code 0 = .ok (.iload_n 0, 1) := by decide +kernel
theorem dd_ig_bitCount_1 : decode prog_14_method_49_code 1 = .ok (.iload_n 0, 1) := by decide +kernel
theorem dd_ig_bitCount_2 : decode prog_14_method_49_code 2 = .ok (.iconst 1, 1) := by decide +kernel
theorem dd_ig_bitCount_3 : decode prog_14_method_49_code 3 = .ok (.iushr, 1) := by decide +kernel
theorem dd_ig_bitCount_4 : decode prog_14_method_49_code 4 = .ok (.ldc_w 265, 3) := by decide +kernel
theorem dd_ig_bitCount_7 : decode prog_14_method_49_code 7 = .ok (.iand, 1) := by decide +kernel
theorem dd_ig_bitCount_8 : decode prog_14_method_49_code 8 = .ok (.isub, 1) := by decide +kernel
theorem dd_ig_bitCount_9 : decode prog_14_method_49_code 9 = .ok (.istore_n 0, 1) := by decide +kernel
theorem dd_ig_bitCount_10 : decode prog_14_method_49_code 10 = .ok (.iload_n 0, 1) := by decide +kernel
theorem dd_ig_bitCount_11 : decode prog_14_method_49_code 11 = .ok (.ldc_w 266, 3) := by decide +kernel
theorem dd_ig_bitCount_14 : decode prog_14_method_49_code 14 = .ok (.iand, 1) := by decide +kernel
theorem dd_ig_bitCount_15 : decode prog_14_method_49_code 15 = .ok (.iload_n 0, 1) := by decide +kernel
theorem dd_ig_bitCount_16 : decode prog_14_method_49_code 16 = .ok (.iconst 2, 1) := by decide +kernel
theorem dd_ig_bitCount_17 : decode prog_14_method_49_code 17 = .ok (.iushr, 1) := by decide +kernel
theorem dd_ig_bitCount_18 : decode prog_14_method_49_code 18 = .ok (.ldc_w 266, 3) := by decide +kernel
theorem dd_ig_bitCount_21 : decode prog_14_method_49_code 21 = .ok (.iand, 1) := by decide +kernel
theorem dd_ig_bitCount_22 : decode prog_14_method_49_code 22 = .ok (.iadd, 1) := by decide +kernel
theorem dd_ig_bitCount_23 : decode prog_14_method_49_code 23 = .ok (.istore_n 0, 1) := by decide +kernel
theorem dd_ig_bitCount_24 : decode prog_14_method_49_code 24 = .ok (.iload_n 0, 1) := by decide +kernel
theorem dd_ig_bitCount_25 : decode prog_14_method_49_code 25 = .ok (.iload_n 0, 1) := by decide +kernel
theorem dd_ig_bitCount_26 : decode prog_14_method_49_code 26 = .ok (.iconst 4, 1) := by decide +kernel
theorem dd_ig_bitCount_27 : decode prog_14_method_49_code 27 = .ok (.iushr, 1) := by decide +kernel
theorem dd_ig_bitCount_28 : decode prog_14_method_49_code 28 = .ok (.iadd, 1) := by decide +kernel
theorem dd_ig_bitCount_29 : decode prog_14_method_49_code 29 = .ok (.ldc_w 267, 3) := by decide +kernel
theorem dd_ig_bitCount_32 : decode prog_14_method_49_code 32 = .ok (.iand, 1) := by decide +kernel
theorem dd_ig_bitCount_33 : decode prog_14_method_49_code 33 = .ok (.istore_n 0, 1) := by decide +kernel
theorem dd_ig_bitCount_34 : decode prog_14_method_49_code 34 = .ok (.iload_n 0, 1) := by decide +kernel
theorem dd_ig_bitCount_35 : decode prog_14_method_49_code 35 = .ok (.iload_n 0, 1) := by decide +kernel
theorem dd_ig_bitCount_36 : decode prog_14_method_49_code 36 = .ok (.bipush 8, 2) := by decide +kernel
theorem dd_ig_bitCount_38 : decode prog_14_method_49_code 38 = .ok (.iushr, 1) := by decide +kernel
theorem dd_ig_bitCount_39 : decode prog_14_method_49_code 39 = .ok (.iadd, 1) := by decide +kernel
theorem dd_ig_bitCount_40 : decode prog_14_method_49_code 40 = .ok (.istore_n 0, 1) := by decide +kernel
theorem dd_ig_bitCount_41 : decode prog_14_method_49_code 41 = .ok (.iload_n 0, 1) := by decide +kernel
theorem dd_ig_bitCount_42 : decode prog_14_method_49_code 42 = .ok (.iload_n 0, 1) := by decide +kernel
theorem dd_ig_bitCount_43 : decode prog_14_method_49_code 43 = .ok (.bipush 16, 2) := by decide +kernel
theorem dd_ig_bitCount_45 : decode prog_14_method_49_code 45 = .ok (.iushr, 1) := by decide +kernel
theorem dd_ig_bitCount_46 : decode prog_14_method_49_code 46 = .ok (.iadd, 1) := by decide +kernel
theorem dd_ig_bitCount_47 : decode prog_14_method_49_code 47 = .ok (.istore_n 0, 1) := by decide +kernel
theorem dd_ig_bitCount_48 : decode prog_14_method_49_code 48 = .ok (.iload_n 0, 1) := by decide +kernel
theorem dd_ig_bitCount_49 : decode prog_14_method_49_code 49 = .ok (.bipush 63, 2) := by decide +kernel
theorem dd_ig_bitCount_51 : decode prog_14_method_49_code 51 = .ok (.iand, 1) := by decide +kernel
theorem dd_ig_bitCount_52 : decode prog_14_method_49_code 52 = .ok (.ireturn, 1) := by decide +kernel
