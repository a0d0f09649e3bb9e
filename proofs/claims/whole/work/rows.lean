section
/-! decode rows: printed by wip/whole/facts.py -/
theorem dd_ra_init_0 : decode prog_1_method_1_code 0 = .ok (.aload_n 0, 1) := by decide +kernel
theorem dd_ra_init_1 : decode prog_1_method_1_code 1 = .ok (.invokespecial 3, 3) := by decide +kernel
theorem dd_ra_init_4 : decode prog_1_method_1_code 4 = .ok (.aload_n 0, 1) := by decide +kernel
theorem dd_ra_init_5 : decode prog_1_method_1_code 5 = .ok (.new 9, 3) := by decide +kernel
theorem dd_ra_init_8 : decode prog_1_method_1_code 8 = .ok (.dup, 1) := by decide +kernel
theorem dd_ra_init_9 : decode prog_1_method_1_code 9 = .ok (.invokespecial 11, 3) := by decide +kernel
theorem dd_ra_init_12 : decode prog_1_method_1_code 12 = .ok (.putfield 12, 3) := by decide +kernel
theorem dd_ra_init_15 : decode prog_1_method_1_code 15 = .ok (.aload_n 0, 1) := by decide +kernel
theorem dd_ra_init_16 : decode prog_1_method_1_code 16 = .ok (.new 16, 3) := by decide +kernel
theorem dd_ra_init_19 : decode prog_1_method_1_code 19 = .ok (.dup, 1) := by decide +kernel
theorem dd_ra_init_20 : decode prog_1_method_1_code 20 = .ok (.aload_n 0, 1) := by decide +kernel
theorem dd_ra_init_21 : decode prog_1_method_1_code 21 = .ok (.getfield 12, 3) := by decide +kernel
theorem dd_ra_init_24 : decode prog_1_method_1_code 24 = .ok (.invokespecial 18, 3) := by decide +kernel
theorem dd_ra_init_27 : decode prog_1_method_1_code 27 = .ok (.putfield 21, 3) := by decide +kernel
theorem dd_ra_init_30 : decode prog_1_method_1_code 30 = .ok (.aload_n 0, 1) := by decide +kernel
theorem dd_ra_init_31 : decode prog_1_method_1_code 31 = .ok (.iconst 5, 1) := by decide +kernel
theorem dd_ra_init_32 : decode prog_1_method_1_code 32 = .ok (.newarray .int, 2) := by decide +kernel
theorem dd_ra_init_34 : decode prog_1_method_1_code 34 = .ok (.putfield 25, 3) := by decide +kernel
theorem dd_ra_init_37 : decode prog_1_method_1_code 37 = .ok (.aload_n 0, 1) := by decide +kernel
theorem dd_ra_init_38 : decode prog_1_method_1_code 38 = .ok (.bipush 6, 2) := by decide +kernel
theorem dd_ra_init_40 : decode prog_1_method_1_code 40 = .ok (.newarray .int, 2) := by decide +kernel
theorem dd_ra_init_42 : decode prog_1_method_1_code 42 = .ok (.putfield 29, 3) := by decide +kernel
theorem dd_ra_init_45 : decode prog_1_method_1_code 45 = .ok (.aload_n 0, 1) := by decide +kernel
theorem dd_ra_init_46 : decode prog_1_method_1_code 46 = .ok (.iconst 4, 1) := by decide +kernel
theorem dd_ra_init_47 : decode prog_1_method_1_code 47 = .ok (.newarray .int, 2) := by decide +kernel
theorem dd_ra_init_49 : decode prog_1_method_1_code 49 = .ok (.putfield 32, 3) := by decide +kernel
theorem dd_ra_init_52 : decode prog_1_method_1_code 52 = .ok (.aload_n 0, 1) := by decide +kernel
theorem dd_ra_init_53 : decode prog_1_method_1_code 53 = .ok (.iconst 4, 1) := by decide +kernel
theorem dd_ra_init_54 : decode prog_1_method_1_code 54 = .ok (.newarray .int, 2) := by decide +kernel
theorem dd_ra_init_56 : decode prog_1_method_1_code 56 = .ok (.putfield 35, 3) := by decide +kernel
theorem dd_ra_init_59 : decode prog_1_method_1_code 59 = .ok (.aload_n 0, 1) := by decide +kernel
theorem dd_ra_init_60 : decode prog_1_method_1_code 60 = .ok (.getfield 32, 3) := by decide +kernel
theorem dd_ra_init_63 : decode prog_1_method_1_code 63 = .ok (.iconst (-1), 1) := by decide +kernel
theorem dd_ra_init_64 : decode prog_1_method_1_code 64 = .ok (.invokestatic 38, 3) := by decide +kernel
theorem dd_ra_init_67 : decode prog_1_method_1_code 67 = .ok (.return_, 1) := by decide +kernel
theorem dd_po_init_0 : decode prog_3_method_1_code 0 = .ok (.aload_n 0, 1) := by decide +kernel
theorem dd_po_init_1 : decode prog_3_method_1_code 1 = .ok (.invokespecial 3, 3) := by decide +kernel
theorem dd_po_init_4 : decode prog_3_method_1_code 4 = .ok (.aload_n 0, 1) := by decide +kernel
theorem dd_po_init_5 : decode prog_3_method_1_code 5 = .ok (.bipush 64, 2) := by decide +kernel
theorem dd_po_init_7 : decode prog_3_method_1_code 7 = .ok (.newarray .int, 2) := by decide +kernel
theorem dd_po_init_9 : decode prog_3_method_1_code 9 = .ok (.putfield 9, 3) := by decide +kernel
theorem dd_po_init_12 : decode prog_3_method_1_code 12 = .ok (.iconst 0, 1) := by decide +kernel
theorem dd_po_init_13 : decode prog_3_method_1_code 13 = .ok (.istore_n 1, 1) := by decide +kernel
theorem dd_po_init_14 : decode prog_3_method_1_code 14 = .ok (.iload_n 1, 1) := by decide +kernel
theorem dd_po_init_15 : decode prog_3_method_1_code 15 = .ok (.bipush 64, 2) := by decide +kernel
theorem dd_po_init_17 : decode prog_3_method_1_code 17 = .ok (.if_icmp .ge 16, 3) := by decide +kernel
theorem dd_po_init_20 : decode prog_3_method_1_code 20 = .ok (.aload_n 0, 1) := by decide +kernel
theorem dd_po_init_21 : decode prog_3_method_1_code 21 = .ok (.getfield 9, 3) := by decide +kernel
theorem dd_po_init_24 : decode prog_3_method_1_code 24 = .ok (.iload_n 1, 1) := by decide +kernel
theorem dd_po_init_25 : decode prog_3_method_1_code 25 = .ok (.iload_n 1, 1) := by decide +kernel
theorem dd_po_init_26 : decode prog_3_method_1_code 26 = .ok (.iastore, 1) := by decide +kernel
theorem dd_po_init_27 : decode prog_3_method_1_code 27 = .ok (.iinc 1 1, 3) := by decide +kernel
theorem dd_po_init_30 : decode prog_3_method_1_code 30 = .ok (.goto (-16), 3) := by decide +kernel
theorem dd_po_init_33 : decode prog_3_method_1_code 33 = .ok (.aload_n 0, 1) := by decide +kernel
theorem dd_po_init_34 : decode prog_3_method_1_code 34 = .ok (.new 15, 3) := by decide +kernel
theorem dd_po_init_37 : decode prog_3_method_1_code 37 = .ok (.dup, 1) := by decide +kernel
theorem dd_po_init_38 : decode prog_3_method_1_code 38 = .ok (.invokespecial 17, 3) := by decide +kernel
theorem dd_po_init_41 : decode prog_3_method_1_code 41 = .ok (.putfield 18, 3) := by decide +kernel
theorem dd_po_init_44 : decode prog_3_method_1_code 44 = .ok (.aload_n 0, 1) := by decide +kernel
theorem dd_po_init_45 : decode prog_3_method_1_code 45 = .ok (.new 15, 3) := by decide +kernel
theorem dd_po_init_48 : decode prog_3_method_1_code 48 = .ok (.dup, 1) := by decide +kernel
theorem dd_po_init_49 : decode prog_3_method_1_code 49 = .ok (.invokespecial 17, 3) := by decide +kernel
theorem dd_po_init_52 : decode prog_3_method_1_code 52 = .ok (.putfield 22, 3) := by decide +kernel
theorem dd_po_init_55 : decode prog_3_method_1_code 55 = .ok (.aload_n 0, 1) := by decide +kernel
theorem dd_po_init_56 : decode prog_3_method_1_code 56 = .ok (.new 15, 3) := by decide +kernel
theorem dd_po_init_59 : decode prog_3_method_1_code 59 = .ok (.dup, 1) := by decide +kernel
theorem dd_po_init_60 : decode prog_3_method_1_code 60 = .ok (.invokespecial 17, 3) := by decide +kernel
theorem dd_po_init_63 : decode prog_3_method_1_code 63 = .ok (.putfield 25, 3) := by decide +kernel
theorem dd_po_init_66 : decode prog_3_method_1_code 66 = .ok (.return_, 1) := by decide +kernel
theorem dd_al_init_0 : decode prog_24_method_2_code 0 = .ok (.aload_n 0, 1) := by decide +kernel
theorem dd_al_init_1 : decode prog_24_method_2_code 1 = .ok (.invokespecial 1, 3) := by decide +kernel
theorem dd_al_init_4 : decode prog_24_method_2_code 4 = .ok (.aload_n 0, 1) := by decide +kernel
theorem dd_al_init_5 : decode prog_24_method_2_code 5 = .ok (.getstatic 39, 3) := by decide +kernel
theorem dd_al_init_8 : decode prog_24_method_2_code 8 = .ok (.putfield 9, 3) := by decide +kernel
theorem dd_al_init_11 : decode prog_24_method_2_code 11 = .ok (.return_, 1) := by decide +kernel
theorem dd_bl_init_0 : decode prog_23_method_1_code 0 = .ok (.aload_n 0, 1) := by decide +kernel
theorem dd_bl_init_1 : decode prog_23_method_1_code 1 = .ok (.invokespecial 1, 3) := by decide +kernel
theorem dd_bl_init_4 : decode prog_23_method_1_code 4 = .ok (.aload_n 0, 1) := by decide +kernel
theorem dd_bl_init_5 : decode prog_23_method_1_code 5 = .ok (.iconst 0, 1) := by decide +kernel
theorem dd_bl_init_6 : decode prog_23_method_1_code 6 = .ok (.putfield 7, 3) := by decide +kernel
theorem dd_bl_init_9 : decode prog_23_method_1_code 9 = .ok (.return_, 1) := by decide +kernel
theorem dd_bc_init_0 : decode prog_22_method_1_code 0 = .ok (.aload_n 0, 1) := by decide +kernel
theorem dd_bc_init_1 : decode prog_22_method_1_code 1 = .ok (.invokespecial 1, 3) := by decide +kernel
theorem dd_bc_init_4 : decode prog_22_method_1_code 4 = .ok (.return_, 1) := by decide +kernel
theorem dd_se_init_0 : decode prog_5_method_1_code 0 = .ok (.aload_n 0, 1) := by decide +kernel
theorem dd_se_init_1 : decode prog_5_method_1_code 1 = .ok (.invokespecial 3, 3) := by decide +kernel
theorem dd_se_init_4 : decode prog_5_method_1_code 4 = .ok (.aload_n 0, 1) := by decide +kernel
theorem dd_se_init_5 : decode prog_5_method_1_code 5 = .ok (.aload_n 1, 1) := by decide +kernel
theorem dd_se_init_6 : decode prog_5_method_1_code 6 = .ok (.putfield 9, 3) := by decide +kernel
theorem dd_se_init_9 : decode prog_5_method_1_code 9 = .ok (.aload_n 0, 1) := by decide +kernel
theorem dd_se_init_10 : decode prog_5_method_1_code 10 = .ok (.sipush 4096, 3) := by decide +kernel
theorem dd_se_init_13 : decode prog_5_method_1_code 13 = .ok (.newarray .int, 2) := by decide +kernel
theorem dd_se_init_15 : decode prog_5_method_1_code 15 = .ok (.putfield 15, 3) := by decide +kernel
theorem dd_se_init_18 : decode prog_5_method_1_code 18 = .ok (.aload_n 0, 1) := by decide +kernel
theorem dd_se_init_19 : decode prog_5_method_1_code 19 = .ok (.sipush 4096, 3) := by decide +kernel
theorem dd_se_init_22 : decode prog_5_method_1_code 22 = .ok (.newarray .int, 2) := by decide +kernel
theorem dd_se_init_24 : decode prog_5_method_1_code 24 = .ok (.putfield 19, 3) := by decide +kernel
theorem dd_se_init_27 : decode prog_5_method_1_code 27 = .ok (.return_, 1) := by decide +kernel
theorem dd_ar_fill_0 : decode prog_25_method_103_code 0 = .ok (.iconst 0, 1) := by decide +kernel
theorem dd_ar_fill_1 : decode prog_25_method_103_code 1 = .ok (.istore_n 2, 1) := by decide +kernel
theorem dd_ar_fill_2 : decode prog_25_method_103_code 2 = .ok (.aload_n 0, 1) := by decide +kernel
theorem dd_ar_fill_3 : decode prog_25_method_103_code 3 = .ok (.arraylength, 1) := by decide +kernel
theorem dd_ar_fill_4 : decode prog_25_method_103_code 4 = .ok (.istore_n 3, 1) := by decide +kernel
theorem dd_ar_fill_5 : decode prog_25_method_103_code 5 = .ok (.iload_n 2, 1) := by decide +kernel
theorem dd_ar_fill_6 : decode prog_25_method_103_code 6 = .ok (.iload_n 3, 1) := by decide +kernel
theorem dd_ar_fill_7 : decode prog_25_method_103_code 7 = .ok (.if_icmp .ge 13, 3) := by decide +kernel
theorem dd_ar_fill_10 : decode prog_25_method_103_code 10 = .ok (.aload_n 0, 1) := by decide +kernel
theorem dd_ar_fill_11 : decode prog_25_method_103_code 11 = .ok (.iload_n 2, 1) := by decide +kernel
theorem dd_ar_fill_12 : decode prog_25_method_103_code 12 = .ok (.iload_n 1, 1) := by decide +kernel
theorem dd_ar_fill_13 : decode prog_25_method_103_code 13 = .ok (.iastore, 1) := by decide +kernel
theorem dd_ar_fill_14 : decode prog_25_method_103_code 14 = .ok (.iinc 2 1, 3) := by decide +kernel
theorem dd_ar_fill_17 : decode prog_25_method_103_code 17 = .ok (.goto (-12), 3) := by decide +kernel
theorem dd_ar_fill_20 : decode prog_25_method_103_code 20 = .ok (.return_, 1) := by decide +kernel
theorem dd_lw_role_0 : decode method_3_code 0 = .ok (.aload_n 1, 1) := by decide +kernel
theorem dd_lw_role_1 : decode method_3_code 1 = .ok (.iconst 0, 1) := by decide +kernel
theorem dd_lw_role_2 : decode method_3_code 2 = .ok (.aload_n 0, 1) := by decide +kernel
theorem dd_lw_role_3 : decode method_3_code 3 = .ok (.invokevirtual 7, 3) := by decide +kernel
theorem dd_lw_role_6 : decode method_3_code 6 = .ok (.i2l, 1) := by decide +kernel
theorem dd_lw_role_7 : decode method_3_code 7 = .ok (.lastore, 1) := by decide +kernel
theorem dd_lw_role_8 : decode method_3_code 8 = .ok (.goto 6, 3) := by decide +kernel
theorem dd_lw_role_11 : decode method_3_code 11 = .ok (.astore_n 2, 1) := by decide +kernel
theorem dd_lw_role_12 : decode method_3_code 12 = .ok (.iconst 1, 1) := by decide +kernel
theorem dd_lw_role_13 : decode method_3_code 13 = .ok (.ireturn, 1) := by decide +kernel
theorem dd_lw_role_14 : decode method_3_code 14 = .ok (.iconst 0, 1) := by decide +kernel
theorem dd_lw_role_15 : decode method_3_code 15 = .ok (.ireturn, 1) := by decide +kernel
theorem dd_ra_role_0 : decode prog_1_method_2_code 0 = .ok (.aload_n 0, 1) := by decide +kernel
theorem dd_ra_role_1 : decode prog_1_method_2_code 1 = .ok (.getfield 12, 3) := by decide +kernel
theorem dd_ra_role_4 : decode prog_1_method_2_code 4 = .ok (.getfield 44, 3) := by decide +kernel
theorem dd_ra_role_7 : decode prog_1_method_2_code 7 = .ok (.bipush 6, 2) := by decide +kernel
theorem dd_ra_role_9 : decode prog_1_method_2_code 9 = .ok (.if_icmp .lt 13, 3) := by decide +kernel
theorem dd_ra_role_12 : decode prog_1_method_2_code 12 = .ok (.new 48, 3) := by decide +kernel
theorem dd_ra_role_15 : decode prog_1_method_2_code 15 = .ok (.dup, 1) := by decide +kernel
theorem dd_ra_role_16 : decode prog_1_method_2_code 16 = .ok (.ldc 50, 2) := by decide +kernel
theorem dd_ra_role_18 : decode prog_1_method_2_code 18 = .ok (.invokespecial 52, 3) := by decide +kernel
theorem dd_ra_role_21 : decode prog_1_method_2_code 21 = .ok (.athrow, 1) := by decide +kernel
theorem dd_ra_role_22 : decode prog_1_method_2_code 22 = .ok (.aload_n 0, 1) := by decide +kernel
theorem dd_ra_role_23 : decode prog_1_method_2_code 23 = .ok (.getfield 12, 3) := by decide +kernel
theorem dd_ra_role_26 : decode prog_1_method_2_code 26 = .ok (.getfield 44, 3) := by decide +kernel
theorem dd_ra_role_29 : decode prog_1_method_2_code 29 = .ok (.istore_n 1, 1) := by decide +kernel
theorem dd_ra_role_30 : decode prog_1_method_2_code 30 = .ok (.aload_n 0, 1) := by decide +kernel
theorem dd_ra_role_31 : decode prog_1_method_2_code 31 = .ok (.getfield 12, 3) := by decide +kernel
theorem dd_ra_role_34 : decode prog_1_method_2_code 34 = .ok (.iload_n 1, 1) := by decide +kernel
theorem dd_ra_role_35 : decode prog_1_method_2_code 35 = .ok (.iconst 1, 1) := by decide +kernel
theorem dd_ra_role_36 : decode prog_1_method_2_code 36 = .ok (.iadd, 1) := by decide +kernel
theorem dd_ra_role_37 : decode prog_1_method_2_code 37 = .ok (.putfield 44, 3) := by decide +kernel
theorem dd_ra_role_40 : decode prog_1_method_2_code 40 = .ok (.iload_n 1, 1) := by decide +kernel
theorem dd_ra_role_41 : decode prog_1_method_2_code 41 = .ok (.ireturn, 1) := by decide +kernel
theorem dd_lw_user_0 : decode method_4_code 0 = .ok (.aload_n 1, 1) := by decide +kernel
theorem dd_lw_user_1 : decode method_4_code 1 = .ok (.iconst 0, 1) := by decide +kernel
theorem dd_lw_user_2 : decode method_4_code 2 = .ok (.aload_n 0, 1) := by decide +kernel
theorem dd_lw_user_3 : decode method_4_code 3 = .ok (.invokevirtual 15, 3) := by decide +kernel
theorem dd_lw_user_6 : decode method_4_code 6 = .ok (.i2l, 1) := by decide +kernel
theorem dd_lw_user_7 : decode method_4_code 7 = .ok (.lastore, 1) := by decide +kernel
theorem dd_lw_user_8 : decode method_4_code 8 = .ok (.goto 6, 3) := by decide +kernel
theorem dd_lw_user_11 : decode method_4_code 11 = .ok (.astore_n 2, 1) := by decide +kernel
theorem dd_lw_user_12 : decode method_4_code 12 = .ok (.iconst 1, 1) := by decide +kernel
theorem dd_lw_user_13 : decode method_4_code 13 = .ok (.ireturn, 1) := by decide +kernel
theorem dd_lw_user_14 : decode method_4_code 14 = .ok (.iconst 0, 1) := by decide +kernel
theorem dd_lw_user_15 : decode method_4_code 15 = .ok (.ireturn, 1) := by decide +kernel
theorem dd_ra_user_0 : decode prog_1_method_3_code 0 = .ok (.aload_n 0, 1) := by decide +kernel
theorem dd_ra_user_1 : decode prog_1_method_3_code 1 = .ok (.getfield 55, 3) := by decide +kernel
theorem dd_ra_user_4 : decode prog_1_method_3_code 4 = .ok (.iconst 5, 1) := by decide +kernel
theorem dd_ra_user_5 : decode prog_1_method_3_code 5 = .ok (.if_icmp .lt 13, 3) := by decide +kernel
theorem dd_ra_user_8 : decode prog_1_method_3_code 8 = .ok (.new 48, 3) := by decide +kernel
theorem dd_ra_user_11 : decode prog_1_method_3_code 11 = .ok (.dup, 1) := by decide +kernel
theorem dd_ra_user_12 : decode prog_1_method_3_code 12 = .ok (.ldc 58, 2) := by decide +kernel
theorem dd_ra_user_14 : decode prog_1_method_3_code 14 = .ok (.invokespecial 52, 3) := by decide +kernel
theorem dd_ra_user_17 : decode prog_1_method_3_code 17 = .ok (.athrow, 1) := by decide +kernel
theorem dd_ra_user_18 : decode prog_1_method_3_code 18 = .ok (.aload_n 0, 1) := by decide +kernel
theorem dd_ra_user_19 : decode prog_1_method_3_code 19 = .ok (.getfield 55, 3) := by decide +kernel
theorem dd_ra_user_22 : decode prog_1_method_3_code 22 = .ok (.istore_n 1, 1) := by decide +kernel
theorem dd_ra_user_23 : decode prog_1_method_3_code 23 = .ok (.aload_n 0, 1) := by decide +kernel
theorem dd_ra_user_24 : decode prog_1_method_3_code 24 = .ok (.iload_n 1, 1) := by decide +kernel
theorem dd_ra_user_25 : decode prog_1_method_3_code 25 = .ok (.iconst 1, 1) := by decide +kernel
theorem dd_ra_user_26 : decode prog_1_method_3_code 26 = .ok (.iadd, 1) := by decide +kernel
theorem dd_ra_user_27 : decode prog_1_method_3_code 27 = .ok (.putfield 55, 3) := by decide +kernel
theorem dd_ra_user_30 : decode prog_1_method_3_code 30 = .ok (.iload_n 1, 1) := by decide +kernel
theorem dd_ra_user_31 : decode prog_1_method_3_code 31 = .ok (.ireturn, 1) := by decide +kernel
theorem dd_lw_above_0 : decode method_5_code 0 = .ok (.aload_n 3, 1) := by decide +kernel
theorem dd_lw_above_1 : decode method_5_code 1 = .ok (.iconst 0, 1) := by decide +kernel
theorem dd_lw_above_2 : decode method_5_code 2 = .ok (.aload_n 0, 1) := by decide +kernel
theorem dd_lw_above_3 : decode method_5_code 3 = .ok (.iload_n 1, 1) := by decide +kernel
theorem dd_lw_above_4 : decode method_5_code 4 = .ok (.iload_n 2, 1) := by decide +kernel
theorem dd_lw_above_5 : decode method_5_code 5 = .ok (.invokevirtual 18, 3) := by decide +kernel
theorem dd_lw_above_8 : decode method_5_code 8 = .ok (.ifCond .eq 7, 3) := by decide +kernel
theorem dd_lw_above_11 : decode method_5_code 11 = .ok (.lconst 1, 1) := by decide +kernel
theorem dd_lw_above_12 : decode method_5_code 12 = .ok (.goto 4, 3) := by decide +kernel
theorem dd_lw_above_15 : decode method_5_code 15 = .ok (.lconst 0, 1) := by decide +kernel
theorem dd_lw_above_16 : decode method_5_code 16 = .ok (.lastore, 1) := by decide +kernel
theorem dd_lw_above_17 : decode method_5_code 17 = .ok (.goto 15, 3) := by decide +kernel
theorem dd_lw_above_20 : decode method_5_code 20 = .ok (.astore 4, 2) := by decide +kernel
theorem dd_lw_above_22 : decode method_5_code 22 = .ok (.iconst 1, 1) := by decide +kernel
theorem dd_lw_above_23 : decode method_5_code 23 = .ok (.ireturn, 1) := by decide +kernel
theorem dd_lw_above_24 : decode method_5_code 24 = .ok (.astore 4, 2) := by decide +kernel
theorem dd_lw_above_26 : decode method_5_code 26 = .ok (.iconst 2, 1) := by decide +kernel
theorem dd_lw_above_27 : decode method_5_code 27 = .ok (.ireturn, 1) := by decide +kernel
theorem dd_lw_above_28 : decode method_5_code 28 = .ok (.astore 4, 2) := by decide +kernel
theorem dd_lw_above_30 : decode method_5_code 30 = .ok (.iconst 3, 1) := by decide +kernel
theorem dd_lw_above_31 : decode method_5_code 31 = .ok (.ireturn, 1) := by decide +kernel
theorem dd_lw_above_32 : decode method_5_code 32 = .ok (.iconst 0, 1) := by decide +kernel
theorem dd_lw_above_33 : decode method_5_code 33 = .ok (.ireturn, 1) := by decide +kernel
theorem dd_ra_above_0 : decode prog_1_method_4_code 0 = .ok (.aload_n 0, 1) := by decide +kernel
theorem dd_ra_above_1 : decode prog_1_method_4_code 1 = .ok (.iload_n 1, 1) := by decide +kernel
theorem dd_ra_above_2 : decode prog_1_method_4_code 2 = .ok (.invokevirtual 60, 3) := by decide +kernel
theorem dd_ra_above_5 : decode prog_1_method_4_code 5 = .ok (.aload_n 0, 1) := by decide +kernel
theorem dd_ra_above_6 : decode prog_1_method_4_code 6 = .ok (.iload_n 2, 1) := by decide +kernel
theorem dd_ra_above_7 : decode prog_1_method_4_code 7 = .ok (.invokevirtual 60, 3) := by decide +kernel
theorem dd_ra_above_10 : decode prog_1_method_4_code 10 = .ok (.iload_n 1, 1) := by decide +kernel
theorem dd_ra_above_11 : decode prog_1_method_4_code 11 = .ok (.iload_n 2, 1) := by decide +kernel
theorem dd_ra_above_12 : decode prog_1_method_4_code 12 = .ok (.if_icmp .eq 15, 3) := by decide +kernel
theorem dd_ra_above_15 : decode prog_1_method_4_code 15 = .ok (.aload_n 0, 1) := by decide +kernel
theorem dd_ra_above_16 : decode prog_1_method_4_code 16 = .ok (.getfield 12, 3) := by decide +kernel
theorem dd_ra_above_19 : decode prog_1_method_4_code 19 = .ok (.iload_n 2, 1) := by decide +kernel
theorem dd_ra_above_20 : decode prog_1_method_4_code 20 = .ok (.iload_n 1, 1) := by decide +kernel
theorem dd_ra_above_21 : decode prog_1_method_4_code 21 = .ok (.invokevirtual 64, 3) := by decide +kernel
theorem dd_ra_above_24 : decode prog_1_method_4_code 24 = .ok (.ifCond .eq 13, 3) := by decide +kernel
theorem dd_ra_above_27 : decode prog_1_method_4_code 27 = .ok (.new 68, 3) := by decide +kernel
theorem dd_ra_above_30 : decode prog_1_method_4_code 30 = .ok (.dup, 1) := by decide +kernel
theorem dd_ra_above_31 : decode prog_1_method_4_code 31 = .ok (.ldc 70, 2) := by decide +kernel
theorem dd_ra_above_33 : decode prog_1_method_4_code 33 = .ok (.invokespecial 72, 3) := by decide +kernel
theorem dd_ra_above_36 : decode prog_1_method_4_code 36 = .ok (.athrow, 1) := by decide +kernel
theorem dd_ra_above_37 : decode prog_1_method_4_code 37 = .ok (.aload_n 0, 1) := by decide +kernel
theorem dd_ra_above_38 : decode prog_1_method_4_code 38 = .ok (.getfield 12, 3) := by decide +kernel
theorem dd_ra_above_41 : decode prog_1_method_4_code 41 = .ok (.iload_n 1, 1) := by decide +kernel
theorem dd_ra_above_42 : decode prog_1_method_4_code 42 = .ok (.iload_n 2, 1) := by decide +kernel
theorem dd_ra_above_43 : decode prog_1_method_4_code 43 = .ok (.invokevirtual 64, 3) := by decide +kernel
theorem dd_ra_above_46 : decode prog_1_method_4_code 46 = .ok (.ifCond .eq 5, 3) := by decide +kernel
theorem dd_ra_above_49 : decode prog_1_method_4_code 49 = .ok (.iconst 0, 1) := by decide +kernel
theorem dd_ra_above_50 : decode prog_1_method_4_code 50 = .ok (.ireturn, 1) := by decide +kernel
theorem dd_ra_above_51 : decode prog_1_method_4_code 51 = .ok (.iconst 0, 1) := by decide +kernel
theorem dd_ra_above_52 : decode prog_1_method_4_code 52 = .ok (.istore_n 3, 1) := by decide +kernel
theorem dd_ra_above_53 : decode prog_1_method_4_code 53 = .ok (.iload_n 3, 1) := by decide +kernel
theorem dd_ra_above_54 : decode prog_1_method_4_code 54 = .ok (.aload_n 0, 1) := by decide +kernel
theorem dd_ra_above_55 : decode prog_1_method_4_code 55 = .ok (.getfield 55, 3) := by decide +kernel
theorem dd_ra_above_58 : decode prog_1_method_4_code 58 = .ok (.if_icmp .ge 27, 3) := by decide +kernel
theorem dd_ra_above_61 : decode prog_1_method_4_code 61 = .ok (.aload_n 0, 1) := by decide +kernel
theorem dd_ra_above_62 : decode prog_1_method_4_code 62 = .ok (.aload_n 0, 1) := by decide +kernel
theorem dd_ra_above_63 : decode prog_1_method_4_code 63 = .ok (.getfield 12, 3) := by decide +kernel
theorem dd_ra_above_66 : decode prog_1_method_4_code 66 = .ok (.aload_n 0, 1) := by decide +kernel
theorem dd_ra_above_67 : decode prog_1_method_4_code 67 = .ok (.iload_n 3, 1) := by decide +kernel
theorem dd_ra_above_68 : decode prog_1_method_4_code 68 = .ok (.invokevirtual 73, 3) := by decide +kernel
theorem dd_ra_above_71 : decode prog_1_method_4_code 71 = .ok (.iload_n 1, 1) := by decide +kernel
theorem dd_ra_above_72 : decode prog_1_method_4_code 72 = .ok (.iload_n 2, 1) := by decide +kernel
theorem dd_ra_above_73 : decode prog_1_method_4_code 73 = .ok (.invokevirtual 77, 3) := by decide +kernel
theorem dd_ra_above_76 : decode prog_1_method_4_code 76 = .ok (.invokevirtual 81, 3) := by decide +kernel
theorem dd_ra_above_79 : decode prog_1_method_4_code 79 = .ok (.iinc 3 1, 3) := by decide +kernel
theorem dd_ra_above_82 : decode prog_1_method_4_code 82 = .ok (.goto (-29), 3) := by decide +kernel
theorem dd_ra_above_85 : decode prog_1_method_4_code 85 = .ok (.aload_n 0, 1) := by decide +kernel
theorem dd_ra_above_86 : decode prog_1_method_4_code 86 = .ok (.getfield 12, 3) := by decide +kernel
theorem dd_ra_above_89 : decode prog_1_method_4_code 89 = .ok (.iload_n 1, 1) := by decide +kernel
theorem dd_ra_above_90 : decode prog_1_method_4_code 90 = .ok (.iload_n 2, 1) := by decide +kernel
theorem dd_ra_above_91 : decode prog_1_method_4_code 91 = .ok (.invokevirtual 84, 3) := by decide +kernel
theorem dd_ra_above_94 : decode prog_1_method_4_code 94 = .ok (.iconst 1, 1) := by decide +kernel
theorem dd_ra_above_95 : decode prog_1_method_4_code 95 = .ok (.ireturn, 1) := by decide +kernel
theorem dd_ra_checkRole_0 : decode prog_1_method_27_code 0 = .ok (.iload_n 1, 1) := by decide +kernel
theorem dd_ra_checkRole_1 : decode prog_1_method_27_code 1 = .ok (.ifCond .lt 14, 3) := by decide +kernel
theorem dd_ra_checkRole_4 : decode prog_1_method_27_code 4 = .ok (.iload_n 1, 1) := by decide +kernel
theorem dd_ra_checkRole_5 : decode prog_1_method_27_code 5 = .ok (.aload_n 0, 1) := by decide +kernel
theorem dd_ra_checkRole_6 : decode prog_1_method_27_code 6 = .ok (.getfield 12, 3) := by decide +kernel
theorem dd_ra_checkRole_9 : decode prog_1_method_27_code 9 = .ok (.getfield 44, 3) := by decide +kernel
theorem dd_ra_checkRole_12 : decode prog_1_method_27_code 12 = .ok (.if_icmp .lt 13, 3) := by decide +kernel
theorem dd_ra_checkRole_15 : decode prog_1_method_27_code 15 = .ok (.new 195, 3) := by decide +kernel
theorem dd_ra_checkRole_18 : decode prog_1_method_27_code 18 = .ok (.dup, 1) := by decide +kernel
theorem dd_ra_checkRole_19 : decode prog_1_method_27_code 19 = .ok (.ldc 197, 2) := by decide +kernel
theorem dd_ra_checkRole_21 : decode prog_1_method_27_code 21 = .ok (.invokespecial 199, 3) := by decide +kernel
theorem dd_ra_checkRole_24 : decode prog_1_method_27_code 24 = .ok (.athrow, 1) := by decide +kernel
theorem dd_ra_checkRole_25 : decode prog_1_method_27_code 25 = .ok (.return_, 1) := by decide +kernel
theorem dd_po_standsAbove_0 : decode prog_3_method_2_code 0 = .ok (.iload_n 1, 1) := by decide +kernel
theorem dd_po_standsAbove_1 : decode prog_3_method_2_code 1 = .ok (.iload_n 2, 1) := by decide +kernel
theorem dd_po_standsAbove_2 : decode prog_3_method_2_code 2 = .ok (.if_icmp .eq 22, 3) := by decide +kernel
theorem dd_po_standsAbove_5 : decode prog_3_method_2_code 5 = .ok (.aload_n 0, 1) := by decide +kernel
theorem dd_po_standsAbove_6 : decode prog_3_method_2_code 6 = .ok (.getfield 9, 3) := by decide +kernel
theorem dd_po_standsAbove_9 : decode prog_3_method_2_code 9 = .ok (.iconst 1, 1) := by decide +kernel
theorem dd_po_standsAbove_10 : decode prog_3_method_2_code 10 = .ok (.iload_n 1, 1) := by decide +kernel
theorem dd_po_standsAbove_11 : decode prog_3_method_2_code 11 = .ok (.ishl, 1) := by decide +kernel
theorem dd_po_standsAbove_12 : decode prog_3_method_2_code 12 = .ok (.iaload, 1) := by decide +kernel
theorem dd_po_standsAbove_13 : decode prog_3_method_2_code 13 = .ok (.iload_n 2, 1) := by decide +kernel
theorem dd_po_standsAbove_14 : decode prog_3_method_2_code 14 = .ok (.invokestatic 28, 3) := by decide +kernel
theorem dd_po_standsAbove_17 : decode prog_3_method_2_code 17 = .ok (.ifCond .eq 7, 3) := by decide +kernel
theorem dd_po_standsAbove_20 : decode prog_3_method_2_code 20 = .ok (.iconst 1, 1) := by decide +kernel
theorem dd_po_standsAbove_21 : decode prog_3_method_2_code 21 = .ok (.goto 4, 3) := by decide +kernel
theorem dd_po_standsAbove_24 : decode prog_3_method_2_code 24 = .ok (.iconst 0, 1) := by decide +kernel
theorem dd_po_standsAbove_25 : decode prog_3_method_2_code 25 = .ok (.ireturn, 1) := by decide +kernel
theorem dd_ra_has_0 : decode prog_1_method_36_code 0 = .ok (.iload_n 0, 1) := by decide +kernel
theorem dd_ra_has_1 : decode prog_1_method_36_code 1 = .ok (.iload_n 1, 1) := by decide +kernel
theorem dd_ra_has_2 : decode prog_1_method_36_code 2 = .ok (.ishr, 1) := by decide +kernel
theorem dd_ra_has_3 : decode prog_1_method_36_code 3 = .ok (.iconst 1, 1) := by decide +kernel
theorem dd_ra_has_4 : decode prog_1_method_36_code 4 = .ok (.iand, 1) := by decide +kernel
theorem dd_ra_has_5 : decode prog_1_method_36_code 5 = .ok (.iconst 1, 1) := by decide +kernel
theorem dd_ra_has_6 : decode prog_1_method_36_code 6 = .ok (.if_icmp .ne 7, 3) := by decide +kernel
theorem dd_ra_has_9 : decode prog_1_method_36_code 9 = .ok (.iconst 1, 1) := by decide +kernel
theorem dd_ra_has_10 : decode prog_1_method_36_code 10 = .ok (.goto 4, 3) := by decide +kernel
theorem dd_ra_has_13 : decode prog_1_method_36_code 13 = .ok (.iconst 0, 1) := by decide +kernel
theorem dd_ra_has_14 : decode prog_1_method_36_code 14 = .ok (.ireturn, 1) := by decide +kernel
theorem dd_ra_authorizedRoles_0 : decode prog_1_method_22_code 0 = .ok (.aload_n 0, 1) := by decide +kernel
theorem dd_ra_authorizedRoles_1 : decode prog_1_method_22_code 1 = .ok (.getfield 12, 3) := by decide +kernel
theorem dd_ra_authorizedRoles_4 : decode prog_1_method_22_code 4 = .ok (.getfield 172, 3) := by decide +kernel
theorem dd_ra_authorizedRoles_7 : decode prog_1_method_22_code 7 = .ok (.aload_n 0, 1) := by decide +kernel
theorem dd_ra_authorizedRoles_8 : decode prog_1_method_22_code 8 = .ok (.getfield 25, 3) := by decide +kernel
theorem dd_ra_authorizedRoles_11 : decode prog_1_method_22_code 11 = .ok (.iload_n 1, 1) := by decide +kernel
theorem dd_ra_authorizedRoles_12 : decode prog_1_method_22_code 12 = .ok (.iaload, 1) := by decide +kernel
theorem dd_ra_authorizedRoles_13 : decode prog_1_method_22_code 13 = .ok (.iaload, 1) := by decide +kernel
theorem dd_ra_authorizedRoles_14 : decode prog_1_method_22_code 14 = .ok (.ireturn, 1) := by decide +kernel
theorem dd_po_widened_0 : decode prog_3_method_3_code 0 = .ok (.iload_n 1, 1) := by decide +kernel
theorem dd_po_widened_1 : decode prog_3_method_3_code 1 = .ok (.iload_n 2, 1) := by decide +kernel
theorem dd_po_widened_2 : decode prog_3_method_3_code 2 = .ok (.invokestatic 28, 3) := by decide +kernel
theorem dd_po_widened_5 : decode prog_3_method_3_code 5 = .ok (.ifCond .eq 16, 3) := by decide +kernel
theorem dd_po_widened_8 : decode prog_3_method_3_code 8 = .ok (.iload_n 1, 1) := by decide +kernel
theorem dd_po_widened_9 : decode prog_3_method_3_code 9 = .ok (.aload_n 0, 1) := by decide +kernel
theorem dd_po_widened_10 : decode prog_3_method_3_code 10 = .ok (.getfield 9, 3) := by decide +kernel
theorem dd_po_widened_13 : decode prog_3_method_3_code 13 = .ok (.iconst 1, 1) := by decide +kernel
theorem dd_po_widened_14 : decode prog_3_method_3_code 14 = .ok (.iload_n 3, 1) := by decide +kernel
theorem dd_po_widened_15 : decode prog_3_method_3_code 15 = .ok (.ishl, 1) := by decide +kernel
theorem dd_po_widened_16 : decode prog_3_method_3_code 16 = .ok (.iaload, 1) := by decide +kernel
theorem dd_po_widened_17 : decode prog_3_method_3_code 17 = .ok (.ior, 1) := by decide +kernel
theorem dd_po_widened_18 : decode prog_3_method_3_code 18 = .ok (.goto 4, 3) := by decide +kernel
theorem dd_po_widened_21 : decode prog_3_method_3_code 21 = .ok (.iload_n 1, 1) := by decide +kernel
theorem dd_po_widened_22 : decode prog_3_method_3_code 22 = .ok (.ireturn, 1) := by decide +kernel
theorem dd_ra_checkStaticLimits_0 : decode prog_1_method_32_code 0 = .ok (.aload_n 0, 1) := by decide +kernel
theorem dd_ra_checkStaticLimits_1 : decode prog_1_method_32_code 1 = .ok (.getfield 12, 3) := by decide +kernel
theorem dd_ra_checkStaticLimits_4 : decode prog_1_method_32_code 4 = .ok (.getfield 103, 3) := by decide +kernel
theorem dd_ra_checkStaticLimits_7 : decode prog_1_method_32_code 7 = .ok (.iload_n 1, 1) := by decide +kernel
theorem dd_ra_checkStaticLimits_8 : decode prog_1_method_32_code 8 = .ok (.invokestatic 166, 3) := by decide +kernel
theorem dd_ra_checkStaticLimits_11 : decode prog_1_method_32_code 11 = .ok (.ifCond .ne 13, 3) := by decide +kernel
theorem dd_ra_checkStaticLimits_14 : decode prog_1_method_32_code 14 = .ok (.new 48, 3) := by decide +kernel
theorem dd_ra_checkStaticLimits_17 : decode prog_1_method_32_code 17 = .ok (.dup, 1) := by decide +kernel
theorem dd_ra_checkStaticLimits_18 : decode prog_1_method_32_code 18 = .ok (.ldc 211, 2) := by decide +kernel
theorem dd_ra_checkStaticLimits_20 : decode prog_1_method_32_code 20 = .ok (.invokespecial 52, 3) := by decide +kernel
theorem dd_ra_checkStaticLimits_23 : decode prog_1_method_32_code 23 = .ok (.athrow, 1) := by decide +kernel
theorem dd_ra_checkStaticLimits_24 : decode prog_1_method_32_code 24 = .ok (.return_, 1) := by decide +kernel
theorem dd_ra_areKept_0 : decode prog_1_method_37_code 0 = .ok (.iconst 0, 1) := by decide +kernel
theorem dd_ra_areKept_1 : decode prog_1_method_37_code 1 = .ok (.istore_n 2, 1) := by decide +kernel
theorem dd_ra_areKept_2 : decode prog_1_method_37_code 2 = .ok (.iload_n 2, 1) := by decide +kernel
theorem dd_ra_areKept_3 : decode prog_1_method_37_code 3 = .ok (.aload_n 0, 1) := by decide +kernel
theorem dd_ra_areKept_4 : decode prog_1_method_37_code 4 = .ok (.invokevirtual 106, 3) := by decide +kernel
theorem dd_ra_areKept_7 : decode prog_1_method_37_code 7 = .ok (.if_icmp .ge 26, 3) := by decide +kernel
theorem dd_ra_areKept_10 : decode prog_1_method_37_code 10 = .ok (.aload_n 0, 1) := by decide +kernel
theorem dd_ra_areKept_11 : decode prog_1_method_37_code 11 = .ok (.iload_n 2, 1) := by decide +kernel
theorem dd_ra_areKept_12 : decode prog_1_method_37_code 12 = .ok (.invokevirtual 223, 3) := by decide +kernel
theorem dd_ra_areKept_15 : decode prog_1_method_37_code 15 = .ok (.checkcast 114, 3) := by decide +kernel
theorem dd_ra_areKept_18 : decode prog_1_method_37_code 18 = .ok (.iload_n 1, 1) := by decide +kernel
theorem dd_ra_areKept_19 : decode prog_1_method_37_code 19 = .ok (.invokevirtual 191, 3) := by decide +kernel
theorem dd_ra_areKept_22 : decode prog_1_method_37_code 22 = .ok (.ifCond .ne 5, 3) := by decide +kernel
theorem dd_ra_areKept_25 : decode prog_1_method_37_code 25 = .ok (.iconst 0, 1) := by decide +kernel
theorem dd_ra_areKept_26 : decode prog_1_method_37_code 26 = .ok (.ireturn, 1) := by decide +kernel
theorem dd_ra_areKept_27 : decode prog_1_method_37_code 27 = .ok (.iinc 2 1, 3) := by decide +kernel
theorem dd_ra_areKept_30 : decode prog_1_method_37_code 30 = .ok (.goto (-28), 3) := by decide +kernel
theorem dd_ra_areKept_33 : decode prog_1_method_37_code 33 = .ok (.iconst 1, 1) := by decide +kernel
theorem dd_ra_areKept_34 : decode prog_1_method_37_code 34 = .ok (.ireturn, 1) := by decide +kernel
theorem dd_al_size_0 : decode prog_24_method_8_code 0 = .ok (.aload_n 0, 1) := by decide +kernel
theorem dd_al_size_1 : decode prog_24_method_8_code 1 = .ok (.getfield 48, 3) := by decide +kernel
theorem dd_al_size_4 : decode prog_24_method_8_code 4 = .ok (.ireturn, 1) := by decide +kernel
theorem dd_al_get_0 : decode prog_24_method_20_code 0 = .ok (.iload_n 1, 1) := by decide +kernel
theorem dd_al_get_1 : decode prog_24_method_20_code 1 = .ok (.aload_n 0, 1) := by decide +kernel
theorem dd_al_get_2 : decode prog_24_method_20_code 2 = .ok (.getfield 48, 3) := by decide +kernel
theorem dd_al_get_5 : decode prog_24_method_20_code 5 = .ok (.invokestatic 118, 3) := by decide +kernel
theorem dd_al_get_8 : decode prog_24_method_20_code 8 = .ok (.pop, 1) := by decide +kernel
theorem dd_al_get_9 : decode prog_24_method_20_code 9 = .ok (.aload_n 0, 1) := by decide +kernel
theorem dd_al_get_10 : decode prog_24_method_20_code 10 = .ok (.iload_n 1, 1) := by decide +kernel
theorem dd_al_get_11 : decode prog_24_method_20_code 11 = .ok (.invokevirtual 123, 3) := by decide +kernel
theorem dd_al_get_14 : decode prog_24_method_20_code 14 = .ok (.areturn, 1) := by decide +kernel
theorem dd_ot_checkIndex_0 : decode prog_28_method_17_code 0 = .ok (.iload_n 0, 1) := by decide +kernel
theorem dd_ot_checkIndex_1 : decode prog_28_method_17_code 1 = .ok (.iload_n 1, 1) := by decide +kernel
theorem dd_ot_checkIndex_2 : decode prog_28_method_17_code 2 = .ok (.aconst_null, 1) := by decide +kernel
theorem dd_ot_checkIndex_3 : decode prog_28_method_17_code 3 = .ok (.invokestatic 105, 3) := by decide +kernel
theorem dd_ot_checkIndex_6 : decode prog_28_method_17_code 6 = .ok (.ireturn, 1) := by decide +kernel
theorem dd_pc_checkIndex_0 : decode prog_32_method_11_code 0 = .ok (.iload_n 0, 1) := by decide +kernel
theorem dd_pc_checkIndex_1 : decode prog_32_method_11_code 1 = .ok (.ifCond .lt 8, 3) := by decide +kernel
theorem dd_pc_checkIndex_4 : decode prog_32_method_11_code 4 = .ok (.iload_n 0, 1) := by decide +kernel
theorem dd_pc_checkIndex_5 : decode prog_32_method_11_code 5 = .ok (.iload_n 1, 1) := by decide +kernel
theorem dd_pc_checkIndex_6 : decode prog_32_method_11_code 6 = .ok (.if_icmp .lt 10, 3) := by decide +kernel
theorem dd_pc_checkIndex_9 : decode prog_32_method_11_code 9 = .ok (.aload_n 2, 1) := by decide +kernel
theorem dd_pc_checkIndex_10 : decode prog_32_method_11_code 10 = .ok (.iload_n 0, 1) := by decide +kernel
theorem dd_pc_checkIndex_11 : decode prog_32_method_11_code 11 = .ok (.iload_n 1, 1) := by decide +kernel
theorem dd_pc_checkIndex_12 : decode prog_32_method_11_code 12 = .ok (.invokestatic 95, 3) := by decide +kernel
theorem dd_pc_checkIndex_15 : decode prog_32_method_11_code 15 = .ok (.athrow, 1) := by decide +kernel
theorem dd_pc_checkIndex_16 : decode prog_32_method_11_code 16 = .ok (.iload_n 0, 1) := by decide +kernel
theorem dd_pc_checkIndex_17 : decode prog_32_method_11_code 17 = .ok (.ireturn, 1) := by decide +kernel
theorem dd_al_elementData_0 : decode prog_24_method_18_code 0 = .ok (.aload_n 0, 1) := by decide +kernel
theorem dd_al_elementData_1 : decode prog_24_method_18_code 1 = .ok (.getfield 9, 3) := by decide +kernel
theorem dd_al_elementData_4 : decode prog_24_method_18_code 4 = .ok (.iload_n 1, 1) := by decide +kernel
theorem dd_al_elementData_5 : decode prog_24_method_18_code 5 = .ok (.aaload, 1) := by decide +kernel
theorem dd_al_elementData_6 : decode prog_24_method_18_code 6 = .ok (.areturn, 1) := by decide +kernel
theorem dd_li_isKept_0 : decode prog_2_method_2_code 0 = .ok (.iload_n 1, 1) := by decide +kernel
theorem dd_li_isKept_1 : decode prog_2_method_2_code 1 = .ok (.aload_n 0, 1) := by decide +kernel
theorem dd_li_isKept_2 : decode prog_2_method_2_code 2 = .ok (.getfield 7, 3) := by decide +kernel
theorem dd_li_isKept_5 : decode prog_2_method_2_code 5 = .ok (.iand, 1) := by decide +kernel
theorem dd_li_isKept_6 : decode prog_2_method_2_code 6 = .ok (.invokestatic 16, 3) := by decide +kernel
theorem dd_li_isKept_9 : decode prog_2_method_2_code 9 = .ok (.aload_n 0, 1) := by decide +kernel
theorem dd_li_isKept_10 : decode prog_2_method_2_code 10 = .ok (.getfield 13, 3) := by decide +kernel
theorem dd_li_isKept_13 : decode prog_2_method_2_code 13 = .ok (.if_icmp .ge 7, 3) := by decide +kernel
theorem dd_li_isKept_16 : decode prog_2_method_2_code 16 = .ok (.iconst 1, 1) := by decide +kernel
theorem dd_li_isKept_17 : decode prog_2_method_2_code 17 = .ok (.goto 4, 3) := by decide +kernel
theorem dd_li_isKept_20 : decode prog_2_method_2_code 20 = .ok (.iconst 0, 1) := by decide +kernel
theorem dd_li_isKept_21 : decode prog_2_method_2_code 21 = .ok (.ireturn, 1) := by decide +kernel
theorem dd_ig_bitCount_0 : decode prog_14_method_49_code 0 = .ok (.iload_n 0, 1) := by decide +kernel
theorem dd_ig_bitCount_1 : decode prog_14_method_49_code 1 = .ok (.iload_n 0, 1) := by decide +kernel
theorem dd_ig_bitCount_2 : decode prog_14_method_49_code 2 = .ok (.iconst 1, 1) := by decide +kernel
theorem dd_ig_bitCount_3 : decode prog_14_method_49_code 3 = .ok (.iushr, 1) := by decide +kernel
theorem dd_ig_bitCount_4 : decode prog_14_method_49_code 4 = .ok (.ldc_w 265, 3) := by decide +kernel
theorem dd_ig_bitCount_7 : decode prog_14_method_49_code 7 = .ok (.iand, 1) := by decide +kernel
theorem dd_ig_bitCount_8 : decode prog_14_method_49_code 8 = .ok (.isub, 1) := by decide +kernel
theorem dd_ig_bitCount_9 : decode prog_14_method_49_code 9 = .ok (.istore_n 0, 1) := by decide +kernel
theorem dd_ig_bitCount_10 : decode prog_14_method_49_code 10 = .ok (.iload_n 0, 1) := by decide +kernel
theorem dd_ig_bitCount_11 : decode prog_14_method_49_code 11 = .ok (.ldc_w 266, 3) := by decide +kernel
theorem dd_ig_bitCount_14 : decode prog_14_method_49_code 14 = .ok (.iand, 1) := by decide +kernel
theorem dd_ig_bitCount_15 : decode prog_14_method_49_code 15 = .ok (.iload_n 0, 1) := by decide +kernel
theorem dd_ig_bitCount_16 : decode prog_14_method_49_code 16 = .ok (.iconst 2, 1) := by decide +kernel
theorem dd_ig_bitCount_17 : decode prog_14_method_49_code 17 = .ok (.iushr, 1) := by decide +kernel
theorem dd_ig_bitCount_18 : decode prog_14_method_49_code 18 = .ok (.ldc_w 266, 3) := by decide +kernel
theorem dd_ig_bitCount_21 : decode prog_14_method_49_code 21 = .ok (.iand, 1) := by decide +kernel
theorem dd_ig_bitCount_22 : decode prog_14_method_49_code 22 = .ok (.iadd, 1) := by decide +kernel
theorem dd_ig_bitCount_23 : decode prog_14_method_49_code 23 = .ok (.istore_n 0, 1) := by decide +kernel
theorem dd_ig_bitCount_24 : decode prog_14_method_49_code 24 = .ok (.iload_n 0, 1) := by decide +kernel
theorem dd_ig_bitCount_25 : decode prog_14_method_49_code 25 = .ok (.iload_n 0, 1) := by decide +kernel
theorem dd_ig_bitCount_26 : decode prog_14_method_49_code 26 = .ok (.iconst 4, 1) := by decide +kernel
theorem dd_ig_bitCount_27 : decode prog_14_method_49_code 27 = .ok (.iushr, 1) := by decide +kernel
theorem dd_ig_bitCount_28 : decode prog_14_method_49_code 28 = .ok (.iadd, 1) := by decide +kernel
theorem dd_ig_bitCount_29 : decode prog_14_method_49_code 29 = .ok (.ldc_w 267, 3) := by decide +kernel
theorem dd_ig_bitCount_32 : decode prog_14_method_49_code 32 = .ok (.iand, 1) := by decide +kernel
theorem dd_ig_bitCount_33 : decode prog_14_method_49_code 33 = .ok (.istore_n 0, 1) := by decide +kernel
theorem dd_ig_bitCount_34 : decode prog_14_method_49_code 34 = .ok (.iload_n 0, 1) := by decide +kernel
theorem dd_ig_bitCount_35 : decode prog_14_method_49_code 35 = .ok (.iload_n 0, 1) := by decide +kernel
theorem dd_ig_bitCount_36 : decode prog_14_method_49_code 36 = .ok (.bipush 8, 2) := by decide +kernel
theorem dd_ig_bitCount_38 : decode prog_14_method_49_code 38 = .ok (.iushr, 1) := by decide +kernel
theorem dd_ig_bitCount_39 : decode prog_14_method_49_code 39 = .ok (.iadd, 1) := by decide +kernel
theorem dd_ig_bitCount_40 : decode prog_14_method_49_code 40 = .ok (.istore_n 0, 1) := by decide +kernel
theorem dd_ig_bitCount_41 : decode prog_14_method_49_code 41 = .ok (.iload_n 0, 1) := by decide +kernel
theorem dd_ig_bitCount_42 : decode prog_14_method_49_code 42 = .ok (.iload_n 0, 1) := by decide +kernel
theorem dd_ig_bitCount_43 : decode prog_14_method_49_code 43 = .ok (.bipush 16, 2) := by decide +kernel
theorem dd_ig_bitCount_45 : decode prog_14_method_49_code 45 = .ok (.iushr, 1) := by decide +kernel
theorem dd_ig_bitCount_46 : decode prog_14_method_49_code 46 = .ok (.iadd, 1) := by decide +kernel
theorem dd_ig_bitCount_47 : decode prog_14_method_49_code 47 = .ok (.istore_n 0, 1) := by decide +kernel
theorem dd_ig_bitCount_48 : decode prog_14_method_49_code 48 = .ok (.iload_n 0, 1) := by decide +kernel
theorem dd_ig_bitCount_49 : decode prog_14_method_49_code 49 = .ok (.bipush 63, 2) := by decide +kernel
theorem dd_ig_bitCount_51 : decode prog_14_method_49_code 51 = .ok (.iand, 1) := by decide +kernel
theorem dd_ig_bitCount_52 : decode prog_14_method_49_code 52 = .ok (.ireturn, 1) := by decide +kernel
end
section
/-! decode rows: printed by wip/whole/facts.py -/
theorem dd_po_putAbove_0 : decode prog_3_method_4_code 0 = .ok (.iconst 0, 1) := by decide +kernel
theorem dd_po_putAbove_1 : decode prog_3_method_4_code 1 = .ok (.istore_n 3, 1) := by decide +kernel
theorem dd_po_putAbove_2 : decode prog_3_method_4_code 2 = .ok (.iload_n 3, 1) := by decide +kernel
theorem dd_po_putAbove_3 : decode prog_3_method_4_code 3 = .ok (.bipush 64, 2) := by decide +kernel
theorem dd_po_putAbove_5 : decode prog_3_method_4_code 5 = .ok (.if_icmp .ge 27, 3) := by decide +kernel
theorem dd_po_putAbove_8 : decode prog_3_method_4_code 8 = .ok (.aload_n 0, 1) := by decide +kernel
theorem dd_po_putAbove_9 : decode prog_3_method_4_code 9 = .ok (.getfield 9, 3) := by decide +kernel
theorem dd_po_putAbove_12 : decode prog_3_method_4_code 12 = .ok (.iload_n 3, 1) := by decide +kernel
theorem dd_po_putAbove_13 : decode prog_3_method_4_code 13 = .ok (.aload_n 0, 1) := by decide +kernel
theorem dd_po_putAbove_14 : decode prog_3_method_4_code 14 = .ok (.aload_n 0, 1) := by decide +kernel
theorem dd_po_putAbove_15 : decode prog_3_method_4_code 15 = .ok (.getfield 9, 3) := by decide +kernel
theorem dd_po_putAbove_18 : decode prog_3_method_4_code 18 = .ok (.iload_n 3, 1) := by decide +kernel
theorem dd_po_putAbove_19 : decode prog_3_method_4_code 19 = .ok (.iaload, 1) := by decide +kernel
theorem dd_po_putAbove_20 : decode prog_3_method_4_code 20 = .ok (.iload_n 1, 1) := by decide +kernel
theorem dd_po_putAbove_21 : decode prog_3_method_4_code 21 = .ok (.iload_n 2, 1) := by decide +kernel
theorem dd_po_putAbove_22 : decode prog_3_method_4_code 22 = .ok (.invokevirtual 32, 3) := by decide +kernel
theorem dd_po_putAbove_25 : decode prog_3_method_4_code 25 = .ok (.iastore, 1) := by decide +kernel
theorem dd_po_putAbove_26 : decode prog_3_method_4_code 26 = .ok (.iinc 3 1, 3) := by decide +kernel
theorem dd_po_putAbove_29 : decode prog_3_method_4_code 29 = .ok (.goto (-27), 3) := by decide +kernel
theorem dd_po_putAbove_32 : decode prog_3_method_4_code 32 = .ok (.return_, 1) := by decide +kernel
theorem dd_lw_grant_0 : decode method_6_code 0 = .ok (.aload_n 3, 1) := by decide +kernel
theorem dd_lw_grant_1 : decode method_6_code 1 = .ok (.iconst 0, 1) := by decide +kernel
theorem dd_lw_grant_2 : decode method_6_code 2 = .ok (.aload_n 0, 1) := by decide +kernel
theorem dd_lw_grant_3 : decode method_6_code 3 = .ok (.iload_n 1, 1) := by decide +kernel
theorem dd_lw_grant_4 : decode method_6_code 4 = .ok (.iload_n 2, 1) := by decide +kernel
theorem dd_lw_grant_5 : decode method_6_code 5 = .ok (.invokevirtual 26, 3) := by decide +kernel
theorem dd_lw_grant_8 : decode method_6_code 8 = .ok (.ifCond .eq 7, 3) := by decide +kernel
theorem dd_lw_grant_11 : decode method_6_code 11 = .ok (.lconst 1, 1) := by decide +kernel
theorem dd_lw_grant_12 : decode method_6_code 12 = .ok (.goto 4, 3) := by decide +kernel
theorem dd_lw_grant_15 : decode method_6_code 15 = .ok (.lconst 0, 1) := by decide +kernel
theorem dd_lw_grant_16 : decode method_6_code 16 = .ok (.lastore, 1) := by decide +kernel
theorem dd_lw_grant_17 : decode method_6_code 17 = .ok (.goto 7, 3) := by decide +kernel
theorem dd_lw_grant_20 : decode method_6_code 20 = .ok (.astore 4, 2) := by decide +kernel
theorem dd_lw_grant_22 : decode method_6_code 22 = .ok (.iconst 1, 1) := by decide +kernel
theorem dd_lw_grant_23 : decode method_6_code 23 = .ok (.ireturn, 1) := by decide +kernel
theorem dd_lw_grant_24 : decode method_6_code 24 = .ok (.iconst 0, 1) := by decide +kernel
theorem dd_lw_grant_25 : decode method_6_code 25 = .ok (.ireturn, 1) := by decide +kernel
theorem dd_ra_grant_0 : decode prog_1_method_5_code 0 = .ok (.aload_n 0, 1) := by decide +kernel
theorem dd_ra_grant_1 : decode prog_1_method_5_code 1 = .ok (.iload_n 1, 1) := by decide +kernel
theorem dd_ra_grant_2 : decode prog_1_method_5_code 2 = .ok (.invokevirtual 60, 3) := by decide +kernel
theorem dd_ra_grant_5 : decode prog_1_method_5_code 5 = .ok (.iload_n 2, 1) := by decide +kernel
theorem dd_ra_grant_6 : decode prog_1_method_5_code 6 = .ok (.invokestatic 88, 3) := by decide +kernel
theorem dd_ra_grant_9 : decode prog_1_method_5_code 9 = .ok (.aload_n 0, 1) := by decide +kernel
theorem dd_ra_grant_10 : decode prog_1_method_5_code 10 = .ok (.getfield 29, 3) := by decide +kernel
theorem dd_ra_grant_13 : decode prog_1_method_5_code 13 = .ok (.iload_n 1, 1) := by decide +kernel
theorem dd_ra_grant_14 : decode prog_1_method_5_code 14 = .ok (.iaload, 1) := by decide +kernel
theorem dd_ra_grant_15 : decode prog_1_method_5_code 15 = .ok (.iload_n 2, 1) := by decide +kernel
theorem dd_ra_grant_16 : decode prog_1_method_5_code 16 = .ok (.invokestatic 91, 3) := by decide +kernel
theorem dd_ra_grant_19 : decode prog_1_method_5_code 19 = .ok (.ifCond .ne 7, 3) := by decide +kernel
theorem dd_ra_grant_22 : decode prog_1_method_5_code 22 = .ok (.iconst 1, 1) := by decide +kernel
theorem dd_ra_grant_23 : decode prog_1_method_5_code 23 = .ok (.goto 4, 3) := by decide +kernel
theorem dd_ra_grant_26 : decode prog_1_method_5_code 26 = .ok (.iconst 0, 1) := by decide +kernel
theorem dd_ra_grant_27 : decode prog_1_method_5_code 27 = .ok (.istore_n 3, 1) := by decide +kernel
theorem dd_ra_grant_28 : decode prog_1_method_5_code 28 = .ok (.aload_n 0, 1) := by decide +kernel
theorem dd_ra_grant_29 : decode prog_1_method_5_code 29 = .ok (.getfield 29, 3) := by decide +kernel
theorem dd_ra_grant_32 : decode prog_1_method_5_code 32 = .ok (.iload_n 1, 1) := by decide +kernel
theorem dd_ra_grant_33 : decode prog_1_method_5_code 33 = .ok (.dup2, 1) := by decide +kernel
theorem dd_ra_grant_34 : decode prog_1_method_5_code 34 = .ok (.iaload, 1) := by decide +kernel
theorem dd_ra_grant_35 : decode prog_1_method_5_code 35 = .ok (.iconst 1, 1) := by decide +kernel
theorem dd_ra_grant_36 : decode prog_1_method_5_code 36 = .ok (.iload_n 2, 1) := by decide +kernel
theorem dd_ra_grant_37 : decode prog_1_method_5_code 37 = .ok (.ishl, 1) := by decide +kernel
theorem dd_ra_grant_38 : decode prog_1_method_5_code 38 = .ok (.ior, 1) := by decide +kernel
theorem dd_ra_grant_39 : decode prog_1_method_5_code 39 = .ok (.iastore, 1) := by decide +kernel
theorem dd_ra_grant_40 : decode prog_1_method_5_code 40 = .ok (.iload_n 3, 1) := by decide +kernel
theorem dd_ra_grant_41 : decode prog_1_method_5_code 41 = .ok (.ireturn, 1) := by decide +kernel
theorem dd_ra_checkPermission_0 : decode prog_1_method_34_code 0 = .ok (.iload_n 0, 1) := by decide +kernel
theorem dd_ra_checkPermission_1 : decode prog_1_method_34_code 1 = .ok (.ifCond .lt 9, 3) := by decide +kernel
theorem dd_ra_checkPermission_4 : decode prog_1_method_34_code 4 = .ok (.iload_n 0, 1) := by decide +kernel
theorem dd_ra_checkPermission_5 : decode prog_1_method_34_code 5 = .ok (.bipush 31, 2) := by decide +kernel
theorem dd_ra_checkPermission_7 : decode prog_1_method_34_code 7 = .ok (.if_icmp .lt 13, 3) := by decide +kernel
theorem dd_ra_checkPermission_10 : decode prog_1_method_34_code 10 = .ok (.new 195, 3) := by decide +kernel
theorem dd_ra_checkPermission_13 : decode prog_1_method_34_code 13 = .ok (.dup, 1) := by decide +kernel
theorem dd_ra_checkPermission_14 : decode prog_1_method_34_code 14 = .ok (.ldc 219, 2) := by decide +kernel
theorem dd_ra_checkPermission_16 : decode prog_1_method_34_code 16 = .ok (.invokespecial 199, 3) := by decide +kernel
theorem dd_ra_checkPermission_19 : decode prog_1_method_34_code 19 = .ok (.athrow, 1) := by decide +kernel
theorem dd_ra_checkPermission_20 : decode prog_1_method_34_code 20 = .ok (.return_, 1) := by decide +kernel
theorem dd_lw_limit_0 : decode method_7_code 0 = .ok (.aload_n 0, 1) := by decide +kernel
theorem dd_lw_limit_1 : decode method_7_code 1 = .ok (.iload_n 1, 1) := by decide +kernel
theorem dd_lw_limit_2 : decode method_7_code 2 = .ok (.iload_n 2, 1) := by decide +kernel
theorem dd_lw_limit_3 : decode method_7_code 3 = .ok (.iload_n 3, 1) := by decide +kernel
theorem dd_lw_limit_4 : decode method_7_code 4 = .ok (.invokevirtual 29, 3) := by decide +kernel
theorem dd_lw_limit_7 : decode method_7_code 7 = .ok (.goto 11, 3) := by decide +kernel
theorem dd_lw_limit_10 : decode method_7_code 10 = .ok (.astore 4, 2) := by decide +kernel
theorem dd_lw_limit_12 : decode method_7_code 12 = .ok (.iconst 1, 1) := by decide +kernel
theorem dd_lw_limit_13 : decode method_7_code 13 = .ok (.ireturn, 1) := by decide +kernel
theorem dd_lw_limit_14 : decode method_7_code 14 = .ok (.astore 4, 2) := by decide +kernel
theorem dd_lw_limit_16 : decode method_7_code 16 = .ok (.iconst 2, 1) := by decide +kernel
theorem dd_lw_limit_17 : decode method_7_code 17 = .ok (.ireturn, 1) := by decide +kernel
theorem dd_lw_limit_18 : decode method_7_code 18 = .ok (.iconst 0, 1) := by decide +kernel
theorem dd_lw_limit_19 : decode method_7_code 19 = .ok (.ireturn, 1) := by decide +kernel
theorem dd_ra_limit_0 : decode prog_1_method_6_code 0 = .ok (.iload_n 3, 1) := by decide +kernel
theorem dd_ra_limit_1 : decode prog_1_method_6_code 1 = .ok (.iconst 2, 1) := by decide +kernel
theorem dd_ra_limit_2 : decode prog_1_method_6_code 2 = .ok (.if_icmp .ge 13, 3) := by decide +kernel
theorem dd_ra_limit_5 : decode prog_1_method_6_code 5 = .ok (.new 68, 3) := by decide +kernel
theorem dd_ra_limit_8 : decode prog_1_method_6_code 8 = .ok (.dup, 1) := by decide +kernel
theorem dd_ra_limit_9 : decode prog_1_method_6_code 9 = .ok (.ldc 94, 2) := by decide +kernel
theorem dd_ra_limit_11 : decode prog_1_method_6_code 11 = .ok (.invokespecial 72, 3) := by decide +kernel
theorem dd_ra_limit_14 : decode prog_1_method_6_code 14 = .ok (.athrow, 1) := by decide +kernel
theorem dd_ra_limit_15 : decode prog_1_method_6_code 15 = .ok (.iload_n 2, 1) := by decide +kernel
theorem dd_ra_limit_16 : decode prog_1_method_6_code 16 = .ok (.invokestatic 96, 3) := by decide +kernel
theorem dd_ra_limit_19 : decode prog_1_method_6_code 19 = .ok (.iload_n 1, 1) := by decide +kernel
theorem dd_ra_limit_20 : decode prog_1_method_6_code 20 = .ok (.ifCond .eq 13, 3) := by decide +kernel
theorem dd_ra_limit_23 : decode prog_1_method_6_code 23 = .ok (.aload_n 0, 1) := by decide +kernel
theorem dd_ra_limit_24 : decode prog_1_method_6_code 24 = .ok (.getfield 12, 3) := by decide +kernel
theorem dd_ra_limit_27 : decode prog_1_method_6_code 27 = .ok (.getfield 99, 3) := by decide +kernel
theorem dd_ra_limit_30 : decode prog_1_method_6_code 30 = .ok (.goto 10, 3) := by decide +kernel
theorem dd_ra_limit_33 : decode prog_1_method_6_code 33 = .ok (.aload_n 0, 1) := by decide +kernel
theorem dd_ra_limit_34 : decode prog_1_method_6_code 34 = .ok (.getfield 12, 3) := by decide +kernel
theorem dd_ra_limit_37 : decode prog_1_method_6_code 37 = .ok (.getfield 103, 3) := by decide +kernel
theorem dd_ra_limit_40 : decode prog_1_method_6_code 40 = .ok (.astore 4, 2) := by decide +kernel
theorem dd_ra_limit_42 : decode prog_1_method_6_code 42 = .ok (.aload 4, 2) := by decide +kernel
theorem dd_ra_limit_44 : decode prog_1_method_6_code 44 = .ok (.invokevirtual 106, 3) := by decide +kernel
theorem dd_ra_limit_47 : decode prog_1_method_6_code 47 = .ok (.iconst 4, 1) := by decide +kernel
theorem dd_ra_limit_48 : decode prog_1_method_6_code 48 = .ok (.if_icmp .lt 13, 3) := by decide +kernel
theorem dd_ra_limit_51 : decode prog_1_method_6_code 51 = .ok (.new 48, 3) := by decide +kernel
theorem dd_ra_limit_54 : decode prog_1_method_6_code 54 = .ok (.dup, 1) := by decide +kernel
theorem dd_ra_limit_55 : decode prog_1_method_6_code 55 = .ok (.ldc 112, 2) := by decide +kernel
theorem dd_ra_limit_57 : decode prog_1_method_6_code 57 = .ok (.invokespecial 52, 3) := by decide +kernel
theorem dd_ra_limit_60 : decode prog_1_method_6_code 60 = .ok (.athrow, 1) := by decide +kernel
theorem dd_ra_limit_61 : decode prog_1_method_6_code 61 = .ok (.new 114, 3) := by decide +kernel
theorem dd_ra_limit_64 : decode prog_1_method_6_code 64 = .ok (.dup, 1) := by decide +kernel
theorem dd_ra_limit_65 : decode prog_1_method_6_code 65 = .ok (.iload_n 2, 1) := by decide +kernel
theorem dd_ra_limit_66 : decode prog_1_method_6_code 66 = .ok (.iload_n 3, 1) := by decide +kernel
theorem dd_ra_limit_67 : decode prog_1_method_6_code 67 = .ok (.invokespecial 116, 3) := by decide +kernel
theorem dd_ra_limit_70 : decode prog_1_method_6_code 70 = .ok (.astore 5, 2) := by decide +kernel
theorem dd_ra_limit_72 : decode prog_1_method_6_code 72 = .ok (.iload_n 1, 1) := by decide +kernel
theorem dd_ra_limit_73 : decode prog_1_method_6_code 73 = .ok (.ifCond .eq 15, 3) := by decide +kernel
theorem dd_ra_limit_76 : decode prog_1_method_6_code 76 = .ok (.aload_n 0, 1) := by decide +kernel
theorem dd_ra_limit_77 : decode prog_1_method_6_code 77 = .ok (.aload 5, 2) := by decide +kernel
theorem dd_ra_limit_79 : decode prog_1_method_6_code 79 = .ok (.invokevirtual 118, 3) := by decide +kernel
theorem dd_ra_limit_82 : decode prog_1_method_6_code 82 = .ok (.ifCond .eq 15, 3) := by decide +kernel
theorem dd_ra_limit_85 : decode prog_1_method_6_code 85 = .ok (.goto 22, 3) := by decide +kernel
theorem dd_ra_limit_88 : decode prog_1_method_6_code 88 = .ok (.aload_n 0, 1) := by decide +kernel
theorem dd_ra_limit_89 : decode prog_1_method_6_code 89 = .ok (.aload 5, 2) := by decide +kernel
theorem dd_ra_limit_91 : decode prog_1_method_6_code 91 = .ok (.invokevirtual 122, 3) := by decide +kernel
theorem dd_ra_limit_94 : decode prog_1_method_6_code 94 = .ok (.ifCond .ne 13, 3) := by decide +kernel
theorem dd_ra_limit_97 : decode prog_1_method_6_code 97 = .ok (.new 48, 3) := by decide +kernel
theorem dd_ra_limit_100 : decode prog_1_method_6_code 100 = .ok (.dup, 1) := by decide +kernel
theorem dd_ra_limit_101 : decode prog_1_method_6_code 101 = .ok (.ldc 125, 2) := by decide +kernel
theorem dd_ra_limit_103 : decode prog_1_method_6_code 103 = .ok (.invokespecial 52, 3) := by decide +kernel
theorem dd_ra_limit_106 : decode prog_1_method_6_code 106 = .ok (.athrow, 1) := by decide +kernel
theorem dd_ra_limit_107 : decode prog_1_method_6_code 107 = .ok (.aload 4, 2) := by decide +kernel
theorem dd_ra_limit_109 : decode prog_1_method_6_code 109 = .ok (.aload 5, 2) := by decide +kernel
theorem dd_ra_limit_111 : decode prog_1_method_6_code 111 = .ok (.invokevirtual 127, 3) := by decide +kernel
theorem dd_ra_limit_114 : decode prog_1_method_6_code 114 = .ok (.pop, 1) := by decide +kernel
theorem dd_ra_limit_115 : decode prog_1_method_6_code 115 = .ok (.return_, 1) := by decide +kernel
theorem dd_ra_checkRoleSet_0 : decode prog_1_method_35_code 0 = .ok (.iload_n 0, 1) := by decide +kernel
theorem dd_ra_checkRoleSet_1 : decode prog_1_method_35_code 1 = .ok (.ifCond .lt 9, 3) := by decide +kernel
theorem dd_ra_checkRoleSet_4 : decode prog_1_method_35_code 4 = .ok (.iload_n 0, 1) := by decide +kernel
theorem dd_ra_checkRoleSet_5 : decode prog_1_method_35_code 5 = .ok (.bipush 64, 2) := by decide +kernel
theorem dd_ra_checkRoleSet_7 : decode prog_1_method_35_code 7 = .ok (.if_icmp .lt 13, 3) := by decide +kernel
theorem dd_ra_checkRoleSet_10 : decode prog_1_method_35_code 10 = .ok (.new 68, 3) := by decide +kernel
theorem dd_ra_checkRoleSet_13 : decode prog_1_method_35_code 13 = .ok (.dup, 1) := by decide +kernel
theorem dd_ra_checkRoleSet_14 : decode prog_1_method_35_code 14 = .ok (.ldc 221, 2) := by decide +kernel
theorem dd_ra_checkRoleSet_16 : decode prog_1_method_35_code 16 = .ok (.invokespecial 72, 3) := by decide +kernel
theorem dd_ra_checkRoleSet_19 : decode prog_1_method_35_code 19 = .ok (.athrow, 1) := by decide +kernel
theorem dd_ra_checkRoleSet_20 : decode prog_1_method_35_code 20 = .ok (.return_, 1) := by decide +kernel
theorem dd_li_init_0 : decode prog_2_method_1_code 0 = .ok (.aload_n 0, 1) := by decide +kernel
theorem dd_li_init_1 : decode prog_2_method_1_code 1 = .ok (.invokespecial 1, 3) := by decide +kernel
theorem dd_li_init_4 : decode prog_2_method_1_code 4 = .ok (.aload_n 0, 1) := by decide +kernel
theorem dd_li_init_5 : decode prog_2_method_1_code 5 = .ok (.iload_n 1, 1) := by decide +kernel
theorem dd_li_init_6 : decode prog_2_method_1_code 6 = .ok (.putfield 7, 3) := by decide +kernel
theorem dd_li_init_9 : decode prog_2_method_1_code 9 = .ok (.aload_n 0, 1) := by decide +kernel
theorem dd_li_init_10 : decode prog_2_method_1_code 10 = .ok (.iload_n 2, 1) := by decide +kernel
theorem dd_li_init_11 : decode prog_2_method_1_code 11 = .ok (.putfield 13, 3) := by decide +kernel
theorem dd_li_init_14 : decode prog_2_method_1_code 14 = .ok (.return_, 1) := by decide +kernel
theorem dd_ra_isKeptBySessions_0 : decode prog_1_method_26_code 0 = .ok (.iconst 0, 1) := by decide +kernel
theorem dd_ra_isKeptBySessions_1 : decode prog_1_method_26_code 1 = .ok (.istore_n 2, 1) := by decide +kernel
theorem dd_ra_isKeptBySessions_2 : decode prog_1_method_26_code 2 = .ok (.iload_n 2, 1) := by decide +kernel
theorem dd_ra_isKeptBySessions_3 : decode prog_1_method_26_code 3 = .ok (.iconst 4, 1) := by decide +kernel
theorem dd_ra_isKeptBySessions_4 : decode prog_1_method_26_code 4 = .ok (.if_icmp .ge 24, 3) := by decide +kernel
theorem dd_ra_isKeptBySessions_7 : decode prog_1_method_26_code 7 = .ok (.aload_n 1, 1) := by decide +kernel
theorem dd_ra_isKeptBySessions_8 : decode prog_1_method_26_code 8 = .ok (.aload_n 0, 1) := by decide +kernel
theorem dd_ra_isKeptBySessions_9 : decode prog_1_method_26_code 9 = .ok (.getfield 35, 3) := by decide +kernel
theorem dd_ra_isKeptBySessions_12 : decode prog_1_method_26_code 12 = .ok (.iload_n 2, 1) := by decide +kernel
theorem dd_ra_isKeptBySessions_13 : decode prog_1_method_26_code 13 = .ok (.iaload, 1) := by decide +kernel
theorem dd_ra_isKeptBySessions_14 : decode prog_1_method_26_code 14 = .ok (.invokevirtual 191, 3) := by decide +kernel
theorem dd_ra_isKeptBySessions_17 : decode prog_1_method_26_code 17 = .ok (.ifCond .ne 5, 3) := by decide +kernel
theorem dd_ra_isKeptBySessions_20 : decode prog_1_method_26_code 20 = .ok (.iconst 0, 1) := by decide +kernel
theorem dd_ra_isKeptBySessions_21 : decode prog_1_method_26_code 21 = .ok (.ireturn, 1) := by decide +kernel
theorem dd_ra_isKeptBySessions_22 : decode prog_1_method_26_code 22 = .ok (.iinc 2 1, 3) := by decide +kernel
theorem dd_ra_isKeptBySessions_25 : decode prog_1_method_26_code 25 = .ok (.goto (-23), 3) := by decide +kernel
theorem dd_ra_isKeptBySessions_28 : decode prog_1_method_26_code 28 = .ok (.iconst 1, 1) := by decide +kernel
theorem dd_ra_isKeptBySessions_29 : decode prog_1_method_26_code 29 = .ok (.ireturn, 1) := by decide +kernel
theorem dd_ra_isKeptByUsers_0 : decode prog_1_method_25_code 0 = .ok (.iconst 0, 1) := by decide +kernel
theorem dd_ra_isKeptByUsers_1 : decode prog_1_method_25_code 1 = .ok (.istore_n 2, 1) := by decide +kernel
theorem dd_ra_isKeptByUsers_2 : decode prog_1_method_25_code 2 = .ok (.iload_n 2, 1) := by decide +kernel
theorem dd_ra_isKeptByUsers_3 : decode prog_1_method_25_code 3 = .ok (.aload_n 0, 1) := by decide +kernel
theorem dd_ra_isKeptByUsers_4 : decode prog_1_method_25_code 4 = .ok (.getfield 55, 3) := by decide +kernel
theorem dd_ra_isKeptByUsers_7 : decode prog_1_method_25_code 7 = .ok (.if_icmp .ge 23, 3) := by decide +kernel
theorem dd_ra_isKeptByUsers_10 : decode prog_1_method_25_code 10 = .ok (.aload_n 1, 1) := by decide +kernel
theorem dd_ra_isKeptByUsers_11 : decode prog_1_method_25_code 11 = .ok (.aload_n 0, 1) := by decide +kernel
theorem dd_ra_isKeptByUsers_12 : decode prog_1_method_25_code 12 = .ok (.iload_n 2, 1) := by decide +kernel
theorem dd_ra_isKeptByUsers_13 : decode prog_1_method_25_code 13 = .ok (.invokevirtual 73, 3) := by decide +kernel
theorem dd_ra_isKeptByUsers_16 : decode prog_1_method_25_code 16 = .ok (.invokevirtual 191, 3) := by decide +kernel
theorem dd_ra_isKeptByUsers_19 : decode prog_1_method_25_code 19 = .ok (.ifCond .ne 5, 3) := by decide +kernel
theorem dd_ra_isKeptByUsers_22 : decode prog_1_method_25_code 22 = .ok (.iconst 0, 1) := by decide +kernel
theorem dd_ra_isKeptByUsers_23 : decode prog_1_method_25_code 23 = .ok (.ireturn, 1) := by decide +kernel
theorem dd_ra_isKeptByUsers_24 : decode prog_1_method_25_code 24 = .ok (.iinc 2 1, 3) := by decide +kernel
theorem dd_ra_isKeptByUsers_27 : decode prog_1_method_25_code 27 = .ok (.goto (-25), 3) := by decide +kernel
theorem dd_ra_isKeptByUsers_30 : decode prog_1_method_25_code 30 = .ok (.iconst 1, 1) := by decide +kernel
theorem dd_ra_isKeptByUsers_31 : decode prog_1_method_25_code 31 = .ok (.ireturn, 1) := by decide +kernel
theorem dd_al_add1_0 : decode prog_24_method_25_code 0 = .ok (.aload_n 0, 1) := by decide +kernel
theorem dd_al_add1_1 : decode prog_24_method_25_code 1 = .ok (.dup, 1) := by decide +kernel
theorem dd_al_add1_2 : decode prog_24_method_25_code 2 = .ok (.getfield 63, 3) := by decide +kernel
theorem dd_al_add1_5 : decode prog_24_method_25_code 5 = .ok (.iconst 1, 1) := by decide +kernel
theorem dd_al_add1_6 : decode prog_24_method_25_code 6 = .ok (.iadd, 1) := by decide +kernel
theorem dd_al_add1_7 : decode prog_24_method_25_code 7 = .ok (.putfield 63, 3) := by decide +kernel
theorem dd_al_add1_10 : decode prog_24_method_25_code 10 = .ok (.aload_n 0, 1) := by decide +kernel
theorem dd_al_add1_11 : decode prog_24_method_25_code 11 = .ok (.aload_n 1, 1) := by decide +kernel
theorem dd_al_add1_12 : decode prog_24_method_25_code 12 = .ok (.aload_n 0, 1) := by decide +kernel
theorem dd_al_add1_13 : decode prog_24_method_25_code 13 = .ok (.getfield 9, 3) := by decide +kernel
theorem dd_al_add1_16 : decode prog_24_method_25_code 16 = .ok (.aload_n 0, 1) := by decide +kernel
theorem dd_al_add1_17 : decode prog_24_method_25_code 17 = .ok (.getfield 48, 3) := by decide +kernel
theorem dd_al_add1_20 : decode prog_24_method_25_code 20 = .ok (.invokevirtual 131, 3) := by decide +kernel
theorem dd_al_add1_23 : decode prog_24_method_25_code 23 = .ok (.iconst 1, 1) := by decide +kernel
theorem dd_al_add1_24 : decode prog_24_method_25_code 24 = .ok (.ireturn, 1) := by decide +kernel
theorem dd_al_add2_0 : decode prog_24_method_24_code 0 = .ok (.iload_n 3, 1) := by decide +kernel
theorem dd_al_add2_1 : decode prog_24_method_24_code 1 = .ok (.aload_n 2, 1) := by decide +kernel
theorem dd_al_add2_2 : decode prog_24_method_24_code 2 = .ok (.arraylength, 1) := by decide +kernel
theorem dd_al_add2_3 : decode prog_24_method_24_code 3 = .ok (.if_icmp .ne 8, 3) := by decide +kernel
theorem dd_al_add2_6 : decode prog_24_method_24_code 6 = .ok (.aload_n 0, 1) := by decide +kernel
theorem dd_al_add2_7 : decode prog_24_method_24_code 7 = .ok (.invokevirtual 129, 3) := by decide +kernel
theorem dd_al_add2_10 : decode prog_24_method_24_code 10 = .ok (.astore_n 2, 1) := by decide +kernel
theorem dd_al_add2_11 : decode prog_24_method_24_code 11 = .ok (.aload_n 2, 1) := by decide +kernel
theorem dd_al_add2_12 : decode prog_24_method_24_code 12 = .ok (.iload_n 3, 1) := by decide +kernel
theorem dd_al_add2_13 : decode prog_24_method_24_code 13 = .ok (.aload_n 1, 1) := by decide +kernel
theorem dd_al_add2_14 : decode prog_24_method_24_code 14 = .ok (.aastore, 1) := by decide +kernel
theorem dd_al_add2_15 : decode prog_24_method_24_code 15 = .ok (.aload_n 0, 1) := by decide +kernel
theorem dd_al_add2_16 : decode prog_24_method_24_code 16 = .ok (.iload_n 3, 1) := by decide +kernel
theorem dd_al_add2_17 : decode prog_24_method_24_code 17 = .ok (.iconst 1, 1) := by decide +kernel
theorem dd_al_add2_18 : decode prog_24_method_24_code 18 = .ok (.iadd, 1) := by decide +kernel
theorem dd_al_add2_19 : decode prog_24_method_24_code 19 = .ok (.putfield 48, 3) := by decide +kernel
theorem dd_al_add2_22 : decode prog_24_method_24_code 22 = .ok (.return_, 1) := by decide +kernel
theorem dd_al_grow1_0 : decode prog_24_method_7_code 0 = .ok (.aload_n 0, 1) := by decide +kernel
theorem dd_al_grow1_1 : decode prog_24_method_7_code 1 = .ok (.aload_n 0, 1) := by decide +kernel
theorem dd_al_grow1_2 : decode prog_24_method_7_code 2 = .ok (.getfield 48, 3) := by decide +kernel
theorem dd_al_grow1_5 : decode prog_24_method_7_code 5 = .ok (.iconst 1, 1) := by decide +kernel
theorem dd_al_grow1_6 : decode prog_24_method_7_code 6 = .ok (.iadd, 1) := by decide +kernel
theorem dd_al_grow1_7 : decode prog_24_method_7_code 7 = .ok (.invokevirtual 69, 3) := by decide +kernel
theorem dd_al_grow1_10 : decode prog_24_method_7_code 10 = .ok (.areturn, 1) := by decide +kernel
theorem dd_al_grow2_0 : decode prog_24_method_6_code 0 = .ok (.aload_n 0, 1) := by decide +kernel
theorem dd_al_grow2_1 : decode prog_24_method_6_code 1 = .ok (.getfield 9, 3) := by decide +kernel
theorem dd_al_grow2_4 : decode prog_24_method_6_code 4 = .ok (.arraylength, 1) := by decide +kernel
theorem dd_al_grow2_5 : decode prog_24_method_6_code 5 = .ok (.istore_n 2, 1) := by decide +kernel
theorem dd_al_grow2_6 : decode prog_24_method_6_code 6 = .ok (.iload_n 2, 1) := by decide +kernel
theorem dd_al_grow2_7 : decode prog_24_method_6_code 7 = .ok (.ifCond .gt 13, 3) := by decide +kernel
theorem dd_al_grow2_10 : decode prog_24_method_6_code 10 = .ok (.aload_n 0, 1) := by decide +kernel
theorem dd_al_grow2_11 : decode prog_24_method_6_code 11 = .ok (.getfield 9, 3) := by decide +kernel
theorem dd_al_grow2_14 : decode prog_24_method_6_code 14 = .ok (.getstatic 39, 3) := by decide +kernel
theorem dd_al_grow2_17 : decode prog_24_method_6_code 17 = .ok (.if_acmp .eq 28, 3) := by decide +kernel
theorem dd_al_grow2_20 : decode prog_24_method_6_code 20 = .ok (.iload_n 2, 1) := by decide +kernel
theorem dd_al_grow2_21 : decode prog_24_method_6_code 21 = .ok (.iload_n 1, 1) := by decide +kernel
theorem dd_al_grow2_22 : decode prog_24_method_6_code 22 = .ok (.iload_n 2, 1) := by decide +kernel
theorem dd_al_grow2_23 : decode prog_24_method_6_code 23 = .ok (.isub, 1) := by decide +kernel
theorem dd_al_grow2_24 : decode prog_24_method_6_code 24 = .ok (.iload_n 2, 1) := by decide +kernel
theorem dd_al_grow2_25 : decode prog_24_method_6_code 25 = .ok (.iconst 1, 1) := by decide +kernel
theorem dd_al_grow2_26 : decode prog_24_method_6_code 26 = .ok (.ishr, 1) := by decide +kernel
theorem dd_al_grow2_27 : decode prog_24_method_6_code 27 = .ok (.invokestatic 73, 3) := by decide +kernel
theorem dd_al_grow2_30 : decode prog_24_method_6_code 30 = .ok (.istore_n 3, 1) := by decide +kernel
theorem dd_al_grow2_31 : decode prog_24_method_6_code 31 = .ok (.aload_n 0, 1) := by decide +kernel
theorem dd_al_grow2_32 : decode prog_24_method_6_code 32 = .ok (.aload_n 0, 1) := by decide +kernel
theorem dd_al_grow2_33 : decode prog_24_method_6_code 33 = .ok (.getfield 9, 3) := by decide +kernel
theorem dd_al_grow2_36 : decode prog_24_method_6_code 36 = .ok (.iload_n 3, 1) := by decide +kernel
theorem dd_al_grow2_37 : decode prog_24_method_6_code 37 = .ok (.invokestatic 66, 3) := by decide +kernel
theorem dd_al_grow2_40 : decode prog_24_method_6_code 40 = .ok (.dup_x1, 1) := by decide +kernel
theorem dd_al_grow2_41 : decode prog_24_method_6_code 41 = .ok (.putfield 9, 3) := by decide +kernel
theorem dd_al_grow2_44 : decode prog_24_method_6_code 44 = .ok (.areturn, 1) := by decide +kernel
theorem dd_al_grow2_45 : decode prog_24_method_6_code 45 = .ok (.aload_n 0, 1) := by decide +kernel
theorem dd_al_grow2_46 : decode prog_24_method_6_code 46 = .ok (.bipush 10, 2) := by decide +kernel
theorem dd_al_grow2_48 : decode prog_24_method_6_code 48 = .ok (.iload_n 1, 1) := by decide +kernel
theorem dd_al_grow2_49 : decode prog_24_method_6_code 49 = .ok (.invokestatic 79, 3) := by decide +kernel
theorem dd_al_grow2_52 : decode prog_24_method_6_code 52 = .ok (.anewarray 7, 3) := by decide +kernel
theorem dd_al_grow2_55 : decode prog_24_method_6_code 55 = .ok (.dup_x1, 1) := by decide +kernel
theorem dd_al_grow2_56 : decode prog_24_method_6_code 56 = .ok (.putfield 9, 3) := by decide +kernel
theorem dd_al_grow2_59 : decode prog_24_method_6_code 59 = .ok (.areturn, 1) := by decide +kernel
theorem dd_su_newLength_0 : decode prog_31_method_27_code 0 = .ok (.iload_n 0, 1) := by decide +kernel
theorem dd_su_newLength_1 : decode prog_31_method_27_code 1 = .ok (.iload_n 1, 1) := by decide +kernel
theorem dd_su_newLength_2 : decode prog_31_method_27_code 2 = .ok (.iload_n 2, 1) := by decide +kernel
theorem dd_su_newLength_3 : decode prog_31_method_27_code 3 = .ok (.invokestatic 194, 3) := by decide +kernel
theorem dd_su_newLength_6 : decode prog_31_method_27_code 6 = .ok (.iadd, 1) := by decide +kernel
theorem dd_su_newLength_7 : decode prog_31_method_27_code 7 = .ok (.istore_n 3, 1) := by decide +kernel
theorem dd_su_newLength_8 : decode prog_31_method_27_code 8 = .ok (.iconst 0, 1) := by decide +kernel
theorem dd_su_newLength_9 : decode prog_31_method_27_code 9 = .ok (.iload_n 3, 1) := by decide +kernel
theorem dd_su_newLength_10 : decode prog_31_method_27_code 10 = .ok (.if_icmp .ge 11, 3) := by decide +kernel
theorem dd_su_newLength_13 : decode prog_31_method_27_code 13 = .ok (.iload_n 3, 1) := by decide +kernel
theorem dd_su_newLength_14 : decode prog_31_method_27_code 14 = .ok (.ldc 200, 2) := by decide +kernel
theorem dd_su_newLength_16 : decode prog_31_method_27_code 16 = .ok (.if_icmp .gt 5, 3) := by decide +kernel
theorem dd_su_newLength_19 : decode prog_31_method_27_code 19 = .ok (.iload_n 3, 1) := by decide +kernel
theorem dd_su_newLength_20 : decode prog_31_method_27_code 20 = .ok (.ireturn, 1) := by decide +kernel
theorem dd_su_newLength_21 : decode prog_31_method_27_code 21 = .ok (.iload_n 0, 1) := by decide +kernel
theorem dd_su_newLength_22 : decode prog_31_method_27_code 22 = .ok (.iload_n 1, 1) := by decide +kernel
theorem dd_su_newLength_23 : decode prog_31_method_27_code 23 = .ok (.invokestatic 201, 3) := by decide +kernel
theorem dd_su_newLength_26 : decode prog_31_method_27_code 26 = .ok (.ireturn, 1) := by decide +kernel
theorem dd_ma_max_0 : decode prog_16_method_65_code 0 = .ok (.iload_n 0, 1) := by decide +kernel
theorem dd_ma_max_1 : decode prog_16_method_65_code 1 = .ok (.iload_n 1, 1) := by decide +kernel
theorem dd_ma_max_2 : decode prog_16_method_65_code 2 = .ok (.if_icmp .lt 7, 3) := by decide +kernel
theorem dd_ma_max_5 : decode prog_16_method_65_code 5 = .ok (.iload_n 0, 1) := by decide +kernel
theorem dd_ma_max_6 : decode prog_16_method_65_code 6 = .ok (.goto 4, 3) := by decide +kernel
theorem dd_ma_max_9 : decode prog_16_method_65_code 9 = .ok (.iload_n 1, 1) := by decide +kernel
theorem dd_ma_max_10 : decode prog_16_method_65_code 10 = .ok (.ireturn, 1) := by decide +kernel
theorem dd_su_hugeLength_0 : decode prog_31_method_28_code 0 = .ok (.iload_n 0, 1) := by decide +kernel
theorem dd_su_hugeLength_1 : decode prog_31_method_28_code 1 = .ok (.iload_n 1, 1) := by decide +kernel
theorem dd_su_hugeLength_2 : decode prog_31_method_28_code 2 = .ok (.iadd, 1) := by decide +kernel
theorem dd_su_hugeLength_3 : decode prog_31_method_28_code 3 = .ok (.istore_n 2, 1) := by decide +kernel
theorem dd_su_hugeLength_4 : decode prog_31_method_28_code 4 = .ok (.iload_n 2, 1) := by decide +kernel
theorem dd_su_hugeLength_5 : decode prog_31_method_28_code 5 = .ok (.ifCond .ge 44, 3) := by decide +kernel
theorem dd_su_hugeLength_8 : decode prog_31_method_28_code 8 = .ok (.new 204, 3) := by decide +kernel
theorem dd_su_hugeLength_11 : decode prog_31_method_28_code 11 = .ok (.dup, 1) := by decide +kernel
theorem dd_su_hugeLength_12 : decode prog_31_method_28_code 12 = .ok (.new 89, 3) := by decide +kernel
theorem dd_su_hugeLength_15 : decode prog_31_method_28_code 15 = .ok (.dup, 1) := by decide +kernel
theorem dd_su_hugeLength_16 : decode prog_31_method_28_code 16 = .ok (.invokespecial 91, 3) := by decide +kernel
theorem dd_su_hugeLength_19 : decode prog_31_method_28_code 19 = .ok (.ldc 206, 2) := by decide +kernel
theorem dd_su_hugeLength_21 : decode prog_31_method_28_code 21 = .ok (.invokevirtual 94, 3) := by decide +kernel
theorem dd_su_hugeLength_24 : decode prog_31_method_28_code 24 = .ok (.iload_n 0, 1) := by decide +kernel
theorem dd_su_hugeLength_25 : decode prog_31_method_28_code 25 = .ok (.invokevirtual 98, 3) := by decide +kernel
theorem dd_su_hugeLength_28 : decode prog_31_method_28_code 28 = .ok (.ldc 208, 2) := by decide +kernel
theorem dd_su_hugeLength_30 : decode prog_31_method_28_code 30 = .ok (.invokevirtual 94, 3) := by decide +kernel
theorem dd_su_hugeLength_33 : decode prog_31_method_28_code 33 = .ok (.iload_n 1, 1) := by decide +kernel
theorem dd_su_hugeLength_34 : decode prog_31_method_28_code 34 = .ok (.invokevirtual 98, 3) := by decide +kernel
theorem dd_su_hugeLength_37 : decode prog_31_method_28_code 37 = .ok (.ldc 210, 2) := by decide +kernel
theorem dd_su_hugeLength_39 : decode prog_31_method_28_code 39 = .ok (.invokevirtual 94, 3) := by decide +kernel
theorem dd_su_hugeLength_42 : decode prog_31_method_28_code 42 = .ok (.invokevirtual 101, 3) := by decide +kernel
theorem dd_su_hugeLength_45 : decode prog_31_method_28_code 45 = .ok (.invokespecial 212, 3) := by decide +kernel
theorem dd_su_hugeLength_48 : decode prog_31_method_28_code 48 = .ok (.athrow, 1) := by decide +kernel
theorem dd_su_hugeLength_49 : decode prog_31_method_28_code 49 = .ok (.iload_n 2, 1) := by decide +kernel
theorem dd_su_hugeLength_50 : decode prog_31_method_28_code 50 = .ok (.ldc 200, 2) := by decide +kernel
theorem dd_su_hugeLength_52 : decode prog_31_method_28_code 52 = .ok (.if_icmp .gt 6, 3) := by decide +kernel
theorem dd_su_hugeLength_55 : decode prog_31_method_28_code 55 = .ok (.ldc 200, 2) := by decide +kernel
theorem dd_su_hugeLength_57 : decode prog_31_method_28_code 57 = .ok (.ireturn, 1) := by decide +kernel
theorem dd_su_hugeLength_58 : decode prog_31_method_28_code 58 = .ok (.iload_n 2, 1) := by decide +kernel
theorem dd_su_hugeLength_59 : decode prog_31_method_28_code 59 = .ok (.ireturn, 1) := by decide +kernel
theorem dd_ar_copyOf1_0 : decode prog_25_method_119_code 0 = .ok (.aload_n 0, 1) := by decide +kernel
theorem dd_ar_copyOf1_1 : decode prog_25_method_119_code 1 = .ok (.iload_n 1, 1) := by decide +kernel
theorem dd_ar_copyOf1_2 : decode prog_25_method_119_code 2 = .ok (.aload_n 0, 1) := by decide +kernel
theorem dd_ar_copyOf1_3 : decode prog_25_method_119_code 3 = .ok (.invokevirtual 86, 3) := by decide +kernel
theorem dd_ar_copyOf1_6 : decode prog_25_method_119_code 6 = .ok (.invokestatic 300, 3) := by decide +kernel
theorem dd_ar_copyOf1_9 : decode prog_25_method_119_code 9 = .ok (.areturn, 1) := by decide +kernel
theorem dd_ar_copyOf2_0 : decode prog_25_method_120_code 0 = .ok (.aload_n 2, 1) := by decide +kernel
theorem dd_ar_copyOf2_1 : decode prog_25_method_120_code 1 = .ok (.ldc 110, 2) := by decide +kernel
theorem dd_ar_copyOf2_3 : decode prog_25_method_120_code 3 = .ok (.if_acmp .ne 10, 3) := by decide +kernel
theorem dd_ar_copyOf2_6 : decode prog_25_method_120_code 6 = .ok (.iload_n 1, 1) := by decide +kernel
theorem dd_ar_copyOf2_7 : decode prog_25_method_120_code 7 = .ok (.anewarray 2, 3) := by decide +kernel
theorem dd_ar_copyOf2_10 : decode prog_25_method_120_code 10 = .ok (.goto 14, 3) := by decide +kernel
theorem dd_ar_copyOf2_13 : decode prog_25_method_120_code 13 = .ok (.aload_n 2, 1) := by decide +kernel
theorem dd_ar_copyOf2_14 : decode prog_25_method_120_code 14 = .ok (.invokevirtual 90, 3) := by decide +kernel
theorem dd_ar_copyOf2_17 : decode prog_25_method_120_code 17 = .ok (.iload_n 1, 1) := by decide +kernel
theorem dd_ar_copyOf2_18 : decode prog_25_method_120_code 18 = .ok (.invokestatic 95, 3) := by decide +kernel
theorem dd_ar_copyOf2_21 : decode prog_25_method_120_code 21 = .ok (.checkcast 110, 3) := by decide +kernel
theorem dd_ar_copyOf2_24 : decode prog_25_method_120_code 24 = .ok (.astore_n 3, 1) := by decide +kernel
theorem dd_ar_copyOf2_25 : decode prog_25_method_120_code 25 = .ok (.aload_n 0, 1) := by decide +kernel
theorem dd_ar_copyOf2_26 : decode prog_25_method_120_code 26 = .ok (.iconst 0, 1) := by decide +kernel
theorem dd_ar_copyOf2_27 : decode prog_25_method_120_code 27 = .ok (.aload_n 3, 1) := by decide +kernel
theorem dd_ar_copyOf2_28 : decode prog_25_method_120_code 28 = .ok (.iconst 0, 1) := by decide +kernel
theorem dd_ar_copyOf2_29 : decode prog_25_method_120_code 29 = .ok (.aload_n 0, 1) := by decide +kernel
theorem dd_ar_copyOf2_30 : decode prog_25_method_120_code 30 = .ok (.arraylength, 1) := by decide +kernel
theorem dd_ar_copyOf2_31 : decode prog_25_method_120_code 31 = .ok (.iload_n 1, 1) := by decide +kernel
theorem dd_ar_copyOf2_32 : decode prog_25_method_120_code 32 = .ok (.invokestatic 304, 3) := by decide +kernel
theorem dd_ar_copyOf2_35 : decode prog_25_method_120_code 35 = .ok (.invokestatic 150, 3) := by decide +kernel
theorem dd_ar_copyOf2_38 : decode prog_25_method_120_code 38 = .ok (.aload_n 3, 1) := by decide +kernel
theorem dd_ar_copyOf2_39 : decode prog_25_method_120_code 39 = .ok (.areturn, 1) := by decide +kernel
theorem dd_ma_min_0 : decode prog_16_method_69_code 0 = .ok (.iload_n 0, 1) := by decide +kernel
theorem dd_ma_min_1 : decode prog_16_method_69_code 1 = .ok (.iload_n 1, 1) := by decide +kernel
theorem dd_ma_min_2 : decode prog_16_method_69_code 2 = .ok (.if_icmp .gt 7, 3) := by decide +kernel
theorem dd_ma_min_5 : decode prog_16_method_69_code 5 = .ok (.iload_n 0, 1) := by decide +kernel
theorem dd_ma_min_6 : decode prog_16_method_69_code 6 = .ok (.goto 4, 3) := by decide +kernel
theorem dd_ma_min_9 : decode prog_16_method_69_code 9 = .ok (.iload_n 1, 1) := by decide +kernel
theorem dd_ma_min_10 : decode prog_16_method_69_code 10 = .ok (.ireturn, 1) := by decide +kernel
theorem dd_lw_giveRule_0 : decode method_8_code 0 = .ok (.aload 5, 2) := by decide +kernel
theorem dd_lw_giveRule_2 : decode method_8_code 2 = .ok (.iconst 0, 1) := by decide +kernel
theorem dd_lw_giveRule_3 : decode method_8_code 3 = .ok (.aload_n 0, 1) := by decide +kernel
theorem dd_lw_giveRule_4 : decode method_8_code 4 = .ok (.iload_n 1, 1) := by decide +kernel
theorem dd_lw_giveRule_5 : decode method_8_code 5 = .ok (.iload_n 2, 1) := by decide +kernel
theorem dd_lw_giveRule_6 : decode method_8_code 6 = .ok (.iload_n 3, 1) := by decide +kernel
theorem dd_lw_giveRule_7 : decode method_8_code 7 = .ok (.iload 4, 2) := by decide +kernel
theorem dd_lw_giveRule_9 : decode method_8_code 9 = .ok (.invokevirtual 33, 3) := by decide +kernel
theorem dd_lw_giveRule_12 : decode method_8_code 12 = .ok (.i2l, 1) := by decide +kernel
theorem dd_lw_giveRule_13 : decode method_8_code 13 = .ok (.lastore, 1) := by decide +kernel
theorem dd_lw_giveRule_14 : decode method_8_code 14 = .ok (.goto 15, 3) := by decide +kernel
theorem dd_lw_giveRule_17 : decode method_8_code 17 = .ok (.astore 6, 2) := by decide +kernel
theorem dd_lw_giveRule_19 : decode method_8_code 19 = .ok (.iconst 1, 1) := by decide +kernel
theorem dd_lw_giveRule_20 : decode method_8_code 20 = .ok (.ireturn, 1) := by decide +kernel
theorem dd_lw_giveRule_21 : decode method_8_code 21 = .ok (.astore 6, 2) := by decide +kernel
theorem dd_lw_giveRule_23 : decode method_8_code 23 = .ok (.iconst 2, 1) := by decide +kernel
theorem dd_lw_giveRule_24 : decode method_8_code 24 = .ok (.ireturn, 1) := by decide +kernel
theorem dd_lw_giveRule_25 : decode method_8_code 25 = .ok (.astore 6, 2) := by decide +kernel
theorem dd_lw_giveRule_27 : decode method_8_code 27 = .ok (.iconst 3, 1) := by decide +kernel
theorem dd_lw_giveRule_28 : decode method_8_code 28 = .ok (.ireturn, 1) := by decide +kernel
theorem dd_lw_giveRule_29 : decode method_8_code 29 = .ok (.iconst 0, 1) := by decide +kernel
theorem dd_lw_giveRule_30 : decode method_8_code 30 = .ok (.ireturn, 1) := by decide +kernel
theorem dd_ra_giveRule_0 : decode prog_1_method_7_code 0 = .ok (.aload_n 0, 1) := by decide +kernel
theorem dd_ra_giveRule_1 : decode prog_1_method_7_code 1 = .ok (.iload_n 1, 1) := by decide +kernel
theorem dd_ra_giveRule_2 : decode prog_1_method_7_code 2 = .ok (.invokevirtual 60, 3) := by decide +kernel
theorem dd_ra_giveRule_5 : decode prog_1_method_7_code 5 = .ok (.aload_n 0, 1) := by decide +kernel
theorem dd_ra_giveRule_6 : decode prog_1_method_7_code 6 = .ok (.iload 4, 2) := by decide +kernel
theorem dd_ra_giveRule_8 : decode prog_1_method_7_code 8 = .ok (.invokevirtual 60, 3) := by decide +kernel
theorem dd_ra_giveRule_11 : decode prog_1_method_7_code 11 = .ok (.iload_n 2, 1) := by decide +kernel
theorem dd_ra_giveRule_12 : decode prog_1_method_7_code 12 = .ok (.invokestatic 96, 3) := by decide +kernel
theorem dd_ra_giveRule_15 : decode prog_1_method_7_code 15 = .ok (.iload_n 3, 1) := by decide +kernel
theorem dd_ra_giveRule_16 : decode prog_1_method_7_code 16 = .ok (.invokestatic 96, 3) := by decide +kernel
theorem dd_ra_giveRule_19 : decode prog_1_method_7_code 19 = .ok (.aload_n 0, 1) := by decide +kernel
theorem dd_ra_giveRule_20 : decode prog_1_method_7_code 20 = .ok (.invokevirtual 131, 3) := by decide +kernel
theorem dd_ra_giveRule_23 : decode prog_1_method_7_code 23 = .ok (.aload_n 0, 1) := by decide +kernel
theorem dd_ra_giveRule_24 : decode prog_1_method_7_code 24 = .ok (.getfield 12, 3) := by decide +kernel
theorem dd_ra_giveRule_27 : decode prog_1_method_7_code 27 = .ok (.new 134, 3) := by decide +kernel
theorem dd_ra_giveRule_30 : decode prog_1_method_7_code 30 = .ok (.dup, 1) := by decide +kernel
theorem dd_ra_giveRule_31 : decode prog_1_method_7_code 31 = .ok (.iconst 1, 1) := by decide +kernel
theorem dd_ra_giveRule_32 : decode prog_1_method_7_code 32 = .ok (.iload_n 1, 1) := by decide +kernel
theorem dd_ra_giveRule_33 : decode prog_1_method_7_code 33 = .ok (.iload_n 2, 1) := by decide +kernel
theorem dd_ra_giveRule_34 : decode prog_1_method_7_code 34 = .ok (.iload_n 3, 1) := by decide +kernel
theorem dd_ra_giveRule_35 : decode prog_1_method_7_code 35 = .ok (.iload 4, 2) := by decide +kernel
theorem dd_ra_giveRule_37 : decode prog_1_method_7_code 37 = .ok (.invokespecial 136, 3) := by decide +kernel
theorem dd_ra_giveRule_40 : decode prog_1_method_7_code 40 = .ok (.invokevirtual 139, 3) := by decide +kernel
theorem dd_ra_giveRule_43 : decode prog_1_method_7_code 43 = .ok (.ireturn, 1) := by decide +kernel
theorem dd_ra_checkRoomForRule_0 : decode prog_1_method_31_code 0 = .ok (.aload_n 0, 1) := by decide +kernel
theorem dd_ra_checkRoomForRule_1 : decode prog_1_method_31_code 1 = .ok (.getfield 12, 3) := by decide +kernel
theorem dd_ra_checkRoomForRule_4 : decode prog_1_method_31_code 4 = .ok (.getfield 206, 3) := by decide +kernel
theorem dd_ra_checkRoomForRule_7 : decode prog_1_method_31_code 7 = .ok (.invokevirtual 106, 3) := by decide +kernel
theorem dd_ra_checkRoomForRule_10 : decode prog_1_method_31_code 10 = .ok (.bipush 8, 2) := by decide +kernel
theorem dd_ra_checkRoomForRule_12 : decode prog_1_method_31_code 12 = .ok (.if_icmp .lt 13, 3) := by decide +kernel
theorem dd_ra_checkRoomForRule_15 : decode prog_1_method_31_code 15 = .ok (.new 48, 3) := by decide +kernel
theorem dd_ra_checkRoomForRule_18 : decode prog_1_method_31_code 18 = .ok (.dup, 1) := by decide +kernel
theorem dd_ra_checkRoomForRule_19 : decode prog_1_method_31_code 19 = .ok (.ldc 209, 2) := by decide +kernel
theorem dd_ra_checkRoomForRule_21 : decode prog_1_method_31_code 21 = .ok (.invokespecial 52, 3) := by decide +kernel
theorem dd_ra_checkRoomForRule_24 : decode prog_1_method_31_code 24 = .ok (.athrow, 1) := by decide +kernel
theorem dd_ra_checkRoomForRule_25 : decode prog_1_method_31_code 25 = .ok (.return_, 1) := by decide +kernel
theorem dd_ru_init_0 : decode prog_4_method_1_code 0 = .ok (.aload_n 0, 1) := by decide +kernel
theorem dd_ru_init_1 : decode prog_4_method_1_code 1 = .ok (.invokespecial 1, 3) := by decide +kernel
theorem dd_ru_init_4 : decode prog_4_method_1_code 4 = .ok (.aload_n 0, 1) := by decide +kernel
theorem dd_ru_init_5 : decode prog_4_method_1_code 5 = .ok (.iload_n 1, 1) := by decide +kernel
theorem dd_ru_init_6 : decode prog_4_method_1_code 6 = .ok (.putfield 7, 3) := by decide +kernel
theorem dd_ru_init_9 : decode prog_4_method_1_code 9 = .ok (.aload_n 0, 1) := by decide +kernel
theorem dd_ru_init_10 : decode prog_4_method_1_code 10 = .ok (.iload_n 2, 1) := by decide +kernel
theorem dd_ru_init_11 : decode prog_4_method_1_code 11 = .ok (.putfield 13, 3) := by decide +kernel
theorem dd_ru_init_14 : decode prog_4_method_1_code 14 = .ok (.aload_n 0, 1) := by decide +kernel
theorem dd_ru_init_15 : decode prog_4_method_1_code 15 = .ok (.iload_n 3, 1) := by decide +kernel
theorem dd_ru_init_16 : decode prog_4_method_1_code 16 = .ok (.putfield 17, 3) := by decide +kernel
theorem dd_ru_init_19 : decode prog_4_method_1_code 19 = .ok (.aload_n 0, 1) := by decide +kernel
theorem dd_ru_init_20 : decode prog_4_method_1_code 20 = .ok (.iload 4, 2) := by decide +kernel
theorem dd_ru_init_22 : decode prog_4_method_1_code 22 = .ok (.putfield 20, 3) := by decide +kernel
theorem dd_ru_init_25 : decode prog_4_method_1_code 25 = .ok (.aload_n 0, 1) := by decide +kernel
theorem dd_ru_init_26 : decode prog_4_method_1_code 26 = .ok (.iload 5, 2) := by decide +kernel
theorem dd_ru_init_28 : decode prog_4_method_1_code 28 = .ok (.putfield 23, 3) := by decide +kernel
theorem dd_ru_init_31 : decode prog_4_method_1_code 31 = .ok (.return_, 1) := by decide +kernel
end
section
/-! decode rows: printed by wip/whole/facts.py -/
theorem dd_po_addRule_0 : decode prog_3_method_5_code 0 = .ok (.aload_n 0, 1) := by decide +kernel
theorem dd_po_addRule_1 : decode prog_3_method_5_code 1 = .ok (.getfield 25, 3) := by decide +kernel
theorem dd_po_addRule_4 : decode prog_3_method_5_code 4 = .ok (.aload_n 1, 1) := by decide +kernel
theorem dd_po_addRule_5 : decode prog_3_method_5_code 5 = .ok (.invokevirtual 36, 3) := by decide +kernel
theorem dd_po_addRule_8 : decode prog_3_method_5_code 8 = .ok (.pop, 1) := by decide +kernel
theorem dd_po_addRule_9 : decode prog_3_method_5_code 9 = .ok (.aload_n 0, 1) := by decide +kernel
theorem dd_po_addRule_10 : decode prog_3_method_5_code 10 = .ok (.getfield 25, 3) := by decide +kernel
theorem dd_po_addRule_13 : decode prog_3_method_5_code 13 = .ok (.invokevirtual 40, 3) := by decide +kernel
theorem dd_po_addRule_16 : decode prog_3_method_5_code 16 = .ok (.iconst 1, 1) := by decide +kernel
theorem dd_po_addRule_17 : decode prog_3_method_5_code 17 = .ok (.isub, 1) := by decide +kernel
theorem dd_po_addRule_18 : decode prog_3_method_5_code 18 = .ok (.ireturn, 1) := by decide +kernel
theorem dd_lw_takeRule_0 : decode method_9_code 0 = .ok (.aload_n 3, 1) := by decide +kernel
theorem dd_lw_takeRule_1 : decode method_9_code 1 = .ok (.iconst 0, 1) := by decide +kernel
theorem dd_lw_takeRule_2 : decode method_9_code 2 = .ok (.aload_n 0, 1) := by decide +kernel
theorem dd_lw_takeRule_3 : decode method_9_code 3 = .ok (.iload_n 1, 1) := by decide +kernel
theorem dd_lw_takeRule_4 : decode method_9_code 4 = .ok (.iload_n 2, 1) := by decide +kernel
theorem dd_lw_takeRule_5 : decode method_9_code 5 = .ok (.invokevirtual 37, 3) := by decide +kernel
theorem dd_lw_takeRule_8 : decode method_9_code 8 = .ok (.i2l, 1) := by decide +kernel
theorem dd_lw_takeRule_9 : decode method_9_code 9 = .ok (.lastore, 1) := by decide +kernel
theorem dd_lw_takeRule_10 : decode method_9_code 10 = .ok (.goto 11, 3) := by decide +kernel
theorem dd_lw_takeRule_13 : decode method_9_code 13 = .ok (.astore 4, 2) := by decide +kernel
theorem dd_lw_takeRule_15 : decode method_9_code 15 = .ok (.iconst 1, 1) := by decide +kernel
theorem dd_lw_takeRule_16 : decode method_9_code 16 = .ok (.ireturn, 1) := by decide +kernel
theorem dd_lw_takeRule_17 : decode method_9_code 17 = .ok (.astore 4, 2) := by decide +kernel
theorem dd_lw_takeRule_19 : decode method_9_code 19 = .ok (.iconst 2, 1) := by decide +kernel
theorem dd_lw_takeRule_20 : decode method_9_code 20 = .ok (.ireturn, 1) := by decide +kernel
theorem dd_lw_takeRule_21 : decode method_9_code 21 = .ok (.iconst 0, 1) := by decide +kernel
theorem dd_lw_takeRule_22 : decode method_9_code 22 = .ok (.ireturn, 1) := by decide +kernel
theorem dd_ra_takeRule_0 : decode prog_1_method_8_code 0 = .ok (.aload_n 0, 1) := by decide +kernel
theorem dd_ra_takeRule_1 : decode prog_1_method_8_code 1 = .ok (.iload_n 1, 1) := by decide +kernel
theorem dd_ra_takeRule_2 : decode prog_1_method_8_code 2 = .ok (.invokevirtual 60, 3) := by decide +kernel
theorem dd_ra_takeRule_5 : decode prog_1_method_8_code 5 = .ok (.aload_n 0, 1) := by decide +kernel
theorem dd_ra_takeRule_6 : decode prog_1_method_8_code 6 = .ok (.iload_n 2, 1) := by decide +kernel
theorem dd_ra_takeRule_7 : decode prog_1_method_8_code 7 = .ok (.invokevirtual 60, 3) := by decide +kernel
theorem dd_ra_takeRule_10 : decode prog_1_method_8_code 10 = .ok (.aload_n 0, 1) := by decide +kernel
theorem dd_ra_takeRule_11 : decode prog_1_method_8_code 11 = .ok (.invokevirtual 131, 3) := by decide +kernel
theorem dd_ra_takeRule_14 : decode prog_1_method_8_code 14 = .ok (.aload_n 0, 1) := by decide +kernel
theorem dd_ra_takeRule_15 : decode prog_1_method_8_code 15 = .ok (.getfield 12, 3) := by decide +kernel
theorem dd_ra_takeRule_18 : decode prog_1_method_8_code 18 = .ok (.new 134, 3) := by decide +kernel
theorem dd_ra_takeRule_21 : decode prog_1_method_8_code 21 = .ok (.dup, 1) := by decide +kernel
theorem dd_ra_takeRule_22 : decode prog_1_method_8_code 22 = .ok (.iconst 0, 1) := by decide +kernel
theorem dd_ra_takeRule_23 : decode prog_1_method_8_code 23 = .ok (.iload_n 1, 1) := by decide +kernel
theorem dd_ra_takeRule_24 : decode prog_1_method_8_code 24 = .ok (.iconst 0, 1) := by decide +kernel
theorem dd_ra_takeRule_25 : decode prog_1_method_8_code 25 = .ok (.iconst 0, 1) := by decide +kernel
theorem dd_ra_takeRule_26 : decode prog_1_method_8_code 26 = .ok (.iload_n 2, 1) := by decide +kernel
theorem dd_ra_takeRule_27 : decode prog_1_method_8_code 27 = .ok (.invokespecial 136, 3) := by decide +kernel
theorem dd_ra_takeRule_30 : decode prog_1_method_8_code 30 = .ok (.invokevirtual 139, 3) := by decide +kernel
theorem dd_ra_takeRule_33 : decode prog_1_method_8_code 33 = .ok (.ireturn, 1) := by decide +kernel
theorem dd_lw_assign_0 : decode method_10_code 0 = .ok (.aload_n 3, 1) := by decide +kernel
theorem dd_lw_assign_1 : decode method_10_code 1 = .ok (.iconst 0, 1) := by decide +kernel
theorem dd_lw_assign_2 : decode method_10_code 2 = .ok (.aload_n 0, 1) := by decide +kernel
theorem dd_lw_assign_3 : decode method_10_code 3 = .ok (.iload_n 1, 1) := by decide +kernel
theorem dd_lw_assign_4 : decode method_10_code 4 = .ok (.iload_n 2, 1) := by decide +kernel
theorem dd_lw_assign_5 : decode method_10_code 5 = .ok (.invokevirtual 41, 3) := by decide +kernel
theorem dd_lw_assign_8 : decode method_10_code 8 = .ok (.ifCond .eq 7, 3) := by decide +kernel
theorem dd_lw_assign_11 : decode method_10_code 11 = .ok (.lconst 1, 1) := by decide +kernel
theorem dd_lw_assign_12 : decode method_10_code 12 = .ok (.goto 4, 3) := by decide +kernel
theorem dd_lw_assign_15 : decode method_10_code 15 = .ok (.lconst 0, 1) := by decide +kernel
theorem dd_lw_assign_16 : decode method_10_code 16 = .ok (.lastore, 1) := by decide +kernel
theorem dd_lw_assign_17 : decode method_10_code 17 = .ok (.goto 11, 3) := by decide +kernel
theorem dd_lw_assign_20 : decode method_10_code 20 = .ok (.astore 4, 2) := by decide +kernel
theorem dd_lw_assign_22 : decode method_10_code 22 = .ok (.iconst 1, 1) := by decide +kernel
theorem dd_lw_assign_23 : decode method_10_code 23 = .ok (.ireturn, 1) := by decide +kernel
theorem dd_lw_assign_24 : decode method_10_code 24 = .ok (.astore 4, 2) := by decide +kernel
theorem dd_lw_assign_26 : decode method_10_code 26 = .ok (.iconst 2, 1) := by decide +kernel
theorem dd_lw_assign_27 : decode method_10_code 27 = .ok (.ireturn, 1) := by decide +kernel
theorem dd_lw_assign_28 : decode method_10_code 28 = .ok (.iconst 0, 1) := by decide +kernel
theorem dd_lw_assign_29 : decode method_10_code 29 = .ok (.ireturn, 1) := by decide +kernel
theorem dd_ra_assign_0 : decode prog_1_method_9_code 0 = .ok (.aload_n 0, 1) := by decide +kernel
theorem dd_ra_assign_1 : decode prog_1_method_9_code 1 = .ok (.iload_n 1, 1) := by decide +kernel
theorem dd_ra_assign_2 : decode prog_1_method_9_code 2 = .ok (.invokevirtual 143, 3) := by decide +kernel
theorem dd_ra_assign_5 : decode prog_1_method_9_code 5 = .ok (.aload_n 0, 1) := by decide +kernel
theorem dd_ra_assign_6 : decode prog_1_method_9_code 6 = .ok (.iload_n 2, 1) := by decide +kernel
theorem dd_ra_assign_7 : decode prog_1_method_9_code 7 = .ok (.invokevirtual 60, 3) := by decide +kernel
theorem dd_ra_assign_10 : decode prog_1_method_9_code 10 = .ok (.aload_n 0, 1) := by decide +kernel
theorem dd_ra_assign_11 : decode prog_1_method_9_code 11 = .ok (.iload_n 1, 1) := by decide +kernel
theorem dd_ra_assign_12 : decode prog_1_method_9_code 12 = .ok (.iload_n 2, 1) := by decide +kernel
theorem dd_ra_assign_13 : decode prog_1_method_9_code 13 = .ok (.invokevirtual 146, 3) := by decide +kernel
theorem dd_ra_assign_16 : decode prog_1_method_9_code 16 = .ok (.ireturn, 1) := by decide +kernel
theorem dd_ra_checkUser_0 : decode prog_1_method_28_code 0 = .ok (.iload_n 1, 1) := by decide +kernel
theorem dd_ra_checkUser_1 : decode prog_1_method_28_code 1 = .ok (.ifCond .lt 11, 3) := by decide +kernel
theorem dd_ra_checkUser_4 : decode prog_1_method_28_code 4 = .ok (.iload_n 1, 1) := by decide +kernel
theorem dd_ra_checkUser_5 : decode prog_1_method_28_code 5 = .ok (.aload_n 0, 1) := by decide +kernel
theorem dd_ra_checkUser_6 : decode prog_1_method_28_code 6 = .ok (.getfield 55, 3) := by decide +kernel
theorem dd_ra_checkUser_9 : decode prog_1_method_28_code 9 = .ok (.if_icmp .lt 13, 3) := by decide +kernel
theorem dd_ra_checkUser_12 : decode prog_1_method_28_code 12 = .ok (.new 195, 3) := by decide +kernel
theorem dd_ra_checkUser_15 : decode prog_1_method_28_code 15 = .ok (.dup, 1) := by decide +kernel
theorem dd_ra_checkUser_16 : decode prog_1_method_28_code 16 = .ok (.ldc 200, 2) := by decide +kernel
theorem dd_ra_checkUser_18 : decode prog_1_method_28_code 18 = .ok (.invokespecial 199, 3) := by decide +kernel
theorem dd_ra_checkUser_21 : decode prog_1_method_28_code 21 = .ok (.athrow, 1) := by decide +kernel
theorem dd_ra_checkUser_22 : decode prog_1_method_28_code 22 = .ok (.return_, 1) := by decide +kernel
theorem dd_ra_addAssignment_0 : decode prog_1_method_23_code 0 = .ok (.aload_n 0, 1) := by decide +kernel
theorem dd_ra_addAssignment_1 : decode prog_1_method_23_code 1 = .ok (.getfield 25, 3) := by decide +kernel
theorem dd_ra_addAssignment_4 : decode prog_1_method_23_code 4 = .ok (.iload_n 1, 1) := by decide +kernel
theorem dd_ra_addAssignment_5 : decode prog_1_method_23_code 5 = .ok (.iaload, 1) := by decide +kernel
theorem dd_ra_addAssignment_6 : decode prog_1_method_23_code 6 = .ok (.iconst 1, 1) := by decide +kernel
theorem dd_ra_addAssignment_7 : decode prog_1_method_23_code 7 = .ok (.iload_n 2, 1) := by decide +kernel
theorem dd_ra_addAssignment_8 : decode prog_1_method_23_code 8 = .ok (.ishl, 1) := by decide +kernel
theorem dd_ra_addAssignment_9 : decode prog_1_method_23_code 9 = .ok (.ior, 1) := by decide +kernel
theorem dd_ra_addAssignment_10 : decode prog_1_method_23_code 10 = .ok (.istore_n 3, 1) := by decide +kernel
theorem dd_ra_addAssignment_11 : decode prog_1_method_23_code 11 = .ok (.aload_n 0, 1) := by decide +kernel
theorem dd_ra_addAssignment_12 : decode prog_1_method_23_code 12 = .ok (.aload_n 0, 1) := by decide +kernel
theorem dd_ra_addAssignment_13 : decode prog_1_method_23_code 13 = .ok (.getfield 12, 3) := by decide +kernel
theorem dd_ra_addAssignment_16 : decode prog_1_method_23_code 16 = .ok (.getfield 172, 3) := by decide +kernel
theorem dd_ra_addAssignment_19 : decode prog_1_method_23_code 19 = .ok (.iload_n 3, 1) := by decide +kernel
theorem dd_ra_addAssignment_20 : decode prog_1_method_23_code 20 = .ok (.iaload, 1) := by decide +kernel
theorem dd_ra_addAssignment_21 : decode prog_1_method_23_code 21 = .ok (.invokevirtual 81, 3) := by decide +kernel
theorem dd_ra_addAssignment_24 : decode prog_1_method_23_code 24 = .ok (.iload_n 3, 1) := by decide +kernel
theorem dd_ra_addAssignment_25 : decode prog_1_method_23_code 25 = .ok (.aload_n 0, 1) := by decide +kernel
theorem dd_ra_addAssignment_26 : decode prog_1_method_23_code 26 = .ok (.getfield 25, 3) := by decide +kernel
theorem dd_ra_addAssignment_29 : decode prog_1_method_23_code 29 = .ok (.iload_n 1, 1) := by decide +kernel
theorem dd_ra_addAssignment_30 : decode prog_1_method_23_code 30 = .ok (.iaload, 1) := by decide +kernel
theorem dd_ra_addAssignment_31 : decode prog_1_method_23_code 31 = .ok (.if_icmp .eq 7, 3) := by decide +kernel
theorem dd_ra_addAssignment_34 : decode prog_1_method_23_code 34 = .ok (.iconst 1, 1) := by decide +kernel
theorem dd_ra_addAssignment_35 : decode prog_1_method_23_code 35 = .ok (.goto 4, 3) := by decide +kernel
theorem dd_ra_addAssignment_38 : decode prog_1_method_23_code 38 = .ok (.iconst 0, 1) := by decide +kernel
theorem dd_ra_addAssignment_39 : decode prog_1_method_23_code 39 = .ok (.istore 4, 2) := by decide +kernel
theorem dd_ra_addAssignment_41 : decode prog_1_method_23_code 41 = .ok (.aload_n 0, 1) := by decide +kernel
theorem dd_ra_addAssignment_42 : decode prog_1_method_23_code 42 = .ok (.getfield 25, 3) := by decide +kernel
theorem dd_ra_addAssignment_45 : decode prog_1_method_23_code 45 = .ok (.iload_n 1, 1) := by decide +kernel
theorem dd_ra_addAssignment_46 : decode prog_1_method_23_code 46 = .ok (.iload_n 3, 1) := by decide +kernel
theorem dd_ra_addAssignment_47 : decode prog_1_method_23_code 47 = .ok (.iastore, 1) := by decide +kernel
theorem dd_ra_addAssignment_48 : decode prog_1_method_23_code 48 = .ok (.iload 4, 2) := by decide +kernel
theorem dd_ra_addAssignment_50 : decode prog_1_method_23_code 50 = .ok (.ireturn, 1) := by decide +kernel
theorem dd_lw_remove_0 : decode method_11_code 0 = .ok (.aload_n 3, 1) := by decide +kernel
theorem dd_lw_remove_1 : decode method_11_code 1 = .ok (.iconst 0, 1) := by decide +kernel
theorem dd_lw_remove_2 : decode method_11_code 2 = .ok (.aload_n 0, 1) := by decide +kernel
theorem dd_lw_remove_3 : decode method_11_code 3 = .ok (.iload_n 1, 1) := by decide +kernel
theorem dd_lw_remove_4 : decode method_11_code 4 = .ok (.iload_n 2, 1) := by decide +kernel
theorem dd_lw_remove_5 : decode method_11_code 5 = .ok (.invokevirtual 44, 3) := by decide +kernel
theorem dd_lw_remove_8 : decode method_11_code 8 = .ok (.ifCond .eq 7, 3) := by decide +kernel
theorem dd_lw_remove_11 : decode method_11_code 11 = .ok (.lconst 1, 1) := by decide +kernel
theorem dd_lw_remove_12 : decode method_11_code 12 = .ok (.goto 4, 3) := by decide +kernel
theorem dd_lw_remove_15 : decode method_11_code 15 = .ok (.lconst 0, 1) := by decide +kernel
theorem dd_lw_remove_16 : decode method_11_code 16 = .ok (.lastore, 1) := by decide +kernel
theorem dd_lw_remove_17 : decode method_11_code 17 = .ok (.goto 7, 3) := by decide +kernel
theorem dd_lw_remove_20 : decode method_11_code 20 = .ok (.astore 4, 2) := by decide +kernel
theorem dd_lw_remove_22 : decode method_11_code 22 = .ok (.iconst 1, 1) := by decide +kernel
theorem dd_lw_remove_23 : decode method_11_code 23 = .ok (.ireturn, 1) := by decide +kernel
theorem dd_lw_remove_24 : decode method_11_code 24 = .ok (.iconst 0, 1) := by decide +kernel
theorem dd_lw_remove_25 : decode method_11_code 25 = .ok (.ireturn, 1) := by decide +kernel
theorem dd_ra_remove_0 : decode prog_1_method_10_code 0 = .ok (.aload_n 0, 1) := by decide +kernel
theorem dd_ra_remove_1 : decode prog_1_method_10_code 1 = .ok (.iload_n 1, 1) := by decide +kernel
theorem dd_ra_remove_2 : decode prog_1_method_10_code 2 = .ok (.invokevirtual 143, 3) := by decide +kernel
theorem dd_ra_remove_5 : decode prog_1_method_10_code 5 = .ok (.aload_n 0, 1) := by decide +kernel
theorem dd_ra_remove_6 : decode prog_1_method_10_code 6 = .ok (.iload_n 2, 1) := by decide +kernel
theorem dd_ra_remove_7 : decode prog_1_method_10_code 7 = .ok (.invokevirtual 60, 3) := by decide +kernel
theorem dd_ra_remove_10 : decode prog_1_method_10_code 10 = .ok (.aload_n 0, 1) := by decide +kernel
theorem dd_ra_remove_11 : decode prog_1_method_10_code 11 = .ok (.iload_n 1, 1) := by decide +kernel
theorem dd_ra_remove_12 : decode prog_1_method_10_code 12 = .ok (.iload_n 2, 1) := by decide +kernel
theorem dd_ra_remove_13 : decode prog_1_method_10_code 13 = .ok (.invokevirtual 149, 3) := by decide +kernel
theorem dd_ra_remove_16 : decode prog_1_method_10_code 16 = .ok (.ireturn, 1) := by decide +kernel
theorem dd_ra_dropAssignment_0 : decode prog_1_method_24_code 0 = .ok (.aload_n 0, 1) := by decide +kernel
theorem dd_ra_dropAssignment_1 : decode prog_1_method_24_code 1 = .ok (.getfield 25, 3) := by decide +kernel
theorem dd_ra_dropAssignment_4 : decode prog_1_method_24_code 4 = .ok (.iload_n 1, 1) := by decide +kernel
theorem dd_ra_dropAssignment_5 : decode prog_1_method_24_code 5 = .ok (.iaload, 1) := by decide +kernel
theorem dd_ra_dropAssignment_6 : decode prog_1_method_24_code 6 = .ok (.iload_n 2, 1) := by decide +kernel
theorem dd_ra_dropAssignment_7 : decode prog_1_method_24_code 7 = .ok (.invokestatic 91, 3) := by decide +kernel
theorem dd_ra_dropAssignment_10 : decode prog_1_method_24_code 10 = .ok (.istore_n 3, 1) := by decide +kernel
theorem dd_ra_dropAssignment_11 : decode prog_1_method_24_code 11 = .ok (.aload_n 0, 1) := by decide +kernel
theorem dd_ra_dropAssignment_12 : decode prog_1_method_24_code 12 = .ok (.getfield 25, 3) := by decide +kernel
theorem dd_ra_dropAssignment_15 : decode prog_1_method_24_code 15 = .ok (.iload_n 1, 1) := by decide +kernel
theorem dd_ra_dropAssignment_16 : decode prog_1_method_24_code 16 = .ok (.dup2, 1) := by decide +kernel
theorem dd_ra_dropAssignment_17 : decode prog_1_method_24_code 17 = .ok (.iaload, 1) := by decide +kernel
theorem dd_ra_dropAssignment_18 : decode prog_1_method_24_code 18 = .ok (.iconst 1, 1) := by decide +kernel
theorem dd_ra_dropAssignment_19 : decode prog_1_method_24_code 19 = .ok (.iload_n 2, 1) := by decide +kernel
theorem dd_ra_dropAssignment_20 : decode prog_1_method_24_code 20 = .ok (.ishl, 1) := by decide +kernel
theorem dd_ra_dropAssignment_21 : decode prog_1_method_24_code 21 = .ok (.iconst (-1), 1) := by decide +kernel
theorem dd_ra_dropAssignment_22 : decode prog_1_method_24_code 22 = .ok (.ixor, 1) := by decide +kernel
theorem dd_ra_dropAssignment_23 : decode prog_1_method_24_code 23 = .ok (.iand, 1) := by decide +kernel
theorem dd_ra_dropAssignment_24 : decode prog_1_method_24_code 24 = .ok (.iastore, 1) := by decide +kernel
theorem dd_ra_dropAssignment_25 : decode prog_1_method_24_code 25 = .ok (.iconst 0, 1) := by decide +kernel
theorem dd_ra_dropAssignment_26 : decode prog_1_method_24_code 26 = .ok (.istore 4, 2) := by decide +kernel
theorem dd_ra_dropAssignment_28 : decode prog_1_method_24_code 28 = .ok (.iload 4, 2) := by decide +kernel
theorem dd_ra_dropAssignment_30 : decode prog_1_method_24_code 30 = .ok (.iconst 4, 1) := by decide +kernel
theorem dd_ra_dropAssignment_31 : decode prog_1_method_24_code 31 = .ok (.if_icmp .ge 35, 3) := by decide +kernel
theorem dd_ra_dropAssignment_34 : decode prog_1_method_24_code 34 = .ok (.aload_n 0, 1) := by decide +kernel
theorem dd_ra_dropAssignment_35 : decode prog_1_method_24_code 35 = .ok (.getfield 32, 3) := by decide +kernel
theorem dd_ra_dropAssignment_38 : decode prog_1_method_24_code 38 = .ok (.iload 4, 2) := by decide +kernel
theorem dd_ra_dropAssignment_40 : decode prog_1_method_24_code 40 = .ok (.iaload, 1) := by decide +kernel
theorem dd_ra_dropAssignment_41 : decode prog_1_method_24_code 41 = .ok (.iload_n 1, 1) := by decide +kernel
theorem dd_ra_dropAssignment_42 : decode prog_1_method_24_code 42 = .ok (.if_icmp .ne 18, 3) := by decide +kernel
theorem dd_ra_dropAssignment_45 : decode prog_1_method_24_code 45 = .ok (.aload_n 0, 1) := by decide +kernel
theorem dd_ra_dropAssignment_46 : decode prog_1_method_24_code 46 = .ok (.getfield 35, 3) := by decide +kernel
theorem dd_ra_dropAssignment_49 : decode prog_1_method_24_code 49 = .ok (.iload 4, 2) := by decide +kernel
theorem dd_ra_dropAssignment_51 : decode prog_1_method_24_code 51 = .ok (.dup2, 1) := by decide +kernel
theorem dd_ra_dropAssignment_52 : decode prog_1_method_24_code 52 = .ok (.iaload, 1) := by decide +kernel
theorem dd_ra_dropAssignment_53 : decode prog_1_method_24_code 53 = .ok (.aload_n 0, 1) := by decide +kernel
theorem dd_ra_dropAssignment_54 : decode prog_1_method_24_code 54 = .ok (.iload_n 1, 1) := by decide +kernel
theorem dd_ra_dropAssignment_55 : decode prog_1_method_24_code 55 = .ok (.invokevirtual 73, 3) := by decide +kernel
theorem dd_ra_dropAssignment_58 : decode prog_1_method_24_code 58 = .ok (.iand, 1) := by decide +kernel
theorem dd_ra_dropAssignment_59 : decode prog_1_method_24_code 59 = .ok (.iastore, 1) := by decide +kernel
theorem dd_ra_dropAssignment_60 : decode prog_1_method_24_code 60 = .ok (.iinc 4 1, 3) := by decide +kernel
theorem dd_ra_dropAssignment_63 : decode prog_1_method_24_code 63 = .ok (.goto (-35), 3) := by decide +kernel
theorem dd_ra_dropAssignment_66 : decode prog_1_method_24_code 66 = .ok (.iload_n 3, 1) := by decide +kernel
theorem dd_ra_dropAssignment_67 : decode prog_1_method_24_code 67 = .ok (.ireturn, 1) := by decide +kernel
theorem dd_lw_give_0 : decode method_12_code 0 = .ok (.aload 4, 2) := by decide +kernel
theorem dd_lw_give_2 : decode method_12_code 2 = .ok (.iconst 0, 1) := by decide +kernel
theorem dd_lw_give_3 : decode method_12_code 3 = .ok (.aload_n 0, 1) := by decide +kernel
theorem dd_lw_give_4 : decode method_12_code 4 = .ok (.iload_n 1, 1) := by decide +kernel
theorem dd_lw_give_5 : decode method_12_code 5 = .ok (.iload_n 2, 1) := by decide +kernel
theorem dd_lw_give_6 : decode method_12_code 6 = .ok (.iload_n 3, 1) := by decide +kernel
theorem dd_lw_give_7 : decode method_12_code 7 = .ok (.invokevirtual 47, 3) := by decide +kernel
theorem dd_lw_give_10 : decode method_12_code 10 = .ok (.ifCond .eq 7, 3) := by decide +kernel
theorem dd_lw_give_13 : decode method_12_code 13 = .ok (.lconst 1, 1) := by decide +kernel
theorem dd_lw_give_14 : decode method_12_code 14 = .ok (.goto 4, 3) := by decide +kernel
theorem dd_lw_give_17 : decode method_12_code 17 = .ok (.lconst 0, 1) := by decide +kernel
theorem dd_lw_give_18 : decode method_12_code 18 = .ok (.lastore, 1) := by decide +kernel
theorem dd_lw_give_19 : decode method_12_code 19 = .ok (.goto 15, 3) := by decide +kernel
theorem dd_lw_give_22 : decode method_12_code 22 = .ok (.astore 5, 2) := by decide +kernel
theorem dd_lw_give_24 : decode method_12_code 24 = .ok (.iconst 1, 1) := by decide +kernel
theorem dd_lw_give_25 : decode method_12_code 25 = .ok (.ireturn, 1) := by decide +kernel
theorem dd_lw_give_26 : decode method_12_code 26 = .ok (.astore 5, 2) := by decide +kernel
theorem dd_lw_give_28 : decode method_12_code 28 = .ok (.iconst 2, 1) := by decide +kernel
theorem dd_lw_give_29 : decode method_12_code 29 = .ok (.ireturn, 1) := by decide +kernel
theorem dd_lw_give_30 : decode method_12_code 30 = .ok (.astore 5, 2) := by decide +kernel
theorem dd_lw_give_32 : decode method_12_code 32 = .ok (.iconst 3, 1) := by decide +kernel
theorem dd_lw_give_33 : decode method_12_code 33 = .ok (.ireturn, 1) := by decide +kernel
theorem dd_lw_give_34 : decode method_12_code 34 = .ok (.iconst 0, 1) := by decide +kernel
theorem dd_lw_give_35 : decode method_12_code 35 = .ok (.ireturn, 1) := by decide +kernel
theorem dd_ra_give_0 : decode prog_1_method_11_code 0 = .ok (.aload_n 0, 1) := by decide +kernel
theorem dd_ra_give_1 : decode prog_1_method_11_code 1 = .ok (.iload_n 1, 1) := by decide +kernel
theorem dd_ra_give_2 : decode prog_1_method_11_code 2 = .ok (.invokevirtual 143, 3) := by decide +kernel
theorem dd_ra_give_5 : decode prog_1_method_11_code 5 = .ok (.aload_n 0, 1) := by decide +kernel
theorem dd_ra_give_6 : decode prog_1_method_11_code 6 = .ok (.iload_n 2, 1) := by decide +kernel
theorem dd_ra_give_7 : decode prog_1_method_11_code 7 = .ok (.invokevirtual 143, 3) := by decide +kernel
theorem dd_ra_give_10 : decode prog_1_method_11_code 10 = .ok (.aload_n 0, 1) := by decide +kernel
theorem dd_ra_give_11 : decode prog_1_method_11_code 11 = .ok (.iload_n 3, 1) := by decide +kernel
theorem dd_ra_give_12 : decode prog_1_method_11_code 12 = .ok (.invokevirtual 60, 3) := by decide +kernel
theorem dd_ra_give_15 : decode prog_1_method_11_code 15 = .ok (.aload_n 0, 1) := by decide +kernel
theorem dd_ra_give_16 : decode prog_1_method_11_code 16 = .ok (.iconst 1, 1) := by decide +kernel
theorem dd_ra_give_17 : decode prog_1_method_11_code 17 = .ok (.iload_n 1, 1) := by decide +kernel
theorem dd_ra_give_18 : decode prog_1_method_11_code 18 = .ok (.iload_n 2, 1) := by decide +kernel
theorem dd_ra_give_19 : decode prog_1_method_11_code 19 = .ok (.iload_n 3, 1) := by decide +kernel
theorem dd_ra_give_20 : decode prog_1_method_11_code 20 = .ok (.invokevirtual 152, 3) := by decide +kernel
theorem dd_ra_give_23 : decode prog_1_method_11_code 23 = .ok (.aload_n 0, 1) := by decide +kernel
theorem dd_ra_give_24 : decode prog_1_method_11_code 24 = .ok (.iload_n 2, 1) := by decide +kernel
theorem dd_ra_give_25 : decode prog_1_method_11_code 25 = .ok (.iload_n 3, 1) := by decide +kernel
theorem dd_ra_give_26 : decode prog_1_method_11_code 26 = .ok (.invokevirtual 146, 3) := by decide +kernel
theorem dd_ra_give_29 : decode prog_1_method_11_code 29 = .ok (.ireturn, 1) := by decide +kernel
theorem dd_ra_checkLeave_0 : decode prog_1_method_33_code 0 = .ok (.aload_n 0, 1) := by decide +kernel
theorem dd_ra_checkLeave_1 : decode prog_1_method_33_code 1 = .ok (.getfield 12, 3) := by decide +kernel
theorem dd_ra_checkLeave_4 : decode prog_1_method_33_code 4 = .ok (.iload_n 1, 1) := by decide +kernel
theorem dd_ra_checkLeave_5 : decode prog_1_method_33_code 5 = .ok (.aload_n 0, 1) := by decide +kernel
theorem dd_ra_checkLeave_6 : decode prog_1_method_33_code 6 = .ok (.iload_n 2, 1) := by decide +kernel
theorem dd_ra_checkLeave_7 : decode prog_1_method_33_code 7 = .ok (.invokevirtual 73, 3) := by decide +kernel
theorem dd_ra_checkLeave_10 : decode prog_1_method_33_code 10 = .ok (.aload_n 0, 1) := by decide +kernel
theorem dd_ra_checkLeave_11 : decode prog_1_method_33_code 11 = .ok (.iload_n 3, 1) := by decide +kernel
theorem dd_ra_checkLeave_12 : decode prog_1_method_33_code 12 = .ok (.invokevirtual 73, 3) := by decide +kernel
theorem dd_ra_checkLeave_15 : decode prog_1_method_33_code 15 = .ok (.iload 4, 2) := by decide +kernel
theorem dd_ra_checkLeave_17 : decode prog_1_method_33_code 17 = .ok (.invokevirtual 213, 3) := by decide +kernel
theorem dd_ra_checkLeave_20 : decode prog_1_method_33_code 20 = .ok (.ifCond .ne 13, 3) := by decide +kernel
theorem dd_ra_checkLeave_23 : decode prog_1_method_33_code 23 = .ok (.new 161, 3) := by decide +kernel
theorem dd_ra_checkLeave_26 : decode prog_1_method_33_code 26 = .ok (.dup, 1) := by decide +kernel
theorem dd_ra_checkLeave_27 : decode prog_1_method_33_code 27 = .ok (.ldc 217, 2) := by decide +kernel
theorem dd_ra_checkLeave_29 : decode prog_1_method_33_code 29 = .ok (.invokespecial 165, 3) := by decide +kernel
theorem dd_ra_checkLeave_32 : decode prog_1_method_33_code 32 = .ok (.athrow, 1) := by decide +kernel
theorem dd_ra_checkLeave_33 : decode prog_1_method_33_code 33 = .ok (.return_, 1) := by decide +kernel
theorem dd_po_isAllowed_0 : decode prog_3_method_6_code 0 = .ok (.iconst 0, 1) := by decide +kernel
theorem dd_po_isAllowed_1 : decode prog_3_method_6_code 1 = .ok (.istore 5, 2) := by decide +kernel
theorem dd_po_isAllowed_3 : decode prog_3_method_6_code 3 = .ok (.iload 5, 2) := by decide +kernel
theorem dd_po_isAllowed_5 : decode prog_3_method_6_code 5 = .ok (.aload_n 0, 1) := by decide +kernel
theorem dd_po_isAllowed_6 : decode prog_3_method_6_code 6 = .ok (.getfield 25, 3) := by decide +kernel
theorem dd_po_isAllowed_9 : decode prog_3_method_6_code 9 = .ok (.invokevirtual 40, 3) := by decide +kernel
theorem dd_po_isAllowed_12 : decode prog_3_method_6_code 12 = .ok (.if_icmp .ge 46, 3) := by decide +kernel
theorem dd_po_isAllowed_15 : decode prog_3_method_6_code 15 = .ok (.aload_n 0, 1) := by decide +kernel
theorem dd_po_isAllowed_16 : decode prog_3_method_6_code 16 = .ok (.getfield 25, 3) := by decide +kernel
theorem dd_po_isAllowed_19 : decode prog_3_method_6_code 19 = .ok (.iload 5, 2) := by decide +kernel
theorem dd_po_isAllowed_21 : decode prog_3_method_6_code 21 = .ok (.invokevirtual 44, 3) := by decide +kernel
theorem dd_po_isAllowed_24 : decode prog_3_method_6_code 24 = .ok (.checkcast 48, 3) := by decide +kernel
theorem dd_po_isAllowed_27 : decode prog_3_method_6_code 27 = .ok (.astore 6, 2) := by decide +kernel
theorem dd_po_isAllowed_29 : decode prog_3_method_6_code 29 = .ok (.aload 6, 2) := by decide +kernel
theorem dd_po_isAllowed_31 : decode prog_3_method_6_code 31 = .ok (.iload_n 1, 1) := by decide +kernel
theorem dd_po_isAllowed_32 : decode prog_3_method_6_code 32 = .ok (.iload 4, 2) := by decide +kernel
theorem dd_po_isAllowed_34 : decode prog_3_method_6_code 34 = .ok (.invokevirtual 50, 3) := by decide +kernel
theorem dd_po_isAllowed_37 : decode prog_3_method_6_code 37 = .ok (.ifCond .eq 15, 3) := by decide +kernel
theorem dd_po_isAllowed_40 : decode prog_3_method_6_code 40 = .ok (.aload 6, 2) := by decide +kernel
theorem dd_po_isAllowed_42 : decode prog_3_method_6_code 42 = .ok (.iload_n 2, 1) := by decide +kernel
theorem dd_po_isAllowed_43 : decode prog_3_method_6_code 43 = .ok (.iload_n 3, 1) := by decide +kernel
theorem dd_po_isAllowed_44 : decode prog_3_method_6_code 44 = .ok (.invokevirtual 54, 3) := by decide +kernel
theorem dd_po_isAllowed_47 : decode prog_3_method_6_code 47 = .ok (.ifCond .eq 5, 3) := by decide +kernel
theorem dd_po_isAllowed_50 : decode prog_3_method_6_code 50 = .ok (.iconst 1, 1) := by decide +kernel
theorem dd_po_isAllowed_51 : decode prog_3_method_6_code 51 = .ok (.ireturn, 1) := by decide +kernel
theorem dd_po_isAllowed_52 : decode prog_3_method_6_code 52 = .ok (.iinc 5 1, 3) := by decide +kernel
theorem dd_po_isAllowed_55 : decode prog_3_method_6_code 55 = .ok (.goto (-52), 3) := by decide +kernel
theorem dd_po_isAllowed_58 : decode prog_3_method_6_code 58 = .ok (.iconst 0, 1) := by decide +kernel
theorem dd_po_isAllowed_59 : decode prog_3_method_6_code 59 = .ok (.ireturn, 1) := by decide +kernel
theorem dd_ru_isFor_0 : decode prog_4_method_2_code 0 = .ok (.aload_n 0, 1) := by decide +kernel
theorem dd_ru_isFor_1 : decode prog_4_method_2_code 1 = .ok (.getfield 7, 3) := by decide +kernel
theorem dd_ru_isFor_4 : decode prog_4_method_2_code 4 = .ok (.iload_n 1, 1) := by decide +kernel
theorem dd_ru_isFor_5 : decode prog_4_method_2_code 5 = .ok (.if_icmp .ne 15, 3) := by decide +kernel
theorem dd_ru_isFor_8 : decode prog_4_method_2_code 8 = .ok (.aload_n 0, 1) := by decide +kernel
theorem dd_ru_isFor_9 : decode prog_4_method_2_code 9 = .ok (.getfield 23, 3) := by decide +kernel
theorem dd_ru_isFor_12 : decode prog_4_method_2_code 12 = .ok (.iload_n 2, 1) := by decide +kernel
theorem dd_ru_isFor_13 : decode prog_4_method_2_code 13 = .ok (.if_icmp .ne 7, 3) := by decide +kernel
theorem dd_ru_isFor_16 : decode prog_4_method_2_code 16 = .ok (.iconst 1, 1) := by decide +kernel
theorem dd_ru_isFor_17 : decode prog_4_method_2_code 17 = .ok (.goto 4, 3) := by decide +kernel
theorem dd_ru_isFor_20 : decode prog_4_method_2_code 20 = .ok (.iconst 0, 1) := by decide +kernel
theorem dd_ru_isFor_21 : decode prog_4_method_2_code 21 = .ok (.ireturn, 1) := by decide +kernel
theorem dd_ru_allows_0 : decode prog_4_method_3_code 0 = .ok (.iload_n 1, 1) := by decide +kernel
theorem dd_ru_allows_1 : decode prog_4_method_3_code 1 = .ok (.aload_n 0, 1) := by decide +kernel
theorem dd_ru_allows_2 : decode prog_4_method_3_code 2 = .ok (.getfield 13, 3) := by decide +kernel
theorem dd_ru_allows_5 : decode prog_4_method_3_code 5 = .ok (.invokestatic 26, 3) := by decide +kernel
theorem dd_ru_allows_8 : decode prog_4_method_3_code 8 = .ok (.ifCond .eq 29, 3) := by decide +kernel
theorem dd_ru_allows_11 : decode prog_4_method_3_code 11 = .ok (.iload_n 2, 1) := by decide +kernel
theorem dd_ru_allows_12 : decode prog_4_method_3_code 12 = .ok (.aload_n 0, 1) := by decide +kernel
theorem dd_ru_allows_13 : decode prog_4_method_3_code 13 = .ok (.getfield 17, 3) := by decide +kernel
theorem dd_ru_allows_16 : decode prog_4_method_3_code 16 = .ok (.iand, 1) := by decide +kernel
theorem dd_ru_allows_17 : decode prog_4_method_3_code 17 = .ok (.aload_n 0, 1) := by decide +kernel
theorem dd_ru_allows_18 : decode prog_4_method_3_code 18 = .ok (.getfield 17, 3) := by decide +kernel
theorem dd_ru_allows_21 : decode prog_4_method_3_code 21 = .ok (.if_icmp .ne 16, 3) := by decide +kernel
theorem dd_ru_allows_24 : decode prog_4_method_3_code 24 = .ok (.iload_n 2, 1) := by decide +kernel
theorem dd_ru_allows_25 : decode prog_4_method_3_code 25 = .ok (.aload_n 0, 1) := by decide +kernel
theorem dd_ru_allows_26 : decode prog_4_method_3_code 26 = .ok (.getfield 20, 3) := by decide +kernel
theorem dd_ru_allows_29 : decode prog_4_method_3_code 29 = .ok (.iand, 1) := by decide +kernel
theorem dd_ru_allows_30 : decode prog_4_method_3_code 30 = .ok (.ifCond .ne 7, 3) := by decide +kernel
theorem dd_ru_allows_33 : decode prog_4_method_3_code 33 = .ok (.iconst 1, 1) := by decide +kernel
theorem dd_ru_allows_34 : decode prog_4_method_3_code 34 = .ok (.goto 4, 3) := by decide +kernel
theorem dd_ru_allows_37 : decode prog_4_method_3_code 37 = .ok (.iconst 0, 1) := by decide +kernel
theorem dd_ru_allows_38 : decode prog_4_method_3_code 38 = .ok (.ireturn, 1) := by decide +kernel
theorem dd_lw_take_0 : decode method_13_code 0 = .ok (.aload 4, 2) := by decide +kernel
theorem dd_lw_take_2 : decode method_13_code 2 = .ok (.iconst 0, 1) := by decide +kernel
theorem dd_lw_take_3 : decode method_13_code 3 = .ok (.aload_n 0, 1) := by decide +kernel
theorem dd_lw_take_4 : decode method_13_code 4 = .ok (.iload_n 1, 1) := by decide +kernel
theorem dd_lw_take_5 : decode method_13_code 5 = .ok (.iload_n 2, 1) := by decide +kernel
theorem dd_lw_take_6 : decode method_13_code 6 = .ok (.iload_n 3, 1) := by decide +kernel
theorem dd_lw_take_7 : decode method_13_code 7 = .ok (.invokevirtual 53, 3) := by decide +kernel
theorem dd_lw_take_10 : decode method_13_code 10 = .ok (.ifCond .eq 7, 3) := by decide +kernel
theorem dd_lw_take_13 : decode method_13_code 13 = .ok (.lconst 1, 1) := by decide +kernel
theorem dd_lw_take_14 : decode method_13_code 14 = .ok (.goto 4, 3) := by decide +kernel
theorem dd_lw_take_17 : decode method_13_code 17 = .ok (.lconst 0, 1) := by decide +kernel
theorem dd_lw_take_18 : decode method_13_code 18 = .ok (.lastore, 1) := by decide +kernel
theorem dd_lw_take_19 : decode method_13_code 19 = .ok (.goto 11, 3) := by decide +kernel
theorem dd_lw_take_22 : decode method_13_code 22 = .ok (.astore 5, 2) := by decide +kernel
theorem dd_lw_take_24 : decode method_13_code 24 = .ok (.iconst 1, 1) := by decide +kernel
theorem dd_lw_take_25 : decode method_13_code 25 = .ok (.ireturn, 1) := by decide +kernel
theorem dd_lw_take_26 : decode method_13_code 26 = .ok (.astore 5, 2) := by decide +kernel
theorem dd_lw_take_28 : decode method_13_code 28 = .ok (.iconst 2, 1) := by decide +kernel
theorem dd_lw_take_29 : decode method_13_code 29 = .ok (.ireturn, 1) := by decide +kernel
theorem dd_lw_take_30 : decode method_13_code 30 = .ok (.iconst 0, 1) := by decide +kernel
theorem dd_lw_take_31 : decode method_13_code 31 = .ok (.ireturn, 1) := by decide +kernel
theorem dd_ra_take_0 : decode prog_1_method_12_code 0 = .ok (.aload_n 0, 1) := by decide +kernel
theorem dd_ra_take_1 : decode prog_1_method_12_code 1 = .ok (.iload_n 1, 1) := by decide +kernel
theorem dd_ra_take_2 : decode prog_1_method_12_code 2 = .ok (.invokevirtual 143, 3) := by decide +kernel
theorem dd_ra_take_5 : decode prog_1_method_12_code 5 = .ok (.aload_n 0, 1) := by decide +kernel
theorem dd_ra_take_6 : decode prog_1_method_12_code 6 = .ok (.iload_n 2, 1) := by decide +kernel
theorem dd_ra_take_7 : decode prog_1_method_12_code 7 = .ok (.invokevirtual 143, 3) := by decide +kernel
theorem dd_ra_take_10 : decode prog_1_method_12_code 10 = .ok (.aload_n 0, 1) := by decide +kernel
theorem dd_ra_take_11 : decode prog_1_method_12_code 11 = .ok (.iload_n 3, 1) := by decide +kernel
theorem dd_ra_take_12 : decode prog_1_method_12_code 12 = .ok (.invokevirtual 60, 3) := by decide +kernel
theorem dd_ra_take_15 : decode prog_1_method_12_code 15 = .ok (.aload_n 0, 1) := by decide +kernel
theorem dd_ra_take_16 : decode prog_1_method_12_code 16 = .ok (.iconst 0, 1) := by decide +kernel
theorem dd_ra_take_17 : decode prog_1_method_12_code 17 = .ok (.iload_n 1, 1) := by decide +kernel
theorem dd_ra_take_18 : decode prog_1_method_12_code 18 = .ok (.iload_n 2, 1) := by decide +kernel
theorem dd_ra_take_19 : decode prog_1_method_12_code 19 = .ok (.iload_n 3, 1) := by decide +kernel
theorem dd_ra_take_20 : decode prog_1_method_12_code 20 = .ok (.invokevirtual 152, 3) := by decide +kernel
theorem dd_ra_take_23 : decode prog_1_method_12_code 23 = .ok (.aload_n 0, 1) := by decide +kernel
theorem dd_ra_take_24 : decode prog_1_method_12_code 24 = .ok (.iload_n 2, 1) := by decide +kernel
theorem dd_ra_take_25 : decode prog_1_method_12_code 25 = .ok (.iload_n 3, 1) := by decide +kernel
theorem dd_ra_take_26 : decode prog_1_method_12_code 26 = .ok (.invokevirtual 149, 3) := by decide +kernel
theorem dd_ra_take_29 : decode prog_1_method_12_code 29 = .ok (.ireturn, 1) := by decide +kernel
theorem dd_lw_roles_0 : decode method_14_code 0 = .ok (.aload_n 3, 1) := by decide +kernel
theorem dd_lw_roles_1 : decode method_14_code 1 = .ok (.iconst 0, 1) := by decide +kernel
theorem dd_lw_roles_2 : decode method_14_code 2 = .ok (.aload_n 0, 1) := by decide +kernel
theorem dd_lw_roles_3 : decode method_14_code 3 = .ok (.iload_n 1, 1) := by decide +kernel
theorem dd_lw_roles_4 : decode method_14_code 4 = .ok (.iload_n 2, 1) := by decide +kernel
theorem dd_lw_roles_5 : decode method_14_code 5 = .ok (.invokevirtual 56, 3) := by decide +kernel
theorem dd_lw_roles_8 : decode method_14_code 8 = .ok (.i2l, 1) := by decide +kernel
theorem dd_lw_roles_9 : decode method_14_code 9 = .ok (.lastore, 1) := by decide +kernel
theorem dd_lw_roles_10 : decode method_14_code 10 = .ok (.goto 7, 3) := by decide +kernel
theorem dd_lw_roles_13 : decode method_14_code 13 = .ok (.astore 4, 2) := by decide +kernel
theorem dd_lw_roles_15 : decode method_14_code 15 = .ok (.iconst 1, 1) := by decide +kernel
theorem dd_lw_roles_16 : decode method_14_code 16 = .ok (.ireturn, 1) := by decide +kernel
theorem dd_lw_roles_17 : decode method_14_code 17 = .ok (.iconst 0, 1) := by decide +kernel
theorem dd_lw_roles_18 : decode method_14_code 18 = .ok (.ireturn, 1) := by decide +kernel
theorem dd_ra_roles_0 : decode prog_1_method_13_code 0 = .ok (.aload_n 0, 1) := by decide +kernel
theorem dd_ra_roles_1 : decode prog_1_method_13_code 1 = .ok (.iload_n 1, 1) := by decide +kernel
theorem dd_ra_roles_2 : decode prog_1_method_13_code 2 = .ok (.invokevirtual 143, 3) := by decide +kernel
theorem dd_ra_roles_5 : decode prog_1_method_13_code 5 = .ok (.iload_n 2, 1) := by decide +kernel
theorem dd_ra_roles_6 : decode prog_1_method_13_code 6 = .ok (.ifCond .eq 11, 3) := by decide +kernel
theorem dd_ra_roles_9 : decode prog_1_method_13_code 9 = .ok (.aload_n 0, 1) := by decide +kernel
theorem dd_ra_roles_10 : decode prog_1_method_13_code 10 = .ok (.iload_n 1, 1) := by decide +kernel
theorem dd_ra_roles_11 : decode prog_1_method_13_code 11 = .ok (.invokevirtual 73, 3) := by decide +kernel
theorem dd_ra_roles_14 : decode prog_1_method_13_code 14 = .ok (.goto 9, 3) := by decide +kernel
theorem dd_ra_roles_17 : decode prog_1_method_13_code 17 = .ok (.aload_n 0, 1) := by decide +kernel
theorem dd_ra_roles_18 : decode prog_1_method_13_code 18 = .ok (.getfield 25, 3) := by decide +kernel
theorem dd_ra_roles_21 : decode prog_1_method_13_code 21 = .ok (.iload_n 1, 1) := by decide +kernel
theorem dd_ra_roles_22 : decode prog_1_method_13_code 22 = .ok (.iaload, 1) := by decide +kernel
theorem dd_ra_roles_23 : decode prog_1_method_13_code 23 = .ok (.ireturn, 1) := by decide +kernel
theorem dd_lw_open_0 : decode method_15_code 0 = .ok (.aload_n 2, 1) := by decide +kernel
theorem dd_lw_open_1 : decode method_15_code 1 = .ok (.iconst 0, 1) := by decide +kernel
theorem dd_lw_open_2 : decode method_15_code 2 = .ok (.aload_n 0, 1) := by decide +kernel
theorem dd_lw_open_3 : decode method_15_code 3 = .ok (.iload_n 1, 1) := by decide +kernel
theorem dd_lw_open_4 : decode method_15_code 4 = .ok (.invokevirtual 60, 3) := by decide +kernel
theorem dd_lw_open_7 : decode method_15_code 7 = .ok (.i2l, 1) := by decide +kernel
theorem dd_lw_open_8 : decode method_15_code 8 = .ok (.lastore, 1) := by decide +kernel
theorem dd_lw_open_9 : decode method_15_code 9 = .ok (.goto 9, 3) := by decide +kernel
theorem dd_lw_open_12 : decode method_15_code 12 = .ok (.astore_n 3, 1) := by decide +kernel
theorem dd_lw_open_13 : decode method_15_code 13 = .ok (.iconst 1, 1) := by decide +kernel
theorem dd_lw_open_14 : decode method_15_code 14 = .ok (.ireturn, 1) := by decide +kernel
theorem dd_lw_open_15 : decode method_15_code 15 = .ok (.astore_n 3, 1) := by decide +kernel
theorem dd_lw_open_16 : decode method_15_code 16 = .ok (.iconst 2, 1) := by decide +kernel
theorem dd_lw_open_17 : decode method_15_code 17 = .ok (.ireturn, 1) := by decide +kernel
theorem dd_lw_open_18 : decode method_15_code 18 = .ok (.iconst 0, 1) := by decide +kernel
theorem dd_lw_open_19 : decode method_15_code 19 = .ok (.ireturn, 1) := by decide +kernel
theorem dd_ra_open_0 : decode prog_1_method_14_code 0 = .ok (.aload_n 0, 1) := by decide +kernel
theorem dd_ra_open_1 : decode prog_1_method_14_code 1 = .ok (.iload_n 1, 1) := by decide +kernel
theorem dd_ra_open_2 : decode prog_1_method_14_code 2 = .ok (.invokevirtual 143, 3) := by decide +kernel
theorem dd_ra_open_5 : decode prog_1_method_14_code 5 = .ok (.iconst 0, 1) := by decide +kernel
theorem dd_ra_open_6 : decode prog_1_method_14_code 6 = .ok (.istore_n 2, 1) := by decide +kernel
theorem dd_ra_open_7 : decode prog_1_method_14_code 7 = .ok (.iload_n 2, 1) := by decide +kernel
theorem dd_ra_open_8 : decode prog_1_method_14_code 8 = .ok (.iconst 4, 1) := by decide +kernel
theorem dd_ra_open_9 : decode prog_1_method_14_code 9 = .ok (.if_icmp .ge 28, 3) := by decide +kernel
theorem dd_ra_open_12 : decode prog_1_method_14_code 12 = .ok (.aload_n 0, 1) := by decide +kernel
theorem dd_ra_open_13 : decode prog_1_method_14_code 13 = .ok (.getfield 32, 3) := by decide +kernel
theorem dd_ra_open_16 : decode prog_1_method_14_code 16 = .ok (.iload_n 2, 1) := by decide +kernel
theorem dd_ra_open_17 : decode prog_1_method_14_code 17 = .ok (.iaload, 1) := by decide +kernel
theorem dd_ra_open_18 : decode prog_1_method_14_code 18 = .ok (.iconst (-1), 1) := by decide +kernel
theorem dd_ra_open_19 : decode prog_1_method_14_code 19 = .ok (.if_icmp .ne 12, 3) := by decide +kernel
theorem dd_ra_open_22 : decode prog_1_method_14_code 22 = .ok (.aload_n 0, 1) := by decide +kernel
theorem dd_ra_open_23 : decode prog_1_method_14_code 23 = .ok (.getfield 32, 3) := by decide +kernel
theorem dd_ra_open_26 : decode prog_1_method_14_code 26 = .ok (.iload_n 2, 1) := by decide +kernel
theorem dd_ra_open_27 : decode prog_1_method_14_code 27 = .ok (.iload_n 1, 1) := by decide +kernel
theorem dd_ra_open_28 : decode prog_1_method_14_code 28 = .ok (.iastore, 1) := by decide +kernel
theorem dd_ra_open_29 : decode prog_1_method_14_code 29 = .ok (.iload_n 2, 1) := by decide +kernel
theorem dd_ra_open_30 : decode prog_1_method_14_code 30 = .ok (.ireturn, 1) := by decide +kernel
theorem dd_ra_open_31 : decode prog_1_method_14_code 31 = .ok (.iinc 2 1, 3) := by decide +kernel
theorem dd_ra_open_34 : decode prog_1_method_14_code 34 = .ok (.goto (-27), 3) := by decide +kernel
theorem dd_ra_open_37 : decode prog_1_method_14_code 37 = .ok (.new 48, 3) := by decide +kernel
theorem dd_ra_open_40 : decode prog_1_method_14_code 40 = .ok (.dup, 1) := by decide +kernel
theorem dd_ra_open_41 : decode prog_1_method_14_code 41 = .ok (.ldc 156, 2) := by decide +kernel
theorem dd_ra_open_43 : decode prog_1_method_14_code 43 = .ok (.invokespecial 52, 3) := by decide +kernel
theorem dd_ra_open_46 : decode prog_1_method_14_code 46 = .ok (.athrow, 1) := by decide +kernel
theorem dd_lw_close_0 : decode method_16_code 0 = .ok (.aload_n 0, 1) := by decide +kernel
theorem dd_lw_close_1 : decode method_16_code 1 = .ok (.iload_n 1, 1) := by decide +kernel
theorem dd_lw_close_2 : decode method_16_code 2 = .ok (.invokevirtual 64, 3) := by decide +kernel
theorem dd_lw_close_5 : decode method_16_code 5 = .ok (.goto 6, 3) := by decide +kernel
theorem dd_lw_close_8 : decode method_16_code 8 = .ok (.astore_n 2, 1) := by decide +kernel
theorem dd_lw_close_9 : decode method_16_code 9 = .ok (.iconst 1, 1) := by decide +kernel
theorem dd_lw_close_10 : decode method_16_code 10 = .ok (.ireturn, 1) := by decide +kernel
theorem dd_lw_close_11 : decode method_16_code 11 = .ok (.iconst 0, 1) := by decide +kernel
theorem dd_lw_close_12 : decode method_16_code 12 = .ok (.ireturn, 1) := by decide +kernel
end
section
/-! decode rows: printed by wip/whole/facts.py -/
theorem dd_ra_close_0 : decode prog_1_method_15_code 0 = .ok (.aload_n 0, 1) := by decide +kernel
theorem dd_ra_close_1 : decode prog_1_method_15_code 1 = .ok (.iload_n 1, 1) := by decide +kernel
theorem dd_ra_close_2 : decode prog_1_method_15_code 2 = .ok (.invokevirtual 158, 3) := by decide +kernel
theorem dd_ra_close_5 : decode prog_1_method_15_code 5 = .ok (.aload_n 0, 1) := by decide +kernel
theorem dd_ra_close_6 : decode prog_1_method_15_code 6 = .ok (.getfield 32, 3) := by decide +kernel
theorem dd_ra_close_9 : decode prog_1_method_15_code 9 = .ok (.iload_n 1, 1) := by decide +kernel
theorem dd_ra_close_10 : decode prog_1_method_15_code 10 = .ok (.iconst (-1), 1) := by decide +kernel
theorem dd_ra_close_11 : decode prog_1_method_15_code 11 = .ok (.iastore, 1) := by decide +kernel
theorem dd_ra_close_12 : decode prog_1_method_15_code 12 = .ok (.aload_n 0, 1) := by decide +kernel
theorem dd_ra_close_13 : decode prog_1_method_15_code 13 = .ok (.getfield 35, 3) := by decide +kernel
theorem dd_ra_close_16 : decode prog_1_method_15_code 16 = .ok (.iload_n 1, 1) := by decide +kernel
theorem dd_ra_close_17 : decode prog_1_method_15_code 17 = .ok (.iconst 0, 1) := by decide +kernel
theorem dd_ra_close_18 : decode prog_1_method_15_code 18 = .ok (.iastore, 1) := by decide +kernel
theorem dd_ra_close_19 : decode prog_1_method_15_code 19 = .ok (.return_, 1) := by decide +kernel
theorem dd_ra_checkSession_0 : decode prog_1_method_29_code 0 = .ok (.iload_n 1, 1) := by decide +kernel
theorem dd_ra_checkSession_1 : decode prog_1_method_29_code 1 = .ok (.ifCond .lt 18, 3) := by decide +kernel
theorem dd_ra_checkSession_4 : decode prog_1_method_29_code 4 = .ok (.iload_n 1, 1) := by decide +kernel
theorem dd_ra_checkSession_5 : decode prog_1_method_29_code 5 = .ok (.iconst 4, 1) := by decide +kernel
theorem dd_ra_checkSession_6 : decode prog_1_method_29_code 6 = .ok (.if_icmp .ge 13, 3) := by decide +kernel
theorem dd_ra_checkSession_9 : decode prog_1_method_29_code 9 = .ok (.aload_n 0, 1) := by decide +kernel
theorem dd_ra_checkSession_10 : decode prog_1_method_29_code 10 = .ok (.getfield 32, 3) := by decide +kernel
theorem dd_ra_checkSession_13 : decode prog_1_method_29_code 13 = .ok (.iload_n 1, 1) := by decide +kernel
theorem dd_ra_checkSession_14 : decode prog_1_method_29_code 14 = .ok (.iaload, 1) := by decide +kernel
theorem dd_ra_checkSession_15 : decode prog_1_method_29_code 15 = .ok (.iconst (-1), 1) := by decide +kernel
theorem dd_ra_checkSession_16 : decode prog_1_method_29_code 16 = .ok (.if_icmp .ne 13, 3) := by decide +kernel
theorem dd_ra_checkSession_19 : decode prog_1_method_29_code 19 = .ok (.new 195, 3) := by decide +kernel
theorem dd_ra_checkSession_22 : decode prog_1_method_29_code 22 = .ok (.dup, 1) := by decide +kernel
theorem dd_ra_checkSession_23 : decode prog_1_method_29_code 23 = .ok (.ldc 202, 2) := by decide +kernel
theorem dd_ra_checkSession_25 : decode prog_1_method_29_code 25 = .ok (.invokespecial 199, 3) := by decide +kernel
theorem dd_ra_checkSession_28 : decode prog_1_method_29_code 28 = .ok (.athrow, 1) := by decide +kernel
theorem dd_ra_checkSession_29 : decode prog_1_method_29_code 29 = .ok (.return_, 1) := by decide +kernel
theorem dd_lw_activate_0 : decode method_17_code 0 = .ok (.aload_n 3, 1) := by decide +kernel
theorem dd_lw_activate_1 : decode method_17_code 1 = .ok (.iconst 0, 1) := by decide +kernel
theorem dd_lw_activate_2 : decode method_17_code 2 = .ok (.aload_n 0, 1) := by decide +kernel
theorem dd_lw_activate_3 : decode method_17_code 3 = .ok (.iload_n 1, 1) := by decide +kernel
theorem dd_lw_activate_4 : decode method_17_code 4 = .ok (.iload_n 2, 1) := by decide +kernel
theorem dd_lw_activate_5 : decode method_17_code 5 = .ok (.invokevirtual 68, 3) := by decide +kernel
theorem dd_lw_activate_8 : decode method_17_code 8 = .ok (.ifCond .eq 7, 3) := by decide +kernel
theorem dd_lw_activate_11 : decode method_17_code 11 = .ok (.lconst 1, 1) := by decide +kernel
theorem dd_lw_activate_12 : decode method_17_code 12 = .ok (.goto 4, 3) := by decide +kernel
theorem dd_lw_activate_15 : decode method_17_code 15 = .ok (.lconst 0, 1) := by decide +kernel
theorem dd_lw_activate_16 : decode method_17_code 16 = .ok (.lastore, 1) := by decide +kernel
theorem dd_lw_activate_17 : decode method_17_code 17 = .ok (.goto 15, 3) := by decide +kernel
theorem dd_lw_activate_20 : decode method_17_code 20 = .ok (.astore 4, 2) := by decide +kernel
theorem dd_lw_activate_22 : decode method_17_code 22 = .ok (.iconst 1, 1) := by decide +kernel
theorem dd_lw_activate_23 : decode method_17_code 23 = .ok (.ireturn, 1) := by decide +kernel
theorem dd_lw_activate_24 : decode method_17_code 24 = .ok (.astore 4, 2) := by decide +kernel
theorem dd_lw_activate_26 : decode method_17_code 26 = .ok (.iconst 2, 1) := by decide +kernel
theorem dd_lw_activate_27 : decode method_17_code 27 = .ok (.ireturn, 1) := by decide +kernel
theorem dd_lw_activate_28 : decode method_17_code 28 = .ok (.astore 4, 2) := by decide +kernel
theorem dd_lw_activate_30 : decode method_17_code 30 = .ok (.iconst 3, 1) := by decide +kernel
theorem dd_lw_activate_31 : decode method_17_code 31 = .ok (.ireturn, 1) := by decide +kernel
theorem dd_lw_activate_32 : decode method_17_code 32 = .ok (.iconst 0, 1) := by decide +kernel
theorem dd_lw_activate_33 : decode method_17_code 33 = .ok (.ireturn, 1) := by decide +kernel
theorem dd_ra_activate_0 : decode prog_1_method_16_code 0 = .ok (.aload_n 0, 1) := by decide +kernel
theorem dd_ra_activate_1 : decode prog_1_method_16_code 1 = .ok (.iload_n 1, 1) := by decide +kernel
theorem dd_ra_activate_2 : decode prog_1_method_16_code 2 = .ok (.invokevirtual 158, 3) := by decide +kernel
theorem dd_ra_activate_5 : decode prog_1_method_16_code 5 = .ok (.aload_n 0, 1) := by decide +kernel
theorem dd_ra_activate_6 : decode prog_1_method_16_code 6 = .ok (.iload_n 2, 1) := by decide +kernel
theorem dd_ra_activate_7 : decode prog_1_method_16_code 7 = .ok (.invokevirtual 60, 3) := by decide +kernel
theorem dd_ra_activate_10 : decode prog_1_method_16_code 10 = .ok (.aload_n 0, 1) := by decide +kernel
theorem dd_ra_activate_11 : decode prog_1_method_16_code 11 = .ok (.aload_n 0, 1) := by decide +kernel
theorem dd_ra_activate_12 : decode prog_1_method_16_code 12 = .ok (.getfield 32, 3) := by decide +kernel
theorem dd_ra_activate_15 : decode prog_1_method_16_code 15 = .ok (.iload_n 1, 1) := by decide +kernel
theorem dd_ra_activate_16 : decode prog_1_method_16_code 16 = .ok (.iaload, 1) := by decide +kernel
theorem dd_ra_activate_17 : decode prog_1_method_16_code 17 = .ok (.invokevirtual 73, 3) := by decide +kernel
theorem dd_ra_activate_20 : decode prog_1_method_16_code 20 = .ok (.iload_n 2, 1) := by decide +kernel
theorem dd_ra_activate_21 : decode prog_1_method_16_code 21 = .ok (.invokestatic 91, 3) := by decide +kernel
theorem dd_ra_activate_24 : decode prog_1_method_16_code 24 = .ok (.ifCond .ne 13, 3) := by decide +kernel
theorem dd_ra_activate_27 : decode prog_1_method_16_code 27 = .ok (.new 161, 3) := by decide +kernel
theorem dd_ra_activate_30 : decode prog_1_method_16_code 30 = .ok (.dup, 1) := by decide +kernel
theorem dd_ra_activate_31 : decode prog_1_method_16_code 31 = .ok (.ldc 163, 2) := by decide +kernel
theorem dd_ra_activate_33 : decode prog_1_method_16_code 33 = .ok (.invokespecial 165, 3) := by decide +kernel
theorem dd_ra_activate_36 : decode prog_1_method_16_code 36 = .ok (.athrow, 1) := by decide +kernel
theorem dd_ra_activate_37 : decode prog_1_method_16_code 37 = .ok (.aload_n 0, 1) := by decide +kernel
theorem dd_ra_activate_38 : decode prog_1_method_16_code 38 = .ok (.getfield 35, 3) := by decide +kernel
theorem dd_ra_activate_41 : decode prog_1_method_16_code 41 = .ok (.iload_n 1, 1) := by decide +kernel
theorem dd_ra_activate_42 : decode prog_1_method_16_code 42 = .ok (.iaload, 1) := by decide +kernel
theorem dd_ra_activate_43 : decode prog_1_method_16_code 43 = .ok (.iconst 1, 1) := by decide +kernel
theorem dd_ra_activate_44 : decode prog_1_method_16_code 44 = .ok (.iload_n 2, 1) := by decide +kernel
theorem dd_ra_activate_45 : decode prog_1_method_16_code 45 = .ok (.ishl, 1) := by decide +kernel
theorem dd_ra_activate_46 : decode prog_1_method_16_code 46 = .ok (.ior, 1) := by decide +kernel
theorem dd_ra_activate_47 : decode prog_1_method_16_code 47 = .ok (.istore_n 3, 1) := by decide +kernel
theorem dd_ra_activate_48 : decode prog_1_method_16_code 48 = .ok (.aload_n 0, 1) := by decide +kernel
theorem dd_ra_activate_49 : decode prog_1_method_16_code 49 = .ok (.getfield 12, 3) := by decide +kernel
theorem dd_ra_activate_52 : decode prog_1_method_16_code 52 = .ok (.getfield 99, 3) := by decide +kernel
theorem dd_ra_activate_55 : decode prog_1_method_16_code 55 = .ok (.iload_n 3, 1) := by decide +kernel
theorem dd_ra_activate_56 : decode prog_1_method_16_code 56 = .ok (.invokestatic 166, 3) := by decide +kernel
theorem dd_ra_activate_59 : decode prog_1_method_16_code 59 = .ok (.ifCond .ne 13, 3) := by decide +kernel
theorem dd_ra_activate_62 : decode prog_1_method_16_code 62 = .ok (.new 48, 3) := by decide +kernel
theorem dd_ra_activate_65 : decode prog_1_method_16_code 65 = .ok (.dup, 1) := by decide +kernel
theorem dd_ra_activate_66 : decode prog_1_method_16_code 66 = .ok (.ldc 170, 2) := by decide +kernel
theorem dd_ra_activate_68 : decode prog_1_method_16_code 68 = .ok (.invokespecial 52, 3) := by decide +kernel
theorem dd_ra_activate_71 : decode prog_1_method_16_code 71 = .ok (.athrow, 1) := by decide +kernel
theorem dd_ra_activate_72 : decode prog_1_method_16_code 72 = .ok (.iload_n 3, 1) := by decide +kernel
theorem dd_ra_activate_73 : decode prog_1_method_16_code 73 = .ok (.aload_n 0, 1) := by decide +kernel
theorem dd_ra_activate_74 : decode prog_1_method_16_code 74 = .ok (.getfield 35, 3) := by decide +kernel
theorem dd_ra_activate_77 : decode prog_1_method_16_code 77 = .ok (.iload_n 1, 1) := by decide +kernel
theorem dd_ra_activate_78 : decode prog_1_method_16_code 78 = .ok (.iaload, 1) := by decide +kernel
theorem dd_ra_activate_79 : decode prog_1_method_16_code 79 = .ok (.if_icmp .eq 7, 3) := by decide +kernel
theorem dd_ra_activate_82 : decode prog_1_method_16_code 82 = .ok (.iconst 1, 1) := by decide +kernel
theorem dd_ra_activate_83 : decode prog_1_method_16_code 83 = .ok (.goto 4, 3) := by decide +kernel
theorem dd_ra_activate_86 : decode prog_1_method_16_code 86 = .ok (.iconst 0, 1) := by decide +kernel
theorem dd_ra_activate_87 : decode prog_1_method_16_code 87 = .ok (.istore 4, 2) := by decide +kernel
theorem dd_ra_activate_89 : decode prog_1_method_16_code 89 = .ok (.aload_n 0, 1) := by decide +kernel
theorem dd_ra_activate_90 : decode prog_1_method_16_code 90 = .ok (.getfield 35, 3) := by decide +kernel
theorem dd_ra_activate_93 : decode prog_1_method_16_code 93 = .ok (.iload_n 1, 1) := by decide +kernel
theorem dd_ra_activate_94 : decode prog_1_method_16_code 94 = .ok (.iload_n 3, 1) := by decide +kernel
theorem dd_ra_activate_95 : decode prog_1_method_16_code 95 = .ok (.iastore, 1) := by decide +kernel
theorem dd_ra_activate_96 : decode prog_1_method_16_code 96 = .ok (.iload 4, 2) := by decide +kernel
theorem dd_ra_activate_98 : decode prog_1_method_16_code 98 = .ok (.ireturn, 1) := by decide +kernel
theorem dd_lw_rest_0 : decode method_18_code 0 = .ok (.aload_n 3, 1) := by decide +kernel
theorem dd_lw_rest_1 : decode method_18_code 1 = .ok (.iconst 0, 1) := by decide +kernel
theorem dd_lw_rest_2 : decode method_18_code 2 = .ok (.aload_n 0, 1) := by decide +kernel
theorem dd_lw_rest_3 : decode method_18_code 3 = .ok (.iload_n 1, 1) := by decide +kernel
theorem dd_lw_rest_4 : decode method_18_code 4 = .ok (.iload_n 2, 1) := by decide +kernel
theorem dd_lw_rest_5 : decode method_18_code 5 = .ok (.invokevirtual 71, 3) := by decide +kernel
theorem dd_lw_rest_8 : decode method_18_code 8 = .ok (.ifCond .eq 7, 3) := by decide +kernel
theorem dd_lw_rest_11 : decode method_18_code 11 = .ok (.lconst 1, 1) := by decide +kernel
theorem dd_lw_rest_12 : decode method_18_code 12 = .ok (.goto 4, 3) := by decide +kernel
theorem dd_lw_rest_15 : decode method_18_code 15 = .ok (.lconst 0, 1) := by decide +kernel
theorem dd_lw_rest_16 : decode method_18_code 16 = .ok (.lastore, 1) := by decide +kernel
theorem dd_lw_rest_17 : decode method_18_code 17 = .ok (.goto 7, 3) := by decide +kernel
theorem dd_lw_rest_20 : decode method_18_code 20 = .ok (.astore 4, 2) := by decide +kernel
theorem dd_lw_rest_22 : decode method_18_code 22 = .ok (.iconst 1, 1) := by decide +kernel
theorem dd_lw_rest_23 : decode method_18_code 23 = .ok (.ireturn, 1) := by decide +kernel
theorem dd_lw_rest_24 : decode method_18_code 24 = .ok (.iconst 0, 1) := by decide +kernel
theorem dd_lw_rest_25 : decode method_18_code 25 = .ok (.ireturn, 1) := by decide +kernel
theorem dd_ra_rest_0 : decode prog_1_method_17_code 0 = .ok (.aload_n 0, 1) := by decide +kernel
theorem dd_ra_rest_1 : decode prog_1_method_17_code 1 = .ok (.iload_n 1, 1) := by decide +kernel
theorem dd_ra_rest_2 : decode prog_1_method_17_code 2 = .ok (.invokevirtual 158, 3) := by decide +kernel
theorem dd_ra_rest_5 : decode prog_1_method_17_code 5 = .ok (.aload_n 0, 1) := by decide +kernel
theorem dd_ra_rest_6 : decode prog_1_method_17_code 6 = .ok (.iload_n 2, 1) := by decide +kernel
theorem dd_ra_rest_7 : decode prog_1_method_17_code 7 = .ok (.invokevirtual 60, 3) := by decide +kernel
theorem dd_ra_rest_10 : decode prog_1_method_17_code 10 = .ok (.aload_n 0, 1) := by decide +kernel
theorem dd_ra_rest_11 : decode prog_1_method_17_code 11 = .ok (.getfield 35, 3) := by decide +kernel
theorem dd_ra_rest_14 : decode prog_1_method_17_code 14 = .ok (.iload_n 1, 1) := by decide +kernel
theorem dd_ra_rest_15 : decode prog_1_method_17_code 15 = .ok (.iaload, 1) := by decide +kernel
theorem dd_ra_rest_16 : decode prog_1_method_17_code 16 = .ok (.iload_n 2, 1) := by decide +kernel
theorem dd_ra_rest_17 : decode prog_1_method_17_code 17 = .ok (.invokestatic 91, 3) := by decide +kernel
theorem dd_ra_rest_20 : decode prog_1_method_17_code 20 = .ok (.istore_n 3, 1) := by decide +kernel
theorem dd_ra_rest_21 : decode prog_1_method_17_code 21 = .ok (.aload_n 0, 1) := by decide +kernel
theorem dd_ra_rest_22 : decode prog_1_method_17_code 22 = .ok (.getfield 35, 3) := by decide +kernel
theorem dd_ra_rest_25 : decode prog_1_method_17_code 25 = .ok (.iload_n 1, 1) := by decide +kernel
theorem dd_ra_rest_26 : decode prog_1_method_17_code 26 = .ok (.dup2, 1) := by decide +kernel
theorem dd_ra_rest_27 : decode prog_1_method_17_code 27 = .ok (.iaload, 1) := by decide +kernel
theorem dd_ra_rest_28 : decode prog_1_method_17_code 28 = .ok (.iconst 1, 1) := by decide +kernel
theorem dd_ra_rest_29 : decode prog_1_method_17_code 29 = .ok (.iload_n 2, 1) := by decide +kernel
theorem dd_ra_rest_30 : decode prog_1_method_17_code 30 = .ok (.ishl, 1) := by decide +kernel
theorem dd_ra_rest_31 : decode prog_1_method_17_code 31 = .ok (.iconst (-1), 1) := by decide +kernel
theorem dd_ra_rest_32 : decode prog_1_method_17_code 32 = .ok (.ixor, 1) := by decide +kernel
theorem dd_ra_rest_33 : decode prog_1_method_17_code 33 = .ok (.iand, 1) := by decide +kernel
theorem dd_ra_rest_34 : decode prog_1_method_17_code 34 = .ok (.iastore, 1) := by decide +kernel
theorem dd_ra_rest_35 : decode prog_1_method_17_code 35 = .ok (.iload_n 3, 1) := by decide +kernel
theorem dd_ra_rest_36 : decode prog_1_method_17_code 36 = .ok (.ireturn, 1) := by decide +kernel
theorem dd_lw_active_0 : decode method_19_code 0 = .ok (.aload_n 2, 1) := by decide +kernel
theorem dd_lw_active_1 : decode method_19_code 1 = .ok (.iconst 0, 1) := by decide +kernel
theorem dd_lw_active_2 : decode method_19_code 2 = .ok (.aload_n 0, 1) := by decide +kernel
theorem dd_lw_active_3 : decode method_19_code 3 = .ok (.iload_n 1, 1) := by decide +kernel
theorem dd_lw_active_4 : decode method_19_code 4 = .ok (.invokevirtual 74, 3) := by decide +kernel
theorem dd_lw_active_7 : decode method_19_code 7 = .ok (.i2l, 1) := by decide +kernel
theorem dd_lw_active_8 : decode method_19_code 8 = .ok (.lastore, 1) := by decide +kernel
theorem dd_lw_active_9 : decode method_19_code 9 = .ok (.goto 6, 3) := by decide +kernel
theorem dd_lw_active_12 : decode method_19_code 12 = .ok (.astore_n 3, 1) := by decide +kernel
theorem dd_lw_active_13 : decode method_19_code 13 = .ok (.iconst 1, 1) := by decide +kernel
theorem dd_lw_active_14 : decode method_19_code 14 = .ok (.ireturn, 1) := by decide +kernel
theorem dd_lw_active_15 : decode method_19_code 15 = .ok (.iconst 0, 1) := by decide +kernel
theorem dd_lw_active_16 : decode method_19_code 16 = .ok (.ireturn, 1) := by decide +kernel
theorem dd_ra_active_0 : decode prog_1_method_18_code 0 = .ok (.aload_n 0, 1) := by decide +kernel
theorem dd_ra_active_1 : decode prog_1_method_18_code 1 = .ok (.iload_n 1, 1) := by decide +kernel
theorem dd_ra_active_2 : decode prog_1_method_18_code 2 = .ok (.invokevirtual 158, 3) := by decide +kernel
theorem dd_ra_active_5 : decode prog_1_method_18_code 5 = .ok (.aload_n 0, 1) := by decide +kernel
theorem dd_ra_active_6 : decode prog_1_method_18_code 6 = .ok (.getfield 35, 3) := by decide +kernel
theorem dd_ra_active_9 : decode prog_1_method_18_code 9 = .ok (.iload_n 1, 1) := by decide +kernel
theorem dd_ra_active_10 : decode prog_1_method_18_code 10 = .ok (.iaload, 1) := by decide +kernel
theorem dd_ra_active_11 : decode prog_1_method_18_code 11 = .ok (.ireturn, 1) := by decide +kernel
theorem dd_lw_may_0 : decode method_20_code 0 = .ok (.aload_n 3, 1) := by decide +kernel
theorem dd_lw_may_1 : decode method_20_code 1 = .ok (.iconst 0, 1) := by decide +kernel
theorem dd_lw_may_2 : decode method_20_code 2 = .ok (.aload_n 0, 1) := by decide +kernel
theorem dd_lw_may_3 : decode method_20_code 3 = .ok (.iload_n 1, 1) := by decide +kernel
theorem dd_lw_may_4 : decode method_20_code 4 = .ok (.iload_n 2, 1) := by decide +kernel
theorem dd_lw_may_5 : decode method_20_code 5 = .ok (.invokevirtual 77, 3) := by decide +kernel
theorem dd_lw_may_8 : decode method_20_code 8 = .ok (.ifCond .eq 7, 3) := by decide +kernel
theorem dd_lw_may_11 : decode method_20_code 11 = .ok (.lconst 1, 1) := by decide +kernel
theorem dd_lw_may_12 : decode method_20_code 12 = .ok (.goto 4, 3) := by decide +kernel
theorem dd_lw_may_15 : decode method_20_code 15 = .ok (.lconst 0, 1) := by decide +kernel
theorem dd_lw_may_16 : decode method_20_code 16 = .ok (.lastore, 1) := by decide +kernel
theorem dd_lw_may_17 : decode method_20_code 17 = .ok (.goto 7, 3) := by decide +kernel
theorem dd_lw_may_20 : decode method_20_code 20 = .ok (.astore 4, 2) := by decide +kernel
theorem dd_lw_may_22 : decode method_20_code 22 = .ok (.iconst 1, 1) := by decide +kernel
theorem dd_lw_may_23 : decode method_20_code 23 = .ok (.ireturn, 1) := by decide +kernel
theorem dd_lw_may_24 : decode method_20_code 24 = .ok (.iconst 0, 1) := by decide +kernel
theorem dd_lw_may_25 : decode method_20_code 25 = .ok (.ireturn, 1) := by decide +kernel
theorem dd_ra_may_0 : decode prog_1_method_19_code 0 = .ok (.aload_n 0, 1) := by decide +kernel
theorem dd_ra_may_1 : decode prog_1_method_19_code 1 = .ok (.iload_n 1, 1) := by decide +kernel
theorem dd_ra_may_2 : decode prog_1_method_19_code 2 = .ok (.invokevirtual 158, 3) := by decide +kernel
theorem dd_ra_may_5 : decode prog_1_method_19_code 5 = .ok (.iload_n 2, 1) := by decide +kernel
theorem dd_ra_may_6 : decode prog_1_method_19_code 6 = .ok (.invokestatic 88, 3) := by decide +kernel
theorem dd_ra_may_9 : decode prog_1_method_19_code 9 = .ok (.aload_n 0, 1) := by decide +kernel
theorem dd_ra_may_10 : decode prog_1_method_19_code 10 = .ok (.getfield 12, 3) := by decide +kernel
theorem dd_ra_may_13 : decode prog_1_method_19_code 13 = .ok (.getfield 172, 3) := by decide +kernel
theorem dd_ra_may_16 : decode prog_1_method_19_code 16 = .ok (.aload_n 0, 1) := by decide +kernel
theorem dd_ra_may_17 : decode prog_1_method_19_code 17 = .ok (.getfield 35, 3) := by decide +kernel
theorem dd_ra_may_20 : decode prog_1_method_19_code 20 = .ok (.iload_n 1, 1) := by decide +kernel
theorem dd_ra_may_21 : decode prog_1_method_19_code 21 = .ok (.iaload, 1) := by decide +kernel
theorem dd_ra_may_22 : decode prog_1_method_19_code 22 = .ok (.iaload, 1) := by decide +kernel
theorem dd_ra_may_23 : decode prog_1_method_19_code 23 = .ok (.istore_n 3, 1) := by decide +kernel
theorem dd_ra_may_24 : decode prog_1_method_19_code 24 = .ok (.iconst 0, 1) := by decide +kernel
theorem dd_ra_may_25 : decode prog_1_method_19_code 25 = .ok (.istore 4, 2) := by decide +kernel
theorem dd_ra_may_27 : decode prog_1_method_19_code 27 = .ok (.iload 4, 2) := by decide +kernel
theorem dd_ra_may_29 : decode prog_1_method_19_code 29 = .ok (.aload_n 0, 1) := by decide +kernel
theorem dd_ra_may_30 : decode prog_1_method_19_code 30 = .ok (.getfield 12, 3) := by decide +kernel
theorem dd_ra_may_33 : decode prog_1_method_19_code 33 = .ok (.getfield 44, 3) := by decide +kernel
theorem dd_ra_may_36 : decode prog_1_method_19_code 36 = .ok (.if_icmp .ge 34, 3) := by decide +kernel
theorem dd_ra_may_39 : decode prog_1_method_19_code 39 = .ok (.iload_n 3, 1) := by decide +kernel
theorem dd_ra_may_40 : decode prog_1_method_19_code 40 = .ok (.iload 4, 2) := by decide +kernel
theorem dd_ra_may_42 : decode prog_1_method_19_code 42 = .ok (.invokestatic 91, 3) := by decide +kernel
theorem dd_ra_may_45 : decode prog_1_method_19_code 45 = .ok (.ifCond .eq 19, 3) := by decide +kernel
theorem dd_ra_may_48 : decode prog_1_method_19_code 48 = .ok (.aload_n 0, 1) := by decide +kernel
theorem dd_ra_may_49 : decode prog_1_method_19_code 49 = .ok (.getfield 29, 3) := by decide +kernel
theorem dd_ra_may_52 : decode prog_1_method_19_code 52 = .ok (.iload 4, 2) := by decide +kernel
theorem dd_ra_may_54 : decode prog_1_method_19_code 54 = .ok (.iaload, 1) := by decide +kernel
theorem dd_ra_may_55 : decode prog_1_method_19_code 55 = .ok (.iload_n 2, 1) := by decide +kernel
theorem dd_ra_may_56 : decode prog_1_method_19_code 56 = .ok (.invokestatic 91, 3) := by decide +kernel
theorem dd_ra_may_59 : decode prog_1_method_19_code 59 = .ok (.ifCond .eq 5, 3) := by decide +kernel
theorem dd_ra_may_62 : decode prog_1_method_19_code 62 = .ok (.iconst 1, 1) := by decide +kernel
theorem dd_ra_may_63 : decode prog_1_method_19_code 63 = .ok (.ireturn, 1) := by decide +kernel
theorem dd_ra_may_64 : decode prog_1_method_19_code 64 = .ok (.iinc 4 1, 3) := by decide +kernel
theorem dd_ra_may_67 : decode prog_1_method_19_code 67 = .ok (.goto (-40), 3) := by decide +kernel
theorem dd_ra_may_70 : decode prog_1_method_19_code 70 = .ok (.iconst 0, 1) := by decide +kernel
theorem dd_ra_may_71 : decode prog_1_method_19_code 71 = .ok (.ireturn, 1) := by decide +kernel
theorem dd_lw_distance_0 : decode method_21_code 0 = .ok (.aload_n 3, 1) := by decide +kernel
theorem dd_lw_distance_1 : decode method_21_code 1 = .ok (.iconst 0, 1) := by decide +kernel
theorem dd_lw_distance_2 : decode method_21_code 2 = .ok (.aload_n 0, 1) := by decide +kernel
theorem dd_lw_distance_3 : decode method_21_code 3 = .ok (.iload_n 1, 1) := by decide +kernel
theorem dd_lw_distance_4 : decode method_21_code 4 = .ok (.iload_n 2, 1) := by decide +kernel
theorem dd_lw_distance_5 : decode method_21_code 5 = .ok (.invokevirtual 80, 3) := by decide +kernel
theorem dd_lw_distance_8 : decode method_21_code 8 = .ok (.i2l, 1) := by decide +kernel
theorem dd_lw_distance_9 : decode method_21_code 9 = .ok (.lastore, 1) := by decide +kernel
theorem dd_lw_distance_10 : decode method_21_code 10 = .ok (.goto 11, 3) := by decide +kernel
theorem dd_lw_distance_13 : decode method_21_code 13 = .ok (.astore 4, 2) := by decide +kernel
theorem dd_lw_distance_15 : decode method_21_code 15 = .ok (.iconst 1, 1) := by decide +kernel
theorem dd_lw_distance_16 : decode method_21_code 16 = .ok (.ireturn, 1) := by decide +kernel
theorem dd_lw_distance_17 : decode method_21_code 17 = .ok (.astore 4, 2) := by decide +kernel
theorem dd_lw_distance_19 : decode method_21_code 19 = .ok (.iconst 2, 1) := by decide +kernel
theorem dd_lw_distance_20 : decode method_21_code 20 = .ok (.ireturn, 1) := by decide +kernel
theorem dd_lw_distance_21 : decode method_21_code 21 = .ok (.iconst 0, 1) := by decide +kernel
theorem dd_lw_distance_22 : decode method_21_code 22 = .ok (.ireturn, 1) := by decide +kernel
theorem dd_ra_distance_0 : decode prog_1_method_20_code 0 = .ok (.aload_n 0, 1) := by decide +kernel
theorem dd_ra_distance_1 : decode prog_1_method_20_code 1 = .ok (.iload_n 1, 1) := by decide +kernel
theorem dd_ra_distance_2 : decode prog_1_method_20_code 2 = .ok (.iload_n 2, 1) := by decide +kernel
theorem dd_ra_distance_3 : decode prog_1_method_20_code 3 = .ok (.invokevirtual 175, 3) := by decide +kernel
theorem dd_ra_distance_6 : decode prog_1_method_20_code 6 = .ok (.aload_n 0, 1) := by decide +kernel
theorem dd_ra_distance_7 : decode prog_1_method_20_code 7 = .ok (.getfield 21, 3) := by decide +kernel
theorem dd_ra_distance_10 : decode prog_1_method_20_code 10 = .ok (.aload_n 0, 1) := by decide +kernel
theorem dd_ra_distance_11 : decode prog_1_method_20_code 11 = .ok (.getfield 25, 3) := by decide +kernel
theorem dd_ra_distance_14 : decode prog_1_method_20_code 14 = .ok (.aload_n 0, 1) := by decide +kernel
theorem dd_ra_distance_15 : decode prog_1_method_20_code 15 = .ok (.getfield 55, 3) := by decide +kernel
theorem dd_ra_distance_18 : decode prog_1_method_20_code 18 = .ok (.iload_n 1, 1) := by decide +kernel
theorem dd_ra_distance_19 : decode prog_1_method_20_code 19 = .ok (.iload_n 2, 1) := by decide +kernel
theorem dd_ra_distance_20 : decode prog_1_method_20_code 20 = .ok (.invokevirtual 178, 3) := by decide +kernel
theorem dd_ra_distance_23 : decode prog_1_method_20_code 23 = .ok (.istore_n 3, 1) := by decide +kernel
theorem dd_ra_distance_24 : decode prog_1_method_20_code 24 = .ok (.iload_n 3, 1) := by decide +kernel
theorem dd_ra_distance_25 : decode prog_1_method_20_code 25 = .ok (.iconst (-1), 1) := by decide +kernel
theorem dd_ra_distance_26 : decode prog_1_method_20_code 26 = .ok (.if_icmp .ne 7, 3) := by decide +kernel
theorem dd_ra_distance_29 : decode prog_1_method_20_code 29 = .ok (.iconst (-1), 1) := by decide +kernel
theorem dd_ra_distance_30 : decode prog_1_method_20_code 30 = .ok (.goto 11, 3) := by decide +kernel
theorem dd_ra_distance_33 : decode prog_1_method_20_code 33 = .ok (.aload_n 0, 1) := by decide +kernel
theorem dd_ra_distance_34 : decode prog_1_method_20_code 34 = .ok (.getfield 21, 3) := by decide +kernel
theorem dd_ra_distance_37 : decode prog_1_method_20_code 37 = .ok (.iload_n 3, 1) := by decide +kernel
theorem dd_ra_distance_38 : decode prog_1_method_20_code 38 = .ok (.invokevirtual 182, 3) := by decide +kernel
theorem dd_ra_distance_41 : decode prog_1_method_20_code 41 = .ok (.ireturn, 1) := by decide +kernel
theorem dd_ra_checkQuestion_0 : decode prog_1_method_30_code 0 = .ok (.aload_n 0, 1) := by decide +kernel
theorem dd_ra_checkQuestion_1 : decode prog_1_method_30_code 1 = .ok (.iload_n 1, 1) := by decide +kernel
theorem dd_ra_checkQuestion_2 : decode prog_1_method_30_code 2 = .ok (.invokevirtual 143, 3) := by decide +kernel
theorem dd_ra_checkQuestion_5 : decode prog_1_method_30_code 5 = .ok (.aload_n 0, 1) := by decide +kernel
theorem dd_ra_checkQuestion_6 : decode prog_1_method_30_code 6 = .ok (.iload_n 2, 1) := by decide +kernel
theorem dd_ra_checkQuestion_7 : decode prog_1_method_30_code 7 = .ok (.invokevirtual 60, 3) := by decide +kernel
theorem dd_ra_checkQuestion_10 : decode prog_1_method_30_code 10 = .ok (.aload_n 0, 1) := by decide +kernel
theorem dd_ra_checkQuestion_11 : decode prog_1_method_30_code 11 = .ok (.getfield 55, 3) := by decide +kernel
theorem dd_ra_checkQuestion_14 : decode prog_1_method_30_code 14 = .ok (.aload_n 0, 1) := by decide +kernel
theorem dd_ra_checkQuestion_15 : decode prog_1_method_30_code 15 = .ok (.getfield 12, 3) := by decide +kernel
theorem dd_ra_checkQuestion_18 : decode prog_1_method_30_code 18 = .ok (.getfield 44, 3) := by decide +kernel
theorem dd_ra_checkQuestion_21 : decode prog_1_method_30_code 21 = .ok (.imul, 1) := by decide +kernel
theorem dd_ra_checkQuestion_22 : decode prog_1_method_30_code 22 = .ok (.bipush 12, 2) := by decide +kernel
theorem dd_ra_checkQuestion_24 : decode prog_1_method_30_code 24 = .ok (.if_icmp .le 13, 3) := by decide +kernel
theorem dd_ra_checkQuestion_27 : decode prog_1_method_30_code 27 = .ok (.new 161, 3) := by decide +kernel
theorem dd_ra_checkQuestion_30 : decode prog_1_method_30_code 30 = .ok (.dup, 1) := by decide +kernel
theorem dd_ra_checkQuestion_31 : decode prog_1_method_30_code 31 = .ok (.ldc 204, 2) := by decide +kernel
theorem dd_ra_checkQuestion_33 : decode prog_1_method_30_code 33 = .ok (.invokespecial 165, 3) := by decide +kernel
theorem dd_ra_checkQuestion_36 : decode prog_1_method_30_code 36 = .ok (.athrow, 1) := by decide +kernel
theorem dd_ra_checkQuestion_37 : decode prog_1_method_30_code 37 = .ok (.return_, 1) := by decide +kernel
theorem dd_se_nearestGoal_0 : decode prog_5_method_2_code 0 = .ok (.aload_n 0, 1) := by decide +kernel
theorem dd_se_nearestGoal_1 : decode prog_5_method_2_code 1 = .ok (.iload_n 2, 1) := by decide +kernel
theorem dd_se_nearestGoal_2 : decode prog_5_method_2_code 2 = .ok (.putfield 22, 3) := by decide +kernel
theorem dd_se_nearestGoal_5 : decode prog_5_method_2_code 5 = .ok (.aload_n 0, 1) := by decide +kernel
theorem dd_se_nearestGoal_6 : decode prog_5_method_2_code 6 = .ok (.aload_n 1, 1) := by decide +kernel
theorem dd_se_nearestGoal_7 : decode prog_5_method_2_code 7 = .ok (.invokevirtual 26, 3) := by decide +kernel
theorem dd_se_nearestGoal_10 : decode prog_5_method_2_code 10 = .ok (.iconst 0, 1) := by decide +kernel
theorem dd_se_nearestGoal_11 : decode prog_5_method_2_code 11 = .ok (.istore 5, 2) := by decide +kernel
theorem dd_se_nearestGoal_13 : decode prog_5_method_2_code 13 = .ok (.iload 5, 2) := by decide +kernel
theorem dd_se_nearestGoal_15 : decode prog_5_method_2_code 15 = .ok (.aload_n 0, 1) := by decide +kernel
theorem dd_se_nearestGoal_16 : decode prog_5_method_2_code 16 = .ok (.getfield 30, 3) := by decide +kernel
theorem dd_se_nearestGoal_19 : decode prog_5_method_2_code 19 = .ok (.if_icmp .ge 50, 3) := by decide +kernel
theorem dd_se_nearestGoal_22 : decode prog_5_method_2_code 22 = .ok (.iload 5, 2) := by decide +kernel
theorem dd_se_nearestGoal_24 : decode prog_5_method_2_code 24 = .ok (.sipush 4096, 3) := by decide +kernel
theorem dd_se_nearestGoal_27 : decode prog_5_method_2_code 27 = .ok (.if_icmp .ge 42, 3) := by decide +kernel
theorem dd_se_nearestGoal_30 : decode prog_5_method_2_code 30 = .ok (.aload_n 0, 1) := by decide +kernel
theorem dd_se_nearestGoal_31 : decode prog_5_method_2_code 31 = .ok (.getfield 15, 3) := by decide +kernel
theorem dd_se_nearestGoal_34 : decode prog_5_method_2_code 34 = .ok (.iload 5, 2) := by decide +kernel
theorem dd_se_nearestGoal_36 : decode prog_5_method_2_code 36 = .ok (.iaload, 1) := by decide +kernel
theorem dd_se_nearestGoal_37 : decode prog_5_method_2_code 37 = .ok (.istore 6, 2) := by decide +kernel
theorem dd_se_nearestGoal_39 : decode prog_5_method_2_code 39 = .ok (.aload_n 0, 1) := by decide +kernel
theorem dd_se_nearestGoal_40 : decode prog_5_method_2_code 40 = .ok (.iload 6, 2) := by decide +kernel
theorem dd_se_nearestGoal_42 : decode prog_5_method_2_code 42 = .ok (.iload_n 3, 1) := by decide +kernel
theorem dd_se_nearestGoal_43 : decode prog_5_method_2_code 43 = .ok (.invokevirtual 33, 3) := by decide +kernel
theorem dd_se_nearestGoal_46 : decode prog_5_method_2_code 46 = .ok (.iload 4, 2) := by decide +kernel
theorem dd_se_nearestGoal_48 : decode prog_5_method_2_code 48 = .ok (.invokestatic 37, 3) := by decide +kernel
theorem dd_se_nearestGoal_51 : decode prog_5_method_2_code 51 = .ok (.ifCond .eq 6, 3) := by decide +kernel
theorem dd_se_nearestGoal_54 : decode prog_5_method_2_code 54 = .ok (.iload 6, 2) := by decide +kernel
theorem dd_se_nearestGoal_56 : decode prog_5_method_2_code 56 = .ok (.ireturn, 1) := by decide +kernel
theorem dd_se_nearestGoal_57 : decode prog_5_method_2_code 57 = .ok (.aload_n 0, 1) := by decide +kernel
theorem dd_se_nearestGoal_58 : decode prog_5_method_2_code 58 = .ok (.iload 6, 2) := by decide +kernel
theorem dd_se_nearestGoal_60 : decode prog_5_method_2_code 60 = .ok (.invokevirtual 41, 3) := by decide +kernel
theorem dd_se_nearestGoal_63 : decode prog_5_method_2_code 63 = .ok (.iinc 5 1, 3) := by decide +kernel
theorem dd_se_nearestGoal_66 : decode prog_5_method_2_code 66 = .ok (.goto (-53), 3) := by decide +kernel
theorem dd_se_nearestGoal_69 : decode prog_5_method_2_code 69 = .ok (.iconst (-1), 1) := by decide +kernel
theorem dd_se_nearestGoal_70 : decode prog_5_method_2_code 70 = .ok (.ireturn, 1) := by decide +kernel
theorem dd_se_begin_0 : decode prog_5_method_5_code 0 = .ok (.iconst 0, 1) := by decide +kernel
theorem dd_se_begin_1 : decode prog_5_method_5_code 1 = .ok (.istore_n 2, 1) := by decide +kernel
theorem dd_se_begin_2 : decode prog_5_method_5_code 2 = .ok (.iconst 0, 1) := by decide +kernel
theorem dd_se_begin_3 : decode prog_5_method_5_code 3 = .ok (.istore_n 3, 1) := by decide +kernel
theorem dd_se_begin_4 : decode prog_5_method_5_code 4 = .ok (.iload_n 3, 1) := by decide +kernel
theorem dd_se_begin_5 : decode prog_5_method_5_code 5 = .ok (.aload_n 0, 1) := by decide +kernel
theorem dd_se_begin_6 : decode prog_5_method_5_code 6 = .ok (.getfield 22, 3) := by decide +kernel
theorem dd_se_begin_9 : decode prog_5_method_5_code 9 = .ok (.if_icmp .ge 22, 3) := by decide +kernel
theorem dd_se_begin_12 : decode prog_5_method_5_code 12 = .ok (.iload_n 2, 1) := by decide +kernel
theorem dd_se_begin_13 : decode prog_5_method_5_code 13 = .ok (.aload_n 1, 1) := by decide +kernel
theorem dd_se_begin_14 : decode prog_5_method_5_code 14 = .ok (.iload_n 3, 1) := by decide +kernel
theorem dd_se_begin_15 : decode prog_5_method_5_code 15 = .ok (.iaload, 1) := by decide +kernel
theorem dd_se_begin_16 : decode prog_5_method_5_code 16 = .ok (.aload_n 0, 1) := by decide +kernel
theorem dd_se_begin_17 : decode prog_5_method_5_code 17 = .ok (.iload_n 3, 1) := by decide +kernel
theorem dd_se_begin_18 : decode prog_5_method_5_code 18 = .ok (.iconst 0, 1) := by decide +kernel
theorem dd_se_begin_19 : decode prog_5_method_5_code 19 = .ok (.invokevirtual 52, 3) := by decide +kernel
theorem dd_se_begin_22 : decode prog_5_method_5_code 22 = .ok (.ishl, 1) := by decide +kernel
theorem dd_se_begin_23 : decode prog_5_method_5_code 23 = .ok (.ior, 1) := by decide +kernel
theorem dd_se_begin_24 : decode prog_5_method_5_code 24 = .ok (.istore_n 2, 1) := by decide +kernel
theorem dd_se_begin_25 : decode prog_5_method_5_code 25 = .ok (.iinc 3 1, 3) := by decide +kernel
theorem dd_se_begin_28 : decode prog_5_method_5_code 28 = .ok (.goto (-24), 3) := by decide +kernel
theorem dd_se_begin_31 : decode prog_5_method_5_code 31 = .ok (.aload_n 0, 1) := by decide +kernel
theorem dd_se_begin_32 : decode prog_5_method_5_code 32 = .ok (.getfield 19, 3) := by decide +kernel
theorem dd_se_begin_35 : decode prog_5_method_5_code 35 = .ok (.iconst (-1), 1) := by decide +kernel
theorem dd_se_begin_36 : decode prog_5_method_5_code 36 = .ok (.invokestatic 55, 3) := by decide +kernel
theorem dd_se_begin_39 : decode prog_5_method_5_code 39 = .ok (.aload_n 0, 1) := by decide +kernel
theorem dd_se_begin_40 : decode prog_5_method_5_code 40 = .ok (.iconst 0, 1) := by decide +kernel
theorem dd_se_begin_41 : decode prog_5_method_5_code 41 = .ok (.putfield 30, 3) := by decide +kernel
theorem dd_se_begin_44 : decode prog_5_method_5_code 44 = .ok (.aload_n 0, 1) := by decide +kernel
theorem dd_se_begin_45 : decode prog_5_method_5_code 45 = .ok (.iload_n 2, 1) := by decide +kernel
theorem dd_se_begin_46 : decode prog_5_method_5_code 46 = .ok (.bipush (-2), 2) := by decide +kernel
theorem dd_se_begin_48 : decode prog_5_method_5_code 48 = .ok (.invokevirtual 61, 3) := by decide +kernel
theorem dd_se_begin_51 : decode prog_5_method_5_code 51 = .ok (.return_, 1) := by decide +kernel
theorem dd_se_pairBit_0 : decode prog_5_method_13_code 0 = .ok (.iload_n 1, 1) := by decide +kernel
theorem dd_se_pairBit_1 : decode prog_5_method_13_code 1 = .ok (.aload_n 0, 1) := by decide +kernel
theorem dd_se_pairBit_2 : decode prog_5_method_13_code 2 = .ok (.getfield 9, 3) := by decide +kernel
theorem dd_se_pairBit_5 : decode prog_5_method_13_code 5 = .ok (.getfield 71, 3) := by decide +kernel
theorem dd_se_pairBit_8 : decode prog_5_method_13_code 8 = .ok (.imul, 1) := by decide +kernel
theorem dd_se_pairBit_9 : decode prog_5_method_13_code 9 = .ok (.iload_n 2, 1) := by decide +kernel
theorem dd_se_pairBit_10 : decode prog_5_method_13_code 10 = .ok (.iadd, 1) := by decide +kernel
theorem dd_se_pairBit_11 : decode prog_5_method_13_code 11 = .ok (.ireturn, 1) := by decide +kernel
theorem dd_se_reach_0 : decode prog_5_method_8_code 0 = .ok (.aload_n 0, 1) := by decide +kernel
theorem dd_se_reach_1 : decode prog_5_method_8_code 1 = .ok (.getfield 19, 3) := by decide +kernel
theorem dd_se_reach_4 : decode prog_5_method_8_code 4 = .ok (.iload_n 1, 1) := by decide +kernel
theorem dd_se_reach_5 : decode prog_5_method_8_code 5 = .ok (.iload_n 2, 1) := by decide +kernel
theorem dd_se_reach_6 : decode prog_5_method_8_code 6 = .ok (.iastore, 1) := by decide +kernel
theorem dd_se_reach_7 : decode prog_5_method_8_code 7 = .ok (.aload_n 0, 1) := by decide +kernel
theorem dd_se_reach_8 : decode prog_5_method_8_code 8 = .ok (.getfield 15, 3) := by decide +kernel
theorem dd_se_reach_11 : decode prog_5_method_8_code 11 = .ok (.aload_n 0, 1) := by decide +kernel
theorem dd_se_reach_12 : decode prog_5_method_8_code 12 = .ok (.getfield 30, 3) := by decide +kernel
theorem dd_se_reach_15 : decode prog_5_method_8_code 15 = .ok (.iload_n 1, 1) := by decide +kernel
theorem dd_se_reach_16 : decode prog_5_method_8_code 16 = .ok (.iastore, 1) := by decide +kernel
theorem dd_se_reach_17 : decode prog_5_method_8_code 17 = .ok (.aload_n 0, 1) := by decide +kernel
theorem dd_se_reach_18 : decode prog_5_method_8_code 18 = .ok (.dup, 1) := by decide +kernel
theorem dd_se_reach_19 : decode prog_5_method_8_code 19 = .ok (.getfield 30, 3) := by decide +kernel
theorem dd_se_reach_22 : decode prog_5_method_8_code 22 = .ok (.iconst 1, 1) := by decide +kernel
theorem dd_se_reach_23 : decode prog_5_method_8_code 23 = .ok (.iadd, 1) := by decide +kernel
theorem dd_se_reach_24 : decode prog_5_method_8_code 24 = .ok (.putfield 30, 3) := by decide +kernel
theorem dd_se_reach_27 : decode prog_5_method_8_code 27 = .ok (.return_, 1) := by decide +kernel
theorem dd_se_authorizedIn_0 : decode prog_5_method_11_code 0 = .ok (.aload_n 0, 1) := by decide +kernel
theorem dd_se_authorizedIn_1 : decode prog_5_method_11_code 1 = .ok (.getfield 9, 3) := by decide +kernel
theorem dd_se_authorizedIn_4 : decode prog_5_method_11_code 4 = .ok (.getfield 80, 3) := by decide +kernel
theorem dd_se_authorizedIn_7 : decode prog_5_method_11_code 7 = .ok (.aload_n 0, 1) := by decide +kernel
theorem dd_se_authorizedIn_8 : decode prog_5_method_11_code 8 = .ok (.iload_n 1, 1) := by decide +kernel
theorem dd_se_authorizedIn_9 : decode prog_5_method_11_code 9 = .ok (.iload_n 2, 1) := by decide +kernel
theorem dd_se_authorizedIn_10 : decode prog_5_method_11_code 10 = .ok (.invokevirtual 68, 3) := by decide +kernel
theorem dd_se_authorizedIn_13 : decode prog_5_method_11_code 13 = .ok (.iaload, 1) := by decide +kernel
theorem dd_se_authorizedIn_14 : decode prog_5_method_11_code 14 = .ok (.ireturn, 1) := by decide +kernel
theorem dd_se_assignedIn_0 : decode prog_5_method_12_code 0 = .ok (.iload_n 1, 1) := by decide +kernel
theorem dd_se_assignedIn_1 : decode prog_5_method_12_code 1 = .ok (.aload_n 0, 1) := by decide +kernel
theorem dd_se_assignedIn_2 : decode prog_5_method_12_code 2 = .ok (.iload_n 2, 1) := by decide +kernel
theorem dd_se_assignedIn_3 : decode prog_5_method_12_code 3 = .ok (.iconst 0, 1) := by decide +kernel
theorem dd_se_assignedIn_4 : decode prog_5_method_12_code 4 = .ok (.invokevirtual 52, 3) := by decide +kernel
theorem dd_se_assignedIn_7 : decode prog_5_method_12_code 7 = .ok (.ishr, 1) := by decide +kernel
theorem dd_se_assignedIn_8 : decode prog_5_method_12_code 8 = .ok (.iconst 1, 1) := by decide +kernel
theorem dd_se_assignedIn_9 : decode prog_5_method_12_code 9 = .ok (.aload_n 0, 1) := by decide +kernel
theorem dd_se_assignedIn_10 : decode prog_5_method_12_code 10 = .ok (.getfield 9, 3) := by decide +kernel
theorem dd_se_assignedIn_13 : decode prog_5_method_12_code 13 = .ok (.getfield 71, 3) := by decide +kernel
theorem dd_se_assignedIn_16 : decode prog_5_method_12_code 16 = .ok (.ishl, 1) := by decide +kernel
theorem dd_se_assignedIn_17 : decode prog_5_method_12_code 17 = .ok (.iconst 1, 1) := by decide +kernel
theorem dd_se_assignedIn_18 : decode prog_5_method_12_code 18 = .ok (.isub, 1) := by decide +kernel
theorem dd_se_assignedIn_19 : decode prog_5_method_12_code 19 = .ok (.iand, 1) := by decide +kernel
theorem dd_se_assignedIn_20 : decode prog_5_method_12_code 20 = .ok (.ireturn, 1) := by decide +kernel
end
section
/-! decode rows: printed by wip/whole/facts.py -/
theorem dd_se_takeSteps_0 : decode prog_5_method_6_code 0 = .ok (.aload_n 0, 1) := by decide +kernel
theorem dd_se_takeSteps_1 : decode prog_5_method_6_code 1 = .ok (.iload_n 1, 1) := by decide +kernel
theorem dd_se_takeSteps_2 : decode prog_5_method_6_code 2 = .ok (.invokevirtual 65, 3) := by decide +kernel
theorem dd_se_takeSteps_5 : decode prog_5_method_6_code 5 = .ok (.istore_n 2, 1) := by decide +kernel
theorem dd_se_takeSteps_6 : decode prog_5_method_6_code 6 = .ok (.iconst 0, 1) := by decide +kernel
theorem dd_se_takeSteps_7 : decode prog_5_method_6_code 7 = .ok (.istore_n 3, 1) := by decide +kernel
theorem dd_se_takeSteps_8 : decode prog_5_method_6_code 8 = .ok (.iload_n 3, 1) := by decide +kernel
theorem dd_se_takeSteps_9 : decode prog_5_method_6_code 9 = .ok (.aload_n 0, 1) := by decide +kernel
theorem dd_se_takeSteps_10 : decode prog_5_method_6_code 10 = .ok (.getfield 22, 3) := by decide +kernel
theorem dd_se_takeSteps_13 : decode prog_5_method_6_code 13 = .ok (.if_icmp .ge 110, 3) := by decide +kernel
theorem dd_se_takeSteps_16 : decode prog_5_method_6_code 16 = .ok (.aload_n 0, 1) := by decide +kernel
theorem dd_se_takeSteps_17 : decode prog_5_method_6_code 17 = .ok (.iload_n 1, 1) := by decide +kernel
theorem dd_se_takeSteps_18 : decode prog_5_method_6_code 18 = .ok (.iload_n 3, 1) := by decide +kernel
theorem dd_se_takeSteps_19 : decode prog_5_method_6_code 19 = .ok (.invokevirtual 68, 3) := by decide +kernel
theorem dd_se_takeSteps_22 : decode prog_5_method_6_code 22 = .ok (.istore 4, 2) := by decide +kernel
theorem dd_se_takeSteps_24 : decode prog_5_method_6_code 24 = .ok (.iconst 0, 1) := by decide +kernel
theorem dd_se_takeSteps_25 : decode prog_5_method_6_code 25 = .ok (.istore 5, 2) := by decide +kernel
theorem dd_se_takeSteps_27 : decode prog_5_method_6_code 27 = .ok (.iload 5, 2) := by decide +kernel
theorem dd_se_takeSteps_29 : decode prog_5_method_6_code 29 = .ok (.aload_n 0, 1) := by decide +kernel
theorem dd_se_takeSteps_30 : decode prog_5_method_6_code 30 = .ok (.getfield 9, 3) := by decide +kernel
theorem dd_se_takeSteps_33 : decode prog_5_method_6_code 33 = .ok (.getfield 71, 3) := by decide +kernel
theorem dd_se_takeSteps_36 : decode prog_5_method_6_code 36 = .ok (.if_icmp .ge 81, 3) := by decide +kernel
theorem dd_se_takeSteps_39 : decode prog_5_method_6_code 39 = .ok (.iload_n 1, 1) := by decide +kernel
theorem dd_se_takeSteps_40 : decode prog_5_method_6_code 40 = .ok (.iconst 1, 1) := by decide +kernel
theorem dd_se_takeSteps_41 : decode prog_5_method_6_code 41 = .ok (.aload_n 0, 1) := by decide +kernel
theorem dd_se_takeSteps_42 : decode prog_5_method_6_code 42 = .ok (.iload_n 3, 1) := by decide +kernel
theorem dd_se_takeSteps_43 : decode prog_5_method_6_code 43 = .ok (.iload 5, 2) := by decide +kernel
theorem dd_se_takeSteps_45 : decode prog_5_method_6_code 45 = .ok (.invokevirtual 52, 3) := by decide +kernel
theorem dd_se_takeSteps_48 : decode prog_5_method_6_code 48 = .ok (.ishl, 1) := by decide +kernel
theorem dd_se_takeSteps_49 : decode prog_5_method_6_code 49 = .ok (.ixor, 1) := by decide +kernel
theorem dd_se_takeSteps_50 : decode prog_5_method_6_code 50 = .ok (.istore 6, 2) := by decide +kernel
theorem dd_se_takeSteps_52 : decode prog_5_method_6_code 52 = .ok (.aload_n 0, 1) := by decide +kernel
theorem dd_se_takeSteps_53 : decode prog_5_method_6_code 53 = .ok (.getfield 19, 3) := by decide +kernel
theorem dd_se_takeSteps_56 : decode prog_5_method_6_code 56 = .ok (.iload 6, 2) := by decide +kernel
theorem dd_se_takeSteps_58 : decode prog_5_method_6_code 58 = .ok (.iaload, 1) := by decide +kernel
theorem dd_se_takeSteps_59 : decode prog_5_method_6_code 59 = .ok (.iconst (-1), 1) := by decide +kernel
theorem dd_se_takeSteps_60 : decode prog_5_method_6_code 60 = .ok (.if_icmp .ne 51, 3) := by decide +kernel
theorem dd_se_takeSteps_63 : decode prog_5_method_6_code 63 = .ok (.aload_n 0, 1) := by decide +kernel
theorem dd_se_takeSteps_64 : decode prog_5_method_6_code 64 = .ok (.iload_n 2, 1) := by decide +kernel
theorem dd_se_takeSteps_65 : decode prog_5_method_6_code 65 = .ok (.iload 4, 2) := by decide +kernel
theorem dd_se_takeSteps_67 : decode prog_5_method_6_code 67 = .ok (.iload 5, 2) := by decide +kernel
theorem dd_se_takeSteps_69 : decode prog_5_method_6_code 69 = .ok (.invokevirtual 76, 3) := by decide +kernel
theorem dd_se_takeSteps_72 : decode prog_5_method_6_code 72 = .ok (.ifCond .eq 39, 3) := by decide +kernel
theorem dd_se_takeSteps_75 : decode prog_5_method_6_code 75 = .ok (.iload 4, 2) := by decide +kernel
theorem dd_se_takeSteps_77 : decode prog_5_method_6_code 77 = .ok (.iload 5, 2) := by decide +kernel
theorem dd_se_takeSteps_79 : decode prog_5_method_6_code 79 = .ok (.invokestatic 37, 3) := by decide +kernel
theorem dd_se_takeSteps_82 : decode prog_5_method_6_code 82 = .ok (.ifCond .eq 7, 3) := by decide +kernel
theorem dd_se_takeSteps_85 : decode prog_5_method_6_code 85 = .ok (.iconst 1, 1) := by decide +kernel
theorem dd_se_takeSteps_86 : decode prog_5_method_6_code 86 = .ok (.goto 4, 3) := by decide +kernel
theorem dd_se_takeSteps_89 : decode prog_5_method_6_code 89 = .ok (.iconst 0, 1) := by decide +kernel
theorem dd_se_takeSteps_90 : decode prog_5_method_6_code 90 = .ok (.istore 7, 2) := by decide +kernel
theorem dd_se_takeSteps_92 : decode prog_5_method_6_code 92 = .ok (.aload_n 0, 1) := by decide +kernel
theorem dd_se_takeSteps_93 : decode prog_5_method_6_code 93 = .ok (.iload 6, 2) := by decide +kernel
theorem dd_se_takeSteps_95 : decode prog_5_method_6_code 95 = .ok (.bipush 100, 2) := by decide +kernel
theorem dd_se_takeSteps_97 : decode prog_5_method_6_code 97 = .ok (.iload_n 3, 1) := by decide +kernel
theorem dd_se_takeSteps_98 : decode prog_5_method_6_code 98 = .ok (.imul, 1) := by decide +kernel
theorem dd_se_takeSteps_99 : decode prog_5_method_6_code 99 = .ok (.bipush 10, 2) := by decide +kernel
theorem dd_se_takeSteps_101 : decode prog_5_method_6_code 101 = .ok (.iload 5, 2) := by decide +kernel
theorem dd_se_takeSteps_103 : decode prog_5_method_6_code 103 = .ok (.imul, 1) := by decide +kernel
theorem dd_se_takeSteps_104 : decode prog_5_method_6_code 104 = .ok (.iadd, 1) := by decide +kernel
theorem dd_se_takeSteps_105 : decode prog_5_method_6_code 105 = .ok (.iload 7, 2) := by decide +kernel
theorem dd_se_takeSteps_107 : decode prog_5_method_6_code 107 = .ok (.iadd, 1) := by decide +kernel
theorem dd_se_takeSteps_108 : decode prog_5_method_6_code 108 = .ok (.invokevirtual 61, 3) := by decide +kernel
theorem dd_se_takeSteps_111 : decode prog_5_method_6_code 111 = .ok (.iinc 5 1, 3) := by decide +kernel
theorem dd_se_takeSteps_114 : decode prog_5_method_6_code 114 = .ok (.goto (-87), 3) := by decide +kernel
theorem dd_se_takeSteps_117 : decode prog_5_method_6_code 117 = .ok (.iinc 3 1, 3) := by decide +kernel
theorem dd_se_takeSteps_120 : decode prog_5_method_6_code 120 = .ok (.goto (-112), 3) := by decide +kernel
theorem dd_se_takeSteps_123 : decode prog_5_method_6_code 123 = .ok (.return_, 1) := by decide +kernel
theorem dd_se_authorizedOfAll_0 : decode prog_5_method_10_code 0 = .ok (.iconst 0, 1) := by decide +kernel
theorem dd_se_authorizedOfAll_1 : decode prog_5_method_10_code 1 = .ok (.istore_n 2, 1) := by decide +kernel
theorem dd_se_authorizedOfAll_2 : decode prog_5_method_10_code 2 = .ok (.iconst 0, 1) := by decide +kernel
theorem dd_se_authorizedOfAll_3 : decode prog_5_method_10_code 3 = .ok (.istore_n 3, 1) := by decide +kernel
theorem dd_se_authorizedOfAll_4 : decode prog_5_method_10_code 4 = .ok (.iload_n 3, 1) := by decide +kernel
theorem dd_se_authorizedOfAll_5 : decode prog_5_method_10_code 5 = .ok (.aload_n 0, 1) := by decide +kernel
theorem dd_se_authorizedOfAll_6 : decode prog_5_method_10_code 6 = .ok (.getfield 22, 3) := by decide +kernel
theorem dd_se_authorizedOfAll_9 : decode prog_5_method_10_code 9 = .ok (.if_icmp .ge 18, 3) := by decide +kernel
theorem dd_se_authorizedOfAll_12 : decode prog_5_method_10_code 12 = .ok (.iload_n 2, 1) := by decide +kernel
theorem dd_se_authorizedOfAll_13 : decode prog_5_method_10_code 13 = .ok (.aload_n 0, 1) := by decide +kernel
theorem dd_se_authorizedOfAll_14 : decode prog_5_method_10_code 14 = .ok (.iload_n 1, 1) := by decide +kernel
theorem dd_se_authorizedOfAll_15 : decode prog_5_method_10_code 15 = .ok (.iload_n 3, 1) := by decide +kernel
theorem dd_se_authorizedOfAll_16 : decode prog_5_method_10_code 16 = .ok (.invokevirtual 33, 3) := by decide +kernel
theorem dd_se_authorizedOfAll_19 : decode prog_5_method_10_code 19 = .ok (.ior, 1) := by decide +kernel
theorem dd_se_authorizedOfAll_20 : decode prog_5_method_10_code 20 = .ok (.istore_n 2, 1) := by decide +kernel
theorem dd_se_authorizedOfAll_21 : decode prog_5_method_10_code 21 = .ok (.iinc 3 1, 3) := by decide +kernel
theorem dd_se_authorizedOfAll_24 : decode prog_5_method_10_code 24 = .ok (.goto (-20), 3) := by decide +kernel
theorem dd_se_authorizedOfAll_27 : decode prog_5_method_10_code 27 = .ok (.iload_n 2, 1) := by decide +kernel
theorem dd_se_authorizedOfAll_28 : decode prog_5_method_10_code 28 = .ok (.ireturn, 1) := by decide +kernel
theorem dd_se_isStep_0 : decode prog_5_method_7_code 0 = .ok (.iload_n 2, 1) := by decide +kernel
theorem dd_se_isStep_1 : decode prog_5_method_7_code 1 = .ok (.iload_n 3, 1) := by decide +kernel
theorem dd_se_isStep_2 : decode prog_5_method_7_code 2 = .ok (.invokestatic 37, 3) := by decide +kernel
theorem dd_se_isStep_5 : decode prog_5_method_7_code 5 = .ok (.ifCond .eq 23, 3) := by decide +kernel
theorem dd_se_isStep_8 : decode prog_5_method_7_code 8 = .ok (.aload_n 0, 1) := by decide +kernel
theorem dd_se_isStep_9 : decode prog_5_method_7_code 9 = .ok (.getfield 9, 3) := by decide +kernel
theorem dd_se_isStep_12 : decode prog_5_method_7_code 12 = .ok (.iconst 0, 1) := by decide +kernel
theorem dd_se_isStep_13 : decode prog_5_method_7_code 13 = .ok (.iload_n 1, 1) := by decide +kernel
theorem dd_se_isStep_14 : decode prog_5_method_7_code 14 = .ok (.aload_n 0, 1) := by decide +kernel
theorem dd_se_isStep_15 : decode prog_5_method_7_code 15 = .ok (.getfield 9, 3) := by decide +kernel
theorem dd_se_isStep_18 : decode prog_5_method_7_code 18 = .ok (.getfield 80, 3) := by decide +kernel
theorem dd_se_isStep_21 : decode prog_5_method_7_code 21 = .ok (.iload_n 2, 1) := by decide +kernel
theorem dd_se_isStep_22 : decode prog_5_method_7_code 22 = .ok (.iaload, 1) := by decide +kernel
theorem dd_se_isStep_23 : decode prog_5_method_7_code 23 = .ok (.iload_n 3, 1) := by decide +kernel
theorem dd_se_isStep_24 : decode prog_5_method_7_code 24 = .ok (.invokevirtual 83, 3) := by decide +kernel
theorem dd_se_isStep_27 : decode prog_5_method_7_code 27 = .ok (.ireturn, 1) := by decide +kernel
theorem dd_se_isStep_28 : decode prog_5_method_7_code 28 = .ok (.aload_n 0, 1) := by decide +kernel
theorem dd_se_isStep_29 : decode prog_5_method_7_code 29 = .ok (.getfield 9, 3) := by decide +kernel
theorem dd_se_isStep_32 : decode prog_5_method_7_code 32 = .ok (.iconst 1, 1) := by decide +kernel
theorem dd_se_isStep_33 : decode prog_5_method_7_code 33 = .ok (.iload_n 1, 1) := by decide +kernel
theorem dd_se_isStep_34 : decode prog_5_method_7_code 34 = .ok (.aload_n 0, 1) := by decide +kernel
theorem dd_se_isStep_35 : decode prog_5_method_7_code 35 = .ok (.getfield 9, 3) := by decide +kernel
theorem dd_se_isStep_38 : decode prog_5_method_7_code 38 = .ok (.getfield 80, 3) := by decide +kernel
theorem dd_se_isStep_41 : decode prog_5_method_7_code 41 = .ok (.iload_n 2, 1) := by decide +kernel
theorem dd_se_isStep_42 : decode prog_5_method_7_code 42 = .ok (.iaload, 1) := by decide +kernel
theorem dd_se_isStep_43 : decode prog_5_method_7_code 43 = .ok (.iload_n 3, 1) := by decide +kernel
theorem dd_se_isStep_44 : decode prog_5_method_7_code 44 = .ok (.invokevirtual 83, 3) := by decide +kernel
theorem dd_se_isStep_47 : decode prog_5_method_7_code 47 = .ok (.ifCond .eq 33, 3) := by decide +kernel
theorem dd_se_isStep_50 : decode prog_5_method_7_code 50 = .ok (.aload_n 0, 1) := by decide +kernel
theorem dd_se_isStep_51 : decode prog_5_method_7_code 51 = .ok (.getfield 9, 3) := by decide +kernel
theorem dd_se_isStep_54 : decode prog_5_method_7_code 54 = .ok (.getfield 87, 3) := by decide +kernel
theorem dd_se_isStep_57 : decode prog_5_method_7_code 57 = .ok (.aload_n 0, 1) := by decide +kernel
theorem dd_se_isStep_58 : decode prog_5_method_7_code 58 = .ok (.getfield 9, 3) := by decide +kernel
theorem dd_se_isStep_61 : decode prog_5_method_7_code 61 = .ok (.getfield 80, 3) := by decide +kernel
theorem dd_se_isStep_64 : decode prog_5_method_7_code 64 = .ok (.iload_n 2, 1) := by decide +kernel
theorem dd_se_isStep_65 : decode prog_5_method_7_code 65 = .ok (.iconst 1, 1) := by decide +kernel
theorem dd_se_isStep_66 : decode prog_5_method_7_code 66 = .ok (.iload_n 3, 1) := by decide +kernel
theorem dd_se_isStep_67 : decode prog_5_method_7_code 67 = .ok (.ishl, 1) := by decide +kernel
theorem dd_se_isStep_68 : decode prog_5_method_7_code 68 = .ok (.ior, 1) := by decide +kernel
theorem dd_se_isStep_69 : decode prog_5_method_7_code 69 = .ok (.iaload, 1) := by decide +kernel
theorem dd_se_isStep_70 : decode prog_5_method_7_code 70 = .ok (.invokestatic 91, 3) := by decide +kernel
theorem dd_se_isStep_73 : decode prog_5_method_7_code 73 = .ok (.ifCond .eq 7, 3) := by decide +kernel
theorem dd_se_isStep_76 : decode prog_5_method_7_code 76 = .ok (.iconst 1, 1) := by decide +kernel
theorem dd_se_isStep_77 : decode prog_5_method_7_code 77 = .ok (.goto 4, 3) := by decide +kernel
theorem dd_se_isStep_80 : decode prog_5_method_7_code 80 = .ok (.iconst 0, 1) := by decide +kernel
theorem dd_se_isStep_81 : decode prog_5_method_7_code 81 = .ok (.ireturn, 1) := by decide +kernel
theorem dd_se_stepsTo_0 : decode prog_5_method_3_code 0 = .ok (.iconst 0, 1) := by decide +kernel
theorem dd_se_stepsTo_1 : decode prog_5_method_3_code 1 = .ok (.istore_n 2, 1) := by decide +kernel
theorem dd_se_stepsTo_2 : decode prog_5_method_3_code 2 = .ok (.iload_n 1, 1) := by decide +kernel
theorem dd_se_stepsTo_3 : decode prog_5_method_3_code 3 = .ok (.istore_n 3, 1) := by decide +kernel
theorem dd_se_stepsTo_4 : decode prog_5_method_3_code 4 = .ok (.aload_n 0, 1) := by decide +kernel
theorem dd_se_stepsTo_5 : decode prog_5_method_3_code 5 = .ok (.getfield 19, 3) := by decide +kernel
theorem dd_se_stepsTo_8 : decode prog_5_method_3_code 8 = .ok (.iload_n 3, 1) := by decide +kernel
theorem dd_se_stepsTo_9 : decode prog_5_method_3_code 9 = .ok (.iaload, 1) := by decide +kernel
theorem dd_se_stepsTo_10 : decode prog_5_method_3_code 10 = .ok (.ifCond .lt 22, 3) := by decide +kernel
theorem dd_se_stepsTo_13 : decode prog_5_method_3_code 13 = .ok (.iload_n 2, 1) := by decide +kernel
theorem dd_se_stepsTo_14 : decode prog_5_method_3_code 14 = .ok (.sipush 4096, 3) := by decide +kernel
theorem dd_se_stepsTo_17 : decode prog_5_method_3_code 17 = .ok (.if_icmp .ge 15, 3) := by decide +kernel
theorem dd_se_stepsTo_20 : decode prog_5_method_3_code 20 = .ok (.aload_n 0, 1) := by decide +kernel
theorem dd_se_stepsTo_21 : decode prog_5_method_3_code 21 = .ok (.iload_n 3, 1) := by decide +kernel
theorem dd_se_stepsTo_22 : decode prog_5_method_3_code 22 = .ok (.invokevirtual 45, 3) := by decide +kernel
theorem dd_se_stepsTo_25 : decode prog_5_method_3_code 25 = .ok (.istore_n 3, 1) := by decide +kernel
theorem dd_se_stepsTo_26 : decode prog_5_method_3_code 26 = .ok (.iinc 2 1, 3) := by decide +kernel
theorem dd_se_stepsTo_29 : decode prog_5_method_3_code 29 = .ok (.goto (-25), 3) := by decide +kernel
theorem dd_se_stepsTo_32 : decode prog_5_method_3_code 32 = .ok (.iload_n 2, 1) := by decide +kernel
theorem dd_se_stepsTo_33 : decode prog_5_method_3_code 33 = .ok (.ireturn, 1) := by decide +kernel
theorem dd_se_stateBefore_0 : decode prog_5_method_9_code 0 = .ok (.aload_n 0, 1) := by decide +kernel
theorem dd_se_stateBefore_1 : decode prog_5_method_9_code 1 = .ok (.getfield 19, 3) := by decide +kernel
theorem dd_se_stateBefore_4 : decode prog_5_method_9_code 4 = .ok (.iload_n 1, 1) := by decide +kernel
theorem dd_se_stateBefore_5 : decode prog_5_method_9_code 5 = .ok (.iaload, 1) := by decide +kernel
theorem dd_se_stateBefore_6 : decode prog_5_method_9_code 6 = .ok (.istore_n 2, 1) := by decide +kernel
theorem dd_se_stateBefore_7 : decode prog_5_method_9_code 7 = .ok (.iload_n 1, 1) := by decide +kernel
theorem dd_se_stateBefore_8 : decode prog_5_method_9_code 8 = .ok (.iconst 1, 1) := by decide +kernel
theorem dd_se_stateBefore_9 : decode prog_5_method_9_code 9 = .ok (.aload_n 0, 1) := by decide +kernel
theorem dd_se_stateBefore_10 : decode prog_5_method_9_code 10 = .ok (.iload_n 2, 1) := by decide +kernel
theorem dd_se_stateBefore_11 : decode prog_5_method_9_code 11 = .ok (.bipush 100, 2) := by decide +kernel
theorem dd_se_stateBefore_13 : decode prog_5_method_9_code 13 = .ok (.idiv, 1) := by decide +kernel
theorem dd_se_stateBefore_14 : decode prog_5_method_9_code 14 = .ok (.iload_n 2, 1) := by decide +kernel
theorem dd_se_stateBefore_15 : decode prog_5_method_9_code 15 = .ok (.bipush 100, 2) := by decide +kernel
theorem dd_se_stateBefore_17 : decode prog_5_method_9_code 17 = .ok (.irem, 1) := by decide +kernel
theorem dd_se_stateBefore_18 : decode prog_5_method_9_code 18 = .ok (.bipush 10, 2) := by decide +kernel
theorem dd_se_stateBefore_20 : decode prog_5_method_9_code 20 = .ok (.idiv, 1) := by decide +kernel
theorem dd_se_stateBefore_21 : decode prog_5_method_9_code 21 = .ok (.invokevirtual 52, 3) := by decide +kernel
theorem dd_se_stateBefore_24 : decode prog_5_method_9_code 24 = .ok (.ishl, 1) := by decide +kernel
theorem dd_se_stateBefore_25 : decode prog_5_method_9_code 25 = .ok (.ixor, 1) := by decide +kernel
theorem dd_se_stateBefore_26 : decode prog_5_method_9_code 26 = .ok (.ireturn, 1) := by decide +kernel
theorem dd_lw_plan_0 : decode method_22_code 0 = .ok (.aload 4, 2) := by decide +kernel
theorem dd_lw_plan_2 : decode method_22_code 2 = .ok (.iconst 0, 1) := by decide +kernel
theorem dd_lw_plan_3 : decode method_22_code 3 = .ok (.aload_n 0, 1) := by decide +kernel
theorem dd_lw_plan_4 : decode method_22_code 4 = .ok (.iload_n 1, 1) := by decide +kernel
theorem dd_lw_plan_5 : decode method_22_code 5 = .ok (.iload_n 2, 1) := by decide +kernel
theorem dd_lw_plan_6 : decode method_22_code 6 = .ok (.iload_n 3, 1) := by decide +kernel
theorem dd_lw_plan_7 : decode method_22_code 7 = .ok (.invokevirtual 83, 3) := by decide +kernel
theorem dd_lw_plan_10 : decode method_22_code 10 = .ok (.i2l, 1) := by decide +kernel
theorem dd_lw_plan_11 : decode method_22_code 11 = .ok (.lastore, 1) := by decide +kernel
theorem dd_lw_plan_12 : decode method_22_code 12 = .ok (.goto 15, 3) := by decide +kernel
theorem dd_lw_plan_15 : decode method_22_code 15 = .ok (.astore 5, 2) := by decide +kernel
theorem dd_lw_plan_17 : decode method_22_code 17 = .ok (.iconst 1, 1) := by decide +kernel
theorem dd_lw_plan_18 : decode method_22_code 18 = .ok (.ireturn, 1) := by decide +kernel
theorem dd_lw_plan_19 : decode method_22_code 19 = .ok (.astore 5, 2) := by decide +kernel
theorem dd_lw_plan_21 : decode method_22_code 21 = .ok (.iconst 2, 1) := by decide +kernel
theorem dd_lw_plan_22 : decode method_22_code 22 = .ok (.ireturn, 1) := by decide +kernel
theorem dd_lw_plan_23 : decode method_22_code 23 = .ok (.astore 5, 2) := by decide +kernel
theorem dd_lw_plan_25 : decode method_22_code 25 = .ok (.iconst 3, 1) := by decide +kernel
theorem dd_lw_plan_26 : decode method_22_code 26 = .ok (.ireturn, 1) := by decide +kernel
theorem dd_lw_plan_27 : decode method_22_code 27 = .ok (.iconst 0, 1) := by decide +kernel
theorem dd_lw_plan_28 : decode method_22_code 28 = .ok (.ireturn, 1) := by decide +kernel
theorem dd_ra_plan_0 : decode prog_1_method_21_code 0 = .ok (.aload_n 0, 1) := by decide +kernel
theorem dd_ra_plan_1 : decode prog_1_method_21_code 1 = .ok (.iload_n 1, 1) := by decide +kernel
theorem dd_ra_plan_2 : decode prog_1_method_21_code 2 = .ok (.iload_n 2, 1) := by decide +kernel
theorem dd_ra_plan_3 : decode prog_1_method_21_code 3 = .ok (.invokevirtual 175, 3) := by decide +kernel
theorem dd_ra_plan_6 : decode prog_1_method_21_code 6 = .ok (.aload_n 0, 1) := by decide +kernel
theorem dd_ra_plan_7 : decode prog_1_method_21_code 7 = .ok (.getfield 21, 3) := by decide +kernel
theorem dd_ra_plan_10 : decode prog_1_method_21_code 10 = .ok (.aload_n 0, 1) := by decide +kernel
theorem dd_ra_plan_11 : decode prog_1_method_21_code 11 = .ok (.getfield 25, 3) := by decide +kernel
theorem dd_ra_plan_14 : decode prog_1_method_21_code 14 = .ok (.aload_n 0, 1) := by decide +kernel
theorem dd_ra_plan_15 : decode prog_1_method_21_code 15 = .ok (.getfield 55, 3) := by decide +kernel
theorem dd_ra_plan_18 : decode prog_1_method_21_code 18 = .ok (.iload_n 1, 1) := by decide +kernel
theorem dd_ra_plan_19 : decode prog_1_method_21_code 19 = .ok (.iload_n 2, 1) := by decide +kernel
theorem dd_ra_plan_20 : decode prog_1_method_21_code 20 = .ok (.invokevirtual 178, 3) := by decide +kernel
theorem dd_ra_plan_23 : decode prog_1_method_21_code 23 = .ok (.istore 4, 2) := by decide +kernel
theorem dd_ra_plan_25 : decode prog_1_method_21_code 25 = .ok (.iload 4, 2) := by decide +kernel
theorem dd_ra_plan_27 : decode prog_1_method_21_code 27 = .ok (.iconst (-1), 1) := by decide +kernel
theorem dd_ra_plan_28 : decode prog_1_method_21_code 28 = .ok (.if_icmp .ne 13, 3) := by decide +kernel
theorem dd_ra_plan_31 : decode prog_1_method_21_code 31 = .ok (.new 48, 3) := by decide +kernel
theorem dd_ra_plan_34 : decode prog_1_method_21_code 34 = .ok (.dup, 1) := by decide +kernel
theorem dd_ra_plan_35 : decode prog_1_method_21_code 35 = .ok (.ldc 185, 2) := by decide +kernel
theorem dd_ra_plan_37 : decode prog_1_method_21_code 37 = .ok (.invokespecial 52, 3) := by decide +kernel
theorem dd_ra_plan_40 : decode prog_1_method_21_code 40 = .ok (.athrow, 1) := by decide +kernel
theorem dd_ra_plan_41 : decode prog_1_method_21_code 41 = .ok (.aload_n 0, 1) := by decide +kernel
theorem dd_ra_plan_42 : decode prog_1_method_21_code 42 = .ok (.getfield 21, 3) := by decide +kernel
theorem dd_ra_plan_45 : decode prog_1_method_21_code 45 = .ok (.iload 4, 2) := by decide +kernel
theorem dd_ra_plan_47 : decode prog_1_method_21_code 47 = .ok (.iload_n 3, 1) := by decide +kernel
theorem dd_ra_plan_48 : decode prog_1_method_21_code 48 = .ok (.invokevirtual 187, 3) := by decide +kernel
theorem dd_ra_plan_51 : decode prog_1_method_21_code 51 = .ok (.ireturn, 1) := by decide +kernel
theorem dd_se_stepCode_0 : decode prog_5_method_4_code 0 = .ok (.aload_n 0, 1) := by decide +kernel
theorem dd_se_stepCode_1 : decode prog_5_method_4_code 1 = .ok (.iload_n 1, 1) := by decide +kernel
theorem dd_se_stepCode_2 : decode prog_5_method_4_code 2 = .ok (.invokevirtual 49, 3) := by decide +kernel
theorem dd_se_stepCode_5 : decode prog_5_method_4_code 5 = .ok (.istore_n 3, 1) := by decide +kernel
theorem dd_se_stepCode_6 : decode prog_5_method_4_code 6 = .ok (.iload_n 2, 1) := by decide +kernel
theorem dd_se_stepCode_7 : decode prog_5_method_4_code 7 = .ok (.ifCond .lt 8, 3) := by decide +kernel
theorem dd_se_stepCode_10 : decode prog_5_method_4_code 10 = .ok (.iload_n 2, 1) := by decide +kernel
theorem dd_se_stepCode_11 : decode prog_5_method_4_code 11 = .ok (.iload_n 3, 1) := by decide +kernel
theorem dd_se_stepCode_12 : decode prog_5_method_4_code 12 = .ok (.if_icmp .lt 5, 3) := by decide +kernel
theorem dd_se_stepCode_15 : decode prog_5_method_4_code 15 = .ok (.iconst (-1), 1) := by decide +kernel
theorem dd_se_stepCode_16 : decode prog_5_method_4_code 16 = .ok (.ireturn, 1) := by decide +kernel
theorem dd_se_stepCode_17 : decode prog_5_method_4_code 17 = .ok (.iload_n 1, 1) := by decide +kernel
theorem dd_se_stepCode_18 : decode prog_5_method_4_code 18 = .ok (.istore 4, 2) := by decide +kernel
theorem dd_se_stepCode_20 : decode prog_5_method_4_code 20 = .ok (.iload_n 3, 1) := by decide +kernel
theorem dd_se_stepCode_21 : decode prog_5_method_4_code 21 = .ok (.iconst 1, 1) := by decide +kernel
theorem dd_se_stepCode_22 : decode prog_5_method_4_code 22 = .ok (.isub, 1) := by decide +kernel
theorem dd_se_stepCode_23 : decode prog_5_method_4_code 23 = .ok (.istore 5, 2) := by decide +kernel
theorem dd_se_stepCode_25 : decode prog_5_method_4_code 25 = .ok (.iload 5, 2) := by decide +kernel
theorem dd_se_stepCode_27 : decode prog_5_method_4_code 27 = .ok (.iload_n 2, 1) := by decide +kernel
theorem dd_se_stepCode_28 : decode prog_5_method_4_code 28 = .ok (.if_icmp .le 17, 3) := by decide +kernel
theorem dd_se_stepCode_31 : decode prog_5_method_4_code 31 = .ok (.aload_n 0, 1) := by decide +kernel
theorem dd_se_stepCode_32 : decode prog_5_method_4_code 32 = .ok (.iload 4, 2) := by decide +kernel
theorem dd_se_stepCode_34 : decode prog_5_method_4_code 34 = .ok (.invokevirtual 45, 3) := by decide +kernel
theorem dd_se_stepCode_37 : decode prog_5_method_4_code 37 = .ok (.istore 4, 2) := by decide +kernel
theorem dd_se_stepCode_39 : decode prog_5_method_4_code 39 = .ok (.iinc 5 (-1), 3) := by decide +kernel
theorem dd_se_stepCode_42 : decode prog_5_method_4_code 42 = .ok (.goto (-17), 3) := by decide +kernel
theorem dd_se_stepCode_45 : decode prog_5_method_4_code 45 = .ok (.aload_n 0, 1) := by decide +kernel
theorem dd_se_stepCode_46 : decode prog_5_method_4_code 46 = .ok (.getfield 19, 3) := by decide +kernel
theorem dd_se_stepCode_49 : decode prog_5_method_4_code 49 = .ok (.iload 4, 2) := by decide +kernel
theorem dd_se_stepCode_51 : decode prog_5_method_4_code 51 = .ok (.iaload, 1) := by decide +kernel
theorem dd_se_stepCode_52 : decode prog_5_method_4_code 52 = .ok (.ireturn, 1) := by decide +kernel
theorem dd_mo_init_0 : decode prog_7_method_1_code 0 = .ok (.aload_n 0, 1) := by decide +kernel
theorem dd_mo_init_1 : decode prog_7_method_1_code 1 = .ok (.invokespecial 1, 3) := by decide +kernel
theorem dd_mo_init_4 : decode prog_7_method_1_code 4 = .ok (.aload_n 0, 1) := by decide +kernel
theorem dd_mo_init_5 : decode prog_7_method_1_code 5 = .ok (.bipush 6, 2) := by decide +kernel
theorem dd_mo_init_7 : decode prog_7_method_1_code 7 = .ok (.newarray .int, 2) := by decide +kernel
theorem dd_mo_init_9 : decode prog_7_method_1_code 9 = .ok (.putfield 7, 3) := by decide +kernel
theorem dd_mo_init_12 : decode prog_7_method_1_code 12 = .ok (.aload_n 0, 1) := by decide +kernel
theorem dd_mo_init_13 : decode prog_7_method_1_code 13 = .ok (.bipush 6, 2) := by decide +kernel
theorem dd_mo_init_15 : decode prog_7_method_1_code 15 = .ok (.newarray .int, 2) := by decide +kernel
theorem dd_mo_init_17 : decode prog_7_method_1_code 17 = .ok (.putfield 13, 3) := by decide +kernel
theorem dd_mo_init_20 : decode prog_7_method_1_code 20 = .ok (.aload_n 0, 1) := by decide +kernel
theorem dd_mo_init_21 : decode prog_7_method_1_code 21 = .ok (.bipush 6, 2) := by decide +kernel
theorem dd_mo_init_23 : decode prog_7_method_1_code 23 = .ok (.newarray .int, 2) := by decide +kernel
theorem dd_mo_init_25 : decode prog_7_method_1_code 25 = .ok (.putfield 16, 3) := by decide +kernel
theorem dd_mo_init_28 : decode prog_7_method_1_code 28 = .ok (.aload_n 0, 1) := by decide +kernel
theorem dd_mo_init_29 : decode prog_7_method_1_code 29 = .ok (.iconst 5, 1) := by decide +kernel
theorem dd_mo_init_30 : decode prog_7_method_1_code 30 = .ok (.newarray .int, 2) := by decide +kernel
theorem dd_mo_init_32 : decode prog_7_method_1_code 32 = .ok (.putfield 19, 3) := by decide +kernel
theorem dd_mo_init_35 : decode prog_7_method_1_code 35 = .ok (.aload_n 0, 1) := by decide +kernel
theorem dd_mo_init_36 : decode prog_7_method_1_code 36 = .ok (.iconst 2, 1) := by decide +kernel
theorem dd_mo_init_37 : decode prog_7_method_1_code 37 = .ok (.newarray .int, 2) := by decide +kernel
theorem dd_mo_init_39 : decode prog_7_method_1_code 39 = .ok (.putfield 22, 3) := by decide +kernel
theorem dd_mo_init_42 : decode prog_7_method_1_code 42 = .ok (.aload_n 0, 1) := by decide +kernel
theorem dd_mo_init_43 : decode prog_7_method_1_code 43 = .ok (.bipush 8, 2) := by decide +kernel
theorem dd_mo_init_45 : decode prog_7_method_1_code 45 = .ok (.newarray .int, 2) := by decide +kernel
theorem dd_mo_init_47 : decode prog_7_method_1_code 47 = .ok (.putfield 25, 3) := by decide +kernel
theorem dd_mo_init_50 : decode prog_7_method_1_code 50 = .ok (.aload_n 0, 1) := by decide +kernel
theorem dd_mo_init_51 : decode prog_7_method_1_code 51 = .ok (.bipush 8, 2) := by decide +kernel
theorem dd_mo_init_53 : decode prog_7_method_1_code 53 = .ok (.newarray .int, 2) := by decide +kernel
theorem dd_mo_init_55 : decode prog_7_method_1_code 55 = .ok (.putfield 28, 3) := by decide +kernel
theorem dd_mo_init_58 : decode prog_7_method_1_code 58 = .ok (.aload_n 0, 1) := by decide +kernel
theorem dd_mo_init_59 : decode prog_7_method_1_code 59 = .ok (.iconst 4, 1) := by decide +kernel
theorem dd_mo_init_60 : decode prog_7_method_1_code 60 = .ok (.newarray .boolean, 2) := by decide +kernel
theorem dd_mo_init_62 : decode prog_7_method_1_code 62 = .ok (.putfield 31, 3) := by decide +kernel
theorem dd_mo_init_65 : decode prog_7_method_1_code 65 = .ok (.aload_n 0, 1) := by decide +kernel
theorem dd_mo_init_66 : decode prog_7_method_1_code 66 = .ok (.iconst 4, 1) := by decide +kernel
theorem dd_mo_init_67 : decode prog_7_method_1_code 67 = .ok (.newarray .int, 2) := by decide +kernel
theorem dd_mo_init_69 : decode prog_7_method_1_code 69 = .ok (.putfield 35, 3) := by decide +kernel
theorem dd_mo_init_72 : decode prog_7_method_1_code 72 = .ok (.aload_n 0, 1) := by decide +kernel
theorem dd_mo_init_73 : decode prog_7_method_1_code 73 = .ok (.iconst 4, 1) := by decide +kernel
theorem dd_mo_init_74 : decode prog_7_method_1_code 74 = .ok (.newarray .int, 2) := by decide +kernel
theorem dd_mo_init_76 : decode prog_7_method_1_code 76 = .ok (.putfield 38, 3) := by decide +kernel
theorem dd_mo_init_79 : decode prog_7_method_1_code 79 = .ok (.aload_n 0, 1) := by decide +kernel
theorem dd_mo_init_80 : decode prog_7_method_1_code 80 = .ok (.bipush 8, 2) := by decide +kernel
theorem dd_mo_init_82 : decode prog_7_method_1_code 82 = .ok (.newarray .boolean, 2) := by decide +kernel
theorem dd_mo_init_84 : decode prog_7_method_1_code 84 = .ok (.putfield 41, 3) := by decide +kernel
theorem dd_mo_init_87 : decode prog_7_method_1_code 87 = .ok (.aload_n 0, 1) := by decide +kernel
theorem dd_mo_init_88 : decode prog_7_method_1_code 88 = .ok (.bipush 8, 2) := by decide +kernel
theorem dd_mo_init_90 : decode prog_7_method_1_code 90 = .ok (.newarray .int, 2) := by decide +kernel
theorem dd_mo_init_92 : decode prog_7_method_1_code 92 = .ok (.putfield 44, 3) := by decide +kernel
theorem dd_mo_init_95 : decode prog_7_method_1_code 95 = .ok (.aload_n 0, 1) := by decide +kernel
theorem dd_mo_init_96 : decode prog_7_method_1_code 96 = .ok (.bipush 8, 2) := by decide +kernel
theorem dd_mo_init_98 : decode prog_7_method_1_code 98 = .ok (.newarray .int, 2) := by decide +kernel
theorem dd_mo_init_100 : decode prog_7_method_1_code 100 = .ok (.putfield 47, 3) := by decide +kernel
theorem dd_mo_init_103 : decode prog_7_method_1_code 103 = .ok (.aload_n 0, 1) := by decide +kernel
theorem dd_mo_init_104 : decode prog_7_method_1_code 104 = .ok (.bipush 8, 2) := by decide +kernel
theorem dd_mo_init_106 : decode prog_7_method_1_code 106 = .ok (.newarray .int, 2) := by decide +kernel
theorem dd_mo_init_108 : decode prog_7_method_1_code 108 = .ok (.putfield 50, 3) := by decide +kernel
theorem dd_mo_init_111 : decode prog_7_method_1_code 111 = .ok (.aload_n 0, 1) := by decide +kernel
theorem dd_mo_init_112 : decode prog_7_method_1_code 112 = .ok (.bipush 8, 2) := by decide +kernel
theorem dd_mo_init_114 : decode prog_7_method_1_code 114 = .ok (.newarray .int, 2) := by decide +kernel
theorem dd_mo_init_116 : decode prog_7_method_1_code 116 = .ok (.putfield 53, 3) := by decide +kernel
theorem dd_mo_init_119 : decode prog_7_method_1_code 119 = .ok (.aload_n 0, 1) := by decide +kernel
theorem dd_mo_init_120 : decode prog_7_method_1_code 120 = .ok (.sipush 4096, 3) := by decide +kernel
theorem dd_mo_init_123 : decode prog_7_method_1_code 123 = .ok (.newarray .int, 2) := by decide +kernel
theorem dd_mo_init_125 : decode prog_7_method_1_code 125 = .ok (.putfield 56, 3) := by decide +kernel
theorem dd_mo_init_128 : decode prog_7_method_1_code 128 = .ok (.aload_n 0, 1) := by decide +kernel
theorem dd_mo_init_129 : decode prog_7_method_1_code 129 = .ok (.sipush 4096, 3) := by decide +kernel
theorem dd_mo_init_132 : decode prog_7_method_1_code 132 = .ok (.newarray .boolean, 2) := by decide +kernel
theorem dd_mo_init_134 : decode prog_7_method_1_code 134 = .ok (.putfield 59, 3) := by decide +kernel
theorem dd_mo_init_137 : decode prog_7_method_1_code 137 = .ok (.aload_n 0, 1) := by decide +kernel
theorem dd_mo_init_138 : decode prog_7_method_1_code 138 = .ok (.sipush 4096, 3) := by decide +kernel
theorem dd_mo_init_141 : decode prog_7_method_1_code 141 = .ok (.newarray .int, 2) := by decide +kernel
theorem dd_mo_init_143 : decode prog_7_method_1_code 143 = .ok (.putfield 62, 3) := by decide +kernel
theorem dd_mo_init_146 : decode prog_7_method_1_code 146 = .ok (.return_, 1) := by decide +kernel
theorem dd_mo_thrown_0 : decode prog_7_method_2_code 0 = .ok (.aload_n 0, 1) := by decide +kernel
theorem dd_mo_thrown_1 : decode prog_7_method_2_code 1 = .ok (.getfield 65, 3) := by decide +kernel
theorem dd_mo_thrown_4 : decode prog_7_method_2_code 4 = .ok (.ireturn, 1) := by decide +kernel
theorem dd_mo_role_0 : decode prog_7_method_13_code 0 = .ok (.aload_n 0, 1) := by decide +kernel
theorem dd_mo_role_1 : decode prog_7_method_13_code 1 = .ok (.aload_n 0, 1) := by decide +kernel
theorem dd_mo_role_2 : decode prog_7_method_13_code 2 = .ok (.getfield 69, 3) := by decide +kernel
theorem dd_mo_role_5 : decode prog_7_method_13_code 5 = .ok (.bipush 6, 2) := by decide +kernel
theorem dd_mo_role_7 : decode prog_7_method_13_code 7 = .ok (.if_icmp .ge 7, 3) := by decide +kernel
theorem dd_mo_role_10 : decode prog_7_method_13_code 10 = .ok (.iconst 1, 1) := by decide +kernel
theorem dd_mo_role_11 : decode prog_7_method_13_code 11 = .ok (.goto 4, 3) := by decide +kernel
theorem dd_mo_role_14 : decode prog_7_method_13_code 14 = .ok (.iconst 0, 1) := by decide +kernel
theorem dd_mo_role_15 : decode prog_7_method_13_code 15 = .ok (.iconst 1, 1) := by decide +kernel
theorem dd_mo_role_16 : decode prog_7_method_13_code 16 = .ok (.invokevirtual 86, 3) := by decide +kernel
theorem dd_mo_role_19 : decode prog_7_method_13_code 19 = .ok (.ifCond .ne 5, 3) := by decide +kernel
theorem dd_mo_role_22 : decode prog_7_method_13_code 22 = .ok (.iconst 0, 1) := by decide +kernel
theorem dd_mo_role_23 : decode prog_7_method_13_code 23 = .ok (.ireturn, 1) := by decide +kernel
theorem dd_mo_role_24 : decode prog_7_method_13_code 24 = .ok (.aload_n 0, 1) := by decide +kernel
theorem dd_mo_role_25 : decode prog_7_method_13_code 25 = .ok (.getfield 7, 3) := by decide +kernel
theorem dd_mo_role_28 : decode prog_7_method_13_code 28 = .ok (.aload_n 0, 1) := by decide +kernel
theorem dd_mo_role_29 : decode prog_7_method_13_code 29 = .ok (.getfield 69, 3) := by decide +kernel
theorem dd_mo_role_32 : decode prog_7_method_13_code 32 = .ok (.iconst 0, 1) := by decide +kernel
theorem dd_mo_role_33 : decode prog_7_method_13_code 33 = .ok (.iastore, 1) := by decide +kernel
theorem dd_mo_role_34 : decode prog_7_method_13_code 34 = .ok (.aload_n 0, 1) := by decide +kernel
theorem dd_mo_role_35 : decode prog_7_method_13_code 35 = .ok (.getfield 13, 3) := by decide +kernel
theorem dd_mo_role_38 : decode prog_7_method_13_code 38 = .ok (.aload_n 0, 1) := by decide +kernel
theorem dd_mo_role_39 : decode prog_7_method_13_code 39 = .ok (.getfield 69, 3) := by decide +kernel
theorem dd_mo_role_42 : decode prog_7_method_13_code 42 = .ok (.iconst 0, 1) := by decide +kernel
theorem dd_mo_role_43 : decode prog_7_method_13_code 43 = .ok (.iastore, 1) := by decide +kernel
theorem dd_mo_role_44 : decode prog_7_method_13_code 44 = .ok (.aload_n 0, 1) := by decide +kernel
theorem dd_mo_role_45 : decode prog_7_method_13_code 45 = .ok (.dup, 1) := by decide +kernel
theorem dd_mo_role_46 : decode prog_7_method_13_code 46 = .ok (.getfield 69, 3) := by decide +kernel
theorem dd_mo_role_49 : decode prog_7_method_13_code 49 = .ok (.iconst 1, 1) := by decide +kernel
theorem dd_mo_role_50 : decode prog_7_method_13_code 50 = .ok (.iadd, 1) := by decide +kernel
theorem dd_mo_role_51 : decode prog_7_method_13_code 51 = .ok (.putfield 69, 3) := by decide +kernel
theorem dd_mo_role_54 : decode prog_7_method_13_code 54 = .ok (.aload_n 0, 1) := by decide +kernel
theorem dd_mo_role_55 : decode prog_7_method_13_code 55 = .ok (.getfield 69, 3) := by decide +kernel
theorem dd_mo_role_58 : decode prog_7_method_13_code 58 = .ok (.iconst 1, 1) := by decide +kernel
theorem dd_mo_role_59 : decode prog_7_method_13_code 59 = .ok (.isub, 1) := by decide +kernel
theorem dd_mo_role_60 : decode prog_7_method_13_code 60 = .ok (.ireturn, 1) := by decide +kernel
theorem dd_mo_when_0 : decode prog_7_method_3_code 0 = .ok (.aload_n 0, 1) := by decide +kernel
theorem dd_mo_when_1 : decode prog_7_method_3_code 1 = .ok (.iload_n 1, 1) := by decide +kernel
theorem dd_mo_when_2 : decode prog_7_method_3_code 2 = .ok (.ifCond .eq 7, 3) := by decide +kernel
theorem dd_mo_when_5 : decode prog_7_method_3_code 5 = .ok (.iconst 0, 1) := by decide +kernel
theorem dd_mo_when_6 : decode prog_7_method_3_code 6 = .ok (.goto 4, 3) := by decide +kernel
theorem dd_mo_when_9 : decode prog_7_method_3_code 9 = .ok (.iload_n 2, 1) := by decide +kernel
theorem dd_mo_when_10 : decode prog_7_method_3_code 10 = .ok (.putfield 65, 3) := by decide +kernel
theorem dd_mo_when_13 : decode prog_7_method_3_code 13 = .ok (.iload_n 1, 1) := by decide +kernel
theorem dd_mo_when_14 : decode prog_7_method_3_code 14 = .ok (.ireturn, 1) := by decide +kernel
theorem dd_mo_user_0 : decode prog_7_method_14_code 0 = .ok (.aload_n 0, 1) := by decide +kernel
theorem dd_mo_user_1 : decode prog_7_method_14_code 1 = .ok (.aload_n 0, 1) := by decide +kernel
theorem dd_mo_user_2 : decode prog_7_method_14_code 2 = .ok (.getfield 72, 3) := by decide +kernel
theorem dd_mo_user_5 : decode prog_7_method_14_code 5 = .ok (.iconst 5, 1) := by decide +kernel
theorem dd_mo_user_6 : decode prog_7_method_14_code 6 = .ok (.if_icmp .ge 7, 3) := by decide +kernel
theorem dd_mo_user_9 : decode prog_7_method_14_code 9 = .ok (.iconst 1, 1) := by decide +kernel
theorem dd_mo_user_10 : decode prog_7_method_14_code 10 = .ok (.goto 4, 3) := by decide +kernel
theorem dd_mo_user_13 : decode prog_7_method_14_code 13 = .ok (.iconst 0, 1) := by decide +kernel
theorem dd_mo_user_14 : decode prog_7_method_14_code 14 = .ok (.iconst 1, 1) := by decide +kernel
theorem dd_mo_user_15 : decode prog_7_method_14_code 15 = .ok (.invokevirtual 86, 3) := by decide +kernel
theorem dd_mo_user_18 : decode prog_7_method_14_code 18 = .ok (.ifCond .ne 5, 3) := by decide +kernel
theorem dd_mo_user_21 : decode prog_7_method_14_code 21 = .ok (.iconst 0, 1) := by decide +kernel
theorem dd_mo_user_22 : decode prog_7_method_14_code 22 = .ok (.ireturn, 1) := by decide +kernel
theorem dd_mo_user_23 : decode prog_7_method_14_code 23 = .ok (.aload_n 0, 1) := by decide +kernel
theorem dd_mo_user_24 : decode prog_7_method_14_code 24 = .ok (.getfield 19, 3) := by decide +kernel
theorem dd_mo_user_27 : decode prog_7_method_14_code 27 = .ok (.aload_n 0, 1) := by decide +kernel
theorem dd_mo_user_28 : decode prog_7_method_14_code 28 = .ok (.getfield 72, 3) := by decide +kernel
theorem dd_mo_user_31 : decode prog_7_method_14_code 31 = .ok (.iconst 0, 1) := by decide +kernel
theorem dd_mo_user_32 : decode prog_7_method_14_code 32 = .ok (.iastore, 1) := by decide +kernel
theorem dd_mo_user_33 : decode prog_7_method_14_code 33 = .ok (.aload_n 0, 1) := by decide +kernel
theorem dd_mo_user_34 : decode prog_7_method_14_code 34 = .ok (.dup, 1) := by decide +kernel
theorem dd_mo_user_35 : decode prog_7_method_14_code 35 = .ok (.getfield 72, 3) := by decide +kernel
theorem dd_mo_user_38 : decode prog_7_method_14_code 38 = .ok (.iconst 1, 1) := by decide +kernel
theorem dd_mo_user_39 : decode prog_7_method_14_code 39 = .ok (.iadd, 1) := by decide +kernel
theorem dd_mo_user_40 : decode prog_7_method_14_code 40 = .ok (.putfield 72, 3) := by decide +kernel
theorem dd_mo_user_43 : decode prog_7_method_14_code 43 = .ok (.aload_n 0, 1) := by decide +kernel
theorem dd_mo_user_44 : decode prog_7_method_14_code 44 = .ok (.getfield 72, 3) := by decide +kernel
theorem dd_mo_user_47 : decode prog_7_method_14_code 47 = .ok (.iconst 1, 1) := by decide +kernel
theorem dd_mo_user_48 : decode prog_7_method_14_code 48 = .ok (.isub, 1) := by decide +kernel
theorem dd_mo_user_49 : decode prog_7_method_14_code 49 = .ok (.ireturn, 1) := by decide +kernel
end
section
/-! decode rows: printed by wip/whole/facts.py -/
theorem dd_mo_above_0 : decode prog_7_method_15_code 0 = .ok (.aload_n 0, 1) := by decide +kernel
theorem dd_mo_above_1 : decode prog_7_method_15_code 1 = .ok (.aload_n 0, 1) := by decide +kernel
theorem dd_mo_above_2 : decode prog_7_method_15_code 2 = .ok (.iload_n 1, 1) := by decide +kernel
theorem dd_mo_above_3 : decode prog_7_method_15_code 3 = .ok (.invokevirtual 90, 3) := by decide +kernel
theorem dd_mo_above_6 : decode prog_7_method_15_code 6 = .ok (.ifCond .eq 15, 3) := by decide +kernel
theorem dd_mo_above_9 : decode prog_7_method_15_code 9 = .ok (.aload_n 0, 1) := by decide +kernel
theorem dd_mo_above_10 : decode prog_7_method_15_code 10 = .ok (.iload_n 2, 1) := by decide +kernel
theorem dd_mo_above_11 : decode prog_7_method_15_code 11 = .ok (.invokevirtual 90, 3) := by decide +kernel
theorem dd_mo_above_14 : decode prog_7_method_15_code 14 = .ok (.ifCond .eq 7, 3) := by decide +kernel
theorem dd_mo_above_17 : decode prog_7_method_15_code 17 = .ok (.iconst 1, 1) := by decide +kernel
theorem dd_mo_above_18 : decode prog_7_method_15_code 18 = .ok (.goto 4, 3) := by decide +kernel
theorem dd_mo_above_21 : decode prog_7_method_15_code 21 = .ok (.iconst 0, 1) := by decide +kernel
theorem dd_mo_above_22 : decode prog_7_method_15_code 22 = .ok (.iconst 1, 1) := by decide +kernel
theorem dd_mo_above_23 : decode prog_7_method_15_code 23 = .ok (.invokevirtual 86, 3) := by decide +kernel
theorem dd_mo_above_26 : decode prog_7_method_15_code 26 = .ok (.ifCond .eq 34, 3) := by decide +kernel
theorem dd_mo_above_29 : decode prog_7_method_15_code 29 = .ok (.aload_n 0, 1) := by decide +kernel
theorem dd_mo_above_30 : decode prog_7_method_15_code 30 = .ok (.iload_n 1, 1) := by decide +kernel
theorem dd_mo_above_31 : decode prog_7_method_15_code 31 = .ok (.iload_n 2, 1) := by decide +kernel
theorem dd_mo_above_32 : decode prog_7_method_15_code 32 = .ok (.if_icmp .eq 20, 3) := by decide +kernel
theorem dd_mo_above_35 : decode prog_7_method_15_code 35 = .ok (.aload_n 0, 1) := by decide +kernel
theorem dd_mo_above_36 : decode prog_7_method_15_code 36 = .ok (.getfield 7, 3) := by decide +kernel
theorem dd_mo_above_39 : decode prog_7_method_15_code 39 = .ok (.iload_n 2, 1) := by decide +kernel
theorem dd_mo_above_40 : decode prog_7_method_15_code 40 = .ok (.iaload, 1) := by decide +kernel
theorem dd_mo_above_41 : decode prog_7_method_15_code 41 = .ok (.iload_n 1, 1) := by decide +kernel
theorem dd_mo_above_42 : decode prog_7_method_15_code 42 = .ok (.ishr, 1) := by decide +kernel
theorem dd_mo_above_43 : decode prog_7_method_15_code 43 = .ok (.iconst 1, 1) := by decide +kernel
theorem dd_mo_above_44 : decode prog_7_method_15_code 44 = .ok (.iand, 1) := by decide +kernel
theorem dd_mo_above_45 : decode prog_7_method_15_code 45 = .ok (.ifCond .ne 7, 3) := by decide +kernel
theorem dd_mo_above_48 : decode prog_7_method_15_code 48 = .ok (.iconst 1, 1) := by decide +kernel
theorem dd_mo_above_49 : decode prog_7_method_15_code 49 = .ok (.goto 4, 3) := by decide +kernel
theorem dd_mo_above_52 : decode prog_7_method_15_code 52 = .ok (.iconst 0, 1) := by decide +kernel
theorem dd_mo_above_53 : decode prog_7_method_15_code 53 = .ok (.iconst 2, 1) := by decide +kernel
theorem dd_mo_above_54 : decode prog_7_method_15_code 54 = .ok (.invokevirtual 86, 3) := by decide +kernel
theorem dd_mo_above_57 : decode prog_7_method_15_code 57 = .ok (.ifCond .ne 5, 3) := by decide +kernel
theorem dd_mo_above_60 : decode prog_7_method_15_code 60 = .ok (.iconst 0, 1) := by decide +kernel
theorem dd_mo_above_61 : decode prog_7_method_15_code 61 = .ok (.ireturn, 1) := by decide +kernel
theorem dd_mo_above_62 : decode prog_7_method_15_code 62 = .ok (.aload_n 0, 1) := by decide +kernel
theorem dd_mo_above_63 : decode prog_7_method_15_code 63 = .ok (.getfield 7, 3) := by decide +kernel
theorem dd_mo_above_66 : decode prog_7_method_15_code 66 = .ok (.iload_n 1, 1) := by decide +kernel
theorem dd_mo_above_67 : decode prog_7_method_15_code 67 = .ok (.iaload, 1) := by decide +kernel
theorem dd_mo_above_68 : decode prog_7_method_15_code 68 = .ok (.iload_n 2, 1) := by decide +kernel
theorem dd_mo_above_69 : decode prog_7_method_15_code 69 = .ok (.ishr, 1) := by decide +kernel
theorem dd_mo_above_70 : decode prog_7_method_15_code 70 = .ok (.iconst 1, 1) := by decide +kernel
theorem dd_mo_above_71 : decode prog_7_method_15_code 71 = .ok (.iand, 1) := by decide +kernel
theorem dd_mo_above_72 : decode prog_7_method_15_code 72 = .ok (.ifCond .ne 7, 3) := by decide +kernel
theorem dd_mo_above_75 : decode prog_7_method_15_code 75 = .ok (.iconst 1, 1) := by decide +kernel
theorem dd_mo_above_76 : decode prog_7_method_15_code 76 = .ok (.goto 4, 3) := by decide +kernel
theorem dd_mo_above_79 : decode prog_7_method_15_code 79 = .ok (.iconst 0, 1) := by decide +kernel
theorem dd_mo_above_80 : decode prog_7_method_15_code 80 = .ok (.istore_n 3, 1) := by decide +kernel
theorem dd_mo_above_81 : decode prog_7_method_15_code 81 = .ok (.iconst 0, 1) := by decide +kernel
theorem dd_mo_above_82 : decode prog_7_method_15_code 82 = .ok (.istore 4, 2) := by decide +kernel
theorem dd_mo_above_84 : decode prog_7_method_15_code 84 = .ok (.iload 4, 2) := by decide +kernel
theorem dd_mo_above_86 : decode prog_7_method_15_code 86 = .ok (.aload_n 0, 1) := by decide +kernel
theorem dd_mo_above_87 : decode prog_7_method_15_code 87 = .ok (.getfield 69, 3) := by decide +kernel
theorem dd_mo_above_90 : decode prog_7_method_15_code 90 = .ok (.if_icmp .ge 23, 3) := by decide +kernel
theorem dd_mo_above_93 : decode prog_7_method_15_code 93 = .ok (.aload_n 0, 1) := by decide +kernel
theorem dd_mo_above_94 : decode prog_7_method_15_code 94 = .ok (.getfield 16, 3) := by decide +kernel
theorem dd_mo_above_97 : decode prog_7_method_15_code 97 = .ok (.iload 4, 2) := by decide +kernel
theorem dd_mo_above_99 : decode prog_7_method_15_code 99 = .ok (.aload_n 0, 1) := by decide +kernel
theorem dd_mo_above_100 : decode prog_7_method_15_code 100 = .ok (.getfield 7, 3) := by decide +kernel
theorem dd_mo_above_103 : decode prog_7_method_15_code 103 = .ok (.iload 4, 2) := by decide +kernel
theorem dd_mo_above_105 : decode prog_7_method_15_code 105 = .ok (.iaload, 1) := by decide +kernel
theorem dd_mo_above_106 : decode prog_7_method_15_code 106 = .ok (.iastore, 1) := by decide +kernel
theorem dd_mo_above_107 : decode prog_7_method_15_code 107 = .ok (.iinc 4 1, 3) := by decide +kernel
theorem dd_mo_above_110 : decode prog_7_method_15_code 110 = .ok (.goto (-26), 3) := by decide +kernel
theorem dd_mo_above_113 : decode prog_7_method_15_code 113 = .ok (.iconst 0, 1) := by decide +kernel
theorem dd_mo_above_114 : decode prog_7_method_15_code 114 = .ok (.istore 4, 2) := by decide +kernel
theorem dd_mo_above_116 : decode prog_7_method_15_code 116 = .ok (.iload 4, 2) := by decide +kernel
theorem dd_mo_above_118 : decode prog_7_method_15_code 118 = .ok (.aload_n 0, 1) := by decide +kernel
theorem dd_mo_above_119 : decode prog_7_method_15_code 119 = .ok (.getfield 69, 3) := by decide +kernel
theorem dd_mo_above_122 : decode prog_7_method_15_code 122 = .ok (.if_icmp .ge 65, 3) := by decide +kernel
theorem dd_mo_above_125 : decode prog_7_method_15_code 125 = .ok (.aload_n 0, 1) := by decide +kernel
theorem dd_mo_above_126 : decode prog_7_method_15_code 126 = .ok (.getfield 7, 3) := by decide +kernel
theorem dd_mo_above_129 : decode prog_7_method_15_code 129 = .ok (.iload 4, 2) := by decide +kernel
theorem dd_mo_above_131 : decode prog_7_method_15_code 131 = .ok (.iload 4, 2) := by decide +kernel
theorem dd_mo_above_133 : decode prog_7_method_15_code 133 = .ok (.iload_n 1, 1) := by decide +kernel
theorem dd_mo_above_134 : decode prog_7_method_15_code 134 = .ok (.if_icmp .eq 18, 3) := by decide +kernel
theorem dd_mo_above_137 : decode prog_7_method_15_code 137 = .ok (.aload_n 0, 1) := by decide +kernel
theorem dd_mo_above_138 : decode prog_7_method_15_code 138 = .ok (.getfield 16, 3) := by decide +kernel
theorem dd_mo_above_141 : decode prog_7_method_15_code 141 = .ok (.iload 4, 2) := by decide +kernel
theorem dd_mo_above_143 : decode prog_7_method_15_code 143 = .ok (.iaload, 1) := by decide +kernel
theorem dd_mo_above_144 : decode prog_7_method_15_code 144 = .ok (.iload_n 1, 1) := by decide +kernel
theorem dd_mo_above_145 : decode prog_7_method_15_code 145 = .ok (.ishr, 1) := by decide +kernel
theorem dd_mo_above_146 : decode prog_7_method_15_code 146 = .ok (.iconst 1, 1) := by decide +kernel
theorem dd_mo_above_147 : decode prog_7_method_15_code 147 = .ok (.iand, 1) := by decide +kernel
theorem dd_mo_above_148 : decode prog_7_method_15_code 148 = .ok (.iconst 1, 1) := by decide +kernel
theorem dd_mo_above_149 : decode prog_7_method_15_code 149 = .ok (.if_icmp .ne 24, 3) := by decide +kernel
theorem dd_mo_above_152 : decode prog_7_method_15_code 152 = .ok (.aload_n 0, 1) := by decide +kernel
theorem dd_mo_above_153 : decode prog_7_method_15_code 153 = .ok (.getfield 16, 3) := by decide +kernel
theorem dd_mo_above_156 : decode prog_7_method_15_code 156 = .ok (.iload 4, 2) := by decide +kernel
theorem dd_mo_above_158 : decode prog_7_method_15_code 158 = .ok (.iaload, 1) := by decide +kernel
theorem dd_mo_above_159 : decode prog_7_method_15_code 159 = .ok (.iconst 1, 1) := by decide +kernel
theorem dd_mo_above_160 : decode prog_7_method_15_code 160 = .ok (.iload_n 2, 1) := by decide +kernel
theorem dd_mo_above_161 : decode prog_7_method_15_code 161 = .ok (.ishl, 1) := by decide +kernel
theorem dd_mo_above_162 : decode prog_7_method_15_code 162 = .ok (.ior, 1) := by decide +kernel
theorem dd_mo_above_163 : decode prog_7_method_15_code 163 = .ok (.aload_n 0, 1) := by decide +kernel
theorem dd_mo_above_164 : decode prog_7_method_15_code 164 = .ok (.getfield 16, 3) := by decide +kernel
theorem dd_mo_above_167 : decode prog_7_method_15_code 167 = .ok (.iload_n 2, 1) := by decide +kernel
theorem dd_mo_above_168 : decode prog_7_method_15_code 168 = .ok (.iaload, 1) := by decide +kernel
theorem dd_mo_above_169 : decode prog_7_method_15_code 169 = .ok (.ior, 1) := by decide +kernel
theorem dd_mo_above_170 : decode prog_7_method_15_code 170 = .ok (.goto 10, 3) := by decide +kernel
theorem dd_mo_above_173 : decode prog_7_method_15_code 173 = .ok (.aload_n 0, 1) := by decide +kernel
theorem dd_mo_above_174 : decode prog_7_method_15_code 174 = .ok (.getfield 16, 3) := by decide +kernel
theorem dd_mo_above_177 : decode prog_7_method_15_code 177 = .ok (.iload 4, 2) := by decide +kernel
theorem dd_mo_above_179 : decode prog_7_method_15_code 179 = .ok (.iaload, 1) := by decide +kernel
theorem dd_mo_above_180 : decode prog_7_method_15_code 180 = .ok (.iastore, 1) := by decide +kernel
theorem dd_mo_above_181 : decode prog_7_method_15_code 181 = .ok (.iinc 4 1, 3) := by decide +kernel
theorem dd_mo_above_184 : decode prog_7_method_15_code 184 = .ok (.goto (-68), 3) := by decide +kernel
theorem dd_mo_above_187 : decode prog_7_method_15_code 187 = .ok (.aload_n 0, 1) := by decide +kernel
theorem dd_mo_above_188 : decode prog_7_method_15_code 188 = .ok (.aload_n 0, 1) := by decide +kernel
theorem dd_mo_above_189 : decode prog_7_method_15_code 189 = .ok (.invokevirtual 93, 3) := by decide +kernel
theorem dd_mo_above_192 : decode prog_7_method_15_code 192 = .ok (.iconst 3, 1) := by decide +kernel
theorem dd_mo_above_193 : decode prog_7_method_15_code 193 = .ok (.invokevirtual 86, 3) := by decide +kernel
theorem dd_mo_above_196 : decode prog_7_method_15_code 196 = .ok (.ifCond .eq 5, 3) := by decide +kernel
theorem dd_mo_above_199 : decode prog_7_method_15_code 199 = .ok (.iload_n 3, 1) := by decide +kernel
theorem dd_mo_above_200 : decode prog_7_method_15_code 200 = .ok (.ireturn, 1) := by decide +kernel
theorem dd_mo_above_201 : decode prog_7_method_15_code 201 = .ok (.iconst 0, 1) := by decide +kernel
theorem dd_mo_above_202 : decode prog_7_method_15_code 202 = .ok (.istore 4, 2) := by decide +kernel
theorem dd_mo_above_204 : decode prog_7_method_15_code 204 = .ok (.iload 4, 2) := by decide +kernel
theorem dd_mo_above_206 : decode prog_7_method_15_code 206 = .ok (.aload_n 0, 1) := by decide +kernel
theorem dd_mo_above_207 : decode prog_7_method_15_code 207 = .ok (.getfield 69, 3) := by decide +kernel
theorem dd_mo_above_210 : decode prog_7_method_15_code 210 = .ok (.if_icmp .ge 23, 3) := by decide +kernel
theorem dd_mo_above_213 : decode prog_7_method_15_code 213 = .ok (.aload_n 0, 1) := by decide +kernel
theorem dd_mo_above_214 : decode prog_7_method_15_code 214 = .ok (.getfield 7, 3) := by decide +kernel
theorem dd_mo_above_217 : decode prog_7_method_15_code 217 = .ok (.iload 4, 2) := by decide +kernel
theorem dd_mo_above_219 : decode prog_7_method_15_code 219 = .ok (.aload_n 0, 1) := by decide +kernel
theorem dd_mo_above_220 : decode prog_7_method_15_code 220 = .ok (.getfield 16, 3) := by decide +kernel
theorem dd_mo_above_223 : decode prog_7_method_15_code 223 = .ok (.iload 4, 2) := by decide +kernel
theorem dd_mo_above_225 : decode prog_7_method_15_code 225 = .ok (.iaload, 1) := by decide +kernel
theorem dd_mo_above_226 : decode prog_7_method_15_code 226 = .ok (.iastore, 1) := by decide +kernel
theorem dd_mo_above_227 : decode prog_7_method_15_code 227 = .ok (.iinc 4 1, 3) := by decide +kernel
theorem dd_mo_above_230 : decode prog_7_method_15_code 230 = .ok (.goto (-26), 3) := by decide +kernel
theorem dd_mo_above_233 : decode prog_7_method_15_code 233 = .ok (.iconst 0, 1) := by decide +kernel
theorem dd_mo_above_234 : decode prog_7_method_15_code 234 = .ok (.ireturn, 1) := by decide +kernel
theorem dd_mo_isRole_0 : decode prog_7_method_4_code 0 = .ok (.iload_n 1, 1) := by decide +kernel
theorem dd_mo_isRole_1 : decode prog_7_method_4_code 1 = .ok (.ifCond .lt 15, 3) := by decide +kernel
theorem dd_mo_isRole_4 : decode prog_7_method_4_code 4 = .ok (.iload_n 1, 1) := by decide +kernel
theorem dd_mo_isRole_5 : decode prog_7_method_4_code 5 = .ok (.aload_n 0, 1) := by decide +kernel
theorem dd_mo_isRole_6 : decode prog_7_method_4_code 6 = .ok (.getfield 69, 3) := by decide +kernel
theorem dd_mo_isRole_9 : decode prog_7_method_4_code 9 = .ok (.if_icmp .ge 7, 3) := by decide +kernel
theorem dd_mo_isRole_12 : decode prog_7_method_4_code 12 = .ok (.iconst 1, 1) := by decide +kernel
theorem dd_mo_isRole_13 : decode prog_7_method_4_code 13 = .ok (.goto 4, 3) := by decide +kernel
theorem dd_mo_isRole_16 : decode prog_7_method_4_code 16 = .ok (.iconst 0, 1) := by decide +kernel
theorem dd_mo_isRole_17 : decode prog_7_method_4_code 17 = .ok (.ireturn, 1) := by decide +kernel
theorem dd_mo_allStaticKept_0 : decode prog_7_method_10_code 0 = .ok (.iconst 1, 1) := by decide +kernel
theorem dd_mo_allStaticKept_1 : decode prog_7_method_10_code 1 = .ok (.istore_n 1, 1) := by decide +kernel
theorem dd_mo_allStaticKept_2 : decode prog_7_method_10_code 2 = .ok (.iconst 0, 1) := by decide +kernel
theorem dd_mo_allStaticKept_3 : decode prog_7_method_10_code 3 = .ok (.istore_n 2, 1) := by decide +kernel
theorem dd_mo_allStaticKept_4 : decode prog_7_method_10_code 4 = .ok (.iload_n 2, 1) := by decide +kernel
theorem dd_mo_allStaticKept_5 : decode prog_7_method_10_code 5 = .ok (.aload_n 0, 1) := by decide +kernel
theorem dd_mo_allStaticKept_6 : decode prog_7_method_10_code 6 = .ok (.getfield 72, 3) := by decide +kernel
theorem dd_mo_allStaticKept_9 : decode prog_7_method_10_code 9 = .ok (.if_icmp .ge 32, 3) := by decide +kernel
theorem dd_mo_allStaticKept_12 : decode prog_7_method_10_code 12 = .ok (.iload_n 1, 1) := by decide +kernel
theorem dd_mo_allStaticKept_13 : decode prog_7_method_10_code 13 = .ok (.ifCond .eq 20, 3) := by decide +kernel
theorem dd_mo_allStaticKept_16 : decode prog_7_method_10_code 16 = .ok (.aload_n 0, 1) := by decide +kernel
theorem dd_mo_allStaticKept_17 : decode prog_7_method_10_code 17 = .ok (.aload_n 0, 1) := by decide +kernel
theorem dd_mo_allStaticKept_18 : decode prog_7_method_10_code 18 = .ok (.getfield 19, 3) := by decide +kernel
theorem dd_mo_allStaticKept_21 : decode prog_7_method_10_code 21 = .ok (.iload_n 2, 1) := by decide +kernel
theorem dd_mo_allStaticKept_22 : decode prog_7_method_10_code 22 = .ok (.iaload, 1) := by decide +kernel
theorem dd_mo_allStaticKept_23 : decode prog_7_method_10_code 23 = .ok (.invokevirtual 82, 3) := by decide +kernel
theorem dd_mo_allStaticKept_26 : decode prog_7_method_10_code 26 = .ok (.ifCond .eq 7, 3) := by decide +kernel
theorem dd_mo_allStaticKept_29 : decode prog_7_method_10_code 29 = .ok (.iconst 1, 1) := by decide +kernel
theorem dd_mo_allStaticKept_30 : decode prog_7_method_10_code 30 = .ok (.goto 4, 3) := by decide +kernel
theorem dd_mo_allStaticKept_33 : decode prog_7_method_10_code 33 = .ok (.iconst 0, 1) := by decide +kernel
theorem dd_mo_allStaticKept_34 : decode prog_7_method_10_code 34 = .ok (.istore_n 1, 1) := by decide +kernel
theorem dd_mo_allStaticKept_35 : decode prog_7_method_10_code 35 = .ok (.iinc 2 1, 3) := by decide +kernel
theorem dd_mo_allStaticKept_38 : decode prog_7_method_10_code 38 = .ok (.goto (-34), 3) := by decide +kernel
theorem dd_mo_allStaticKept_41 : decode prog_7_method_10_code 41 = .ok (.iload_n 1, 1) := by decide +kernel
theorem dd_mo_allStaticKept_42 : decode prog_7_method_10_code 42 = .ok (.ireturn, 1) := by decide +kernel
theorem dd_mo_staticKept_0 : decode prog_7_method_9_code 0 = .ok (.aload_n 0, 1) := by decide +kernel
theorem dd_mo_staticKept_1 : decode prog_7_method_9_code 1 = .ok (.iload_n 1, 1) := by decide +kernel
theorem dd_mo_staticKept_2 : decode prog_7_method_9_code 2 = .ok (.invokevirtual 75, 3) := by decide +kernel
theorem dd_mo_staticKept_5 : decode prog_7_method_9_code 5 = .ok (.istore_n 2, 1) := by decide +kernel
theorem dd_mo_staticKept_6 : decode prog_7_method_9_code 6 = .ok (.iconst 1, 1) := by decide +kernel
theorem dd_mo_staticKept_7 : decode prog_7_method_9_code 7 = .ok (.istore_n 3, 1) := by decide +kernel
theorem dd_mo_staticKept_8 : decode prog_7_method_9_code 8 = .ok (.iconst 0, 1) := by decide +kernel
theorem dd_mo_staticKept_9 : decode prog_7_method_9_code 9 = .ok (.istore 4, 2) := by decide +kernel
theorem dd_mo_staticKept_11 : decode prog_7_method_9_code 11 = .ok (.iload 4, 2) := by decide +kernel
theorem dd_mo_staticKept_13 : decode prog_7_method_9_code 13 = .ok (.aload_n 0, 1) := by decide +kernel
theorem dd_mo_staticKept_14 : decode prog_7_method_9_code 14 = .ok (.getfield 22, 3) := by decide +kernel
theorem dd_mo_staticKept_17 : decode prog_7_method_9_code 17 = .ok (.iconst 0, 1) := by decide +kernel
theorem dd_mo_staticKept_18 : decode prog_7_method_9_code 18 = .ok (.iaload, 1) := by decide +kernel
theorem dd_mo_staticKept_19 : decode prog_7_method_9_code 19 = .ok (.if_icmp .ge 41, 3) := by decide +kernel
theorem dd_mo_staticKept_22 : decode prog_7_method_9_code 22 = .ok (.iload_n 3, 1) := by decide +kernel
theorem dd_mo_staticKept_23 : decode prog_7_method_9_code 23 = .ok (.ifCond .eq 29, 3) := by decide +kernel
theorem dd_mo_staticKept_26 : decode prog_7_method_9_code 26 = .ok (.iload_n 2, 1) := by decide +kernel
theorem dd_mo_staticKept_27 : decode prog_7_method_9_code 27 = .ok (.aload_n 0, 1) := by decide +kernel
theorem dd_mo_staticKept_28 : decode prog_7_method_9_code 28 = .ok (.getfield 25, 3) := by decide +kernel
theorem dd_mo_staticKept_31 : decode prog_7_method_9_code 31 = .ok (.iload 4, 2) := by decide +kernel
theorem dd_mo_staticKept_33 : decode prog_7_method_9_code 33 = .ok (.iaload, 1) := by decide +kernel
theorem dd_mo_staticKept_34 : decode prog_7_method_9_code 34 = .ok (.iand, 1) := by decide +kernel
theorem dd_mo_staticKept_35 : decode prog_7_method_9_code 35 = .ok (.invokestatic 79, 3) := by decide +kernel
theorem dd_mo_staticKept_38 : decode prog_7_method_9_code 38 = .ok (.aload_n 0, 1) := by decide +kernel
theorem dd_mo_staticKept_39 : decode prog_7_method_9_code 39 = .ok (.getfield 28, 3) := by decide +kernel
theorem dd_mo_staticKept_42 : decode prog_7_method_9_code 42 = .ok (.iload 4, 2) := by decide +kernel
theorem dd_mo_staticKept_44 : decode prog_7_method_9_code 44 = .ok (.iaload, 1) := by decide +kernel
theorem dd_mo_staticKept_45 : decode prog_7_method_9_code 45 = .ok (.if_icmp .ge 7, 3) := by decide +kernel
theorem dd_mo_staticKept_48 : decode prog_7_method_9_code 48 = .ok (.iconst 1, 1) := by decide +kernel
theorem dd_mo_staticKept_49 : decode prog_7_method_9_code 49 = .ok (.goto 4, 3) := by decide +kernel
theorem dd_mo_staticKept_52 : decode prog_7_method_9_code 52 = .ok (.iconst 0, 1) := by decide +kernel
theorem dd_mo_staticKept_53 : decode prog_7_method_9_code 53 = .ok (.istore_n 3, 1) := by decide +kernel
theorem dd_mo_staticKept_54 : decode prog_7_method_9_code 54 = .ok (.iinc 4 1, 3) := by decide +kernel
theorem dd_mo_staticKept_57 : decode prog_7_method_9_code 57 = .ok (.goto (-46), 3) := by decide +kernel
theorem dd_mo_staticKept_60 : decode prog_7_method_9_code 60 = .ok (.iload_n 3, 1) := by decide +kernel
theorem dd_mo_staticKept_61 : decode prog_7_method_9_code 61 = .ok (.ireturn, 1) := by decide +kernel
theorem dd_mo_closed_0 : decode prog_7_method_8_code 0 = .ok (.iload_n 1, 1) := by decide +kernel
theorem dd_mo_closed_1 : decode prog_7_method_8_code 1 = .ok (.istore_n 2, 1) := by decide +kernel
theorem dd_mo_closed_2 : decode prog_7_method_8_code 2 = .ok (.iconst 0, 1) := by decide +kernel
theorem dd_mo_closed_3 : decode prog_7_method_8_code 3 = .ok (.istore_n 3, 1) := by decide +kernel
theorem dd_mo_closed_4 : decode prog_7_method_8_code 4 = .ok (.iload_n 3, 1) := by decide +kernel
theorem dd_mo_closed_5 : decode prog_7_method_8_code 5 = .ok (.aload_n 0, 1) := by decide +kernel
theorem dd_mo_closed_6 : decode prog_7_method_8_code 6 = .ok (.getfield 69, 3) := by decide +kernel
theorem dd_mo_closed_9 : decode prog_7_method_8_code 9 = .ok (.if_icmp .ge 31, 3) := by decide +kernel
theorem dd_mo_closed_12 : decode prog_7_method_8_code 12 = .ok (.iload_n 1, 1) := by decide +kernel
theorem dd_mo_closed_13 : decode prog_7_method_8_code 13 = .ok (.iload_n 3, 1) := by decide +kernel
theorem dd_mo_closed_14 : decode prog_7_method_8_code 14 = .ok (.ishr, 1) := by decide +kernel
theorem dd_mo_closed_15 : decode prog_7_method_8_code 15 = .ok (.iconst 1, 1) := by decide +kernel
theorem dd_mo_closed_16 : decode prog_7_method_8_code 16 = .ok (.iand, 1) := by decide +kernel
theorem dd_mo_closed_17 : decode prog_7_method_8_code 17 = .ok (.iconst 1, 1) := by decide +kernel
theorem dd_mo_closed_18 : decode prog_7_method_8_code 18 = .ok (.if_icmp .ne 14, 3) := by decide +kernel
theorem dd_mo_closed_21 : decode prog_7_method_8_code 21 = .ok (.iload_n 2, 1) := by decide +kernel
theorem dd_mo_closed_22 : decode prog_7_method_8_code 22 = .ok (.aload_n 0, 1) := by decide +kernel
theorem dd_mo_closed_23 : decode prog_7_method_8_code 23 = .ok (.getfield 7, 3) := by decide +kernel
theorem dd_mo_closed_26 : decode prog_7_method_8_code 26 = .ok (.iload_n 3, 1) := by decide +kernel
theorem dd_mo_closed_27 : decode prog_7_method_8_code 27 = .ok (.iaload, 1) := by decide +kernel
theorem dd_mo_closed_28 : decode prog_7_method_8_code 28 = .ok (.ior, 1) := by decide +kernel
theorem dd_mo_closed_29 : decode prog_7_method_8_code 29 = .ok (.goto 4, 3) := by decide +kernel
theorem dd_mo_closed_32 : decode prog_7_method_8_code 32 = .ok (.iload_n 2, 1) := by decide +kernel
theorem dd_mo_closed_33 : decode prog_7_method_8_code 33 = .ok (.istore_n 2, 1) := by decide +kernel
theorem dd_mo_closed_34 : decode prog_7_method_8_code 34 = .ok (.iinc 3 1, 3) := by decide +kernel
theorem dd_mo_closed_37 : decode prog_7_method_8_code 37 = .ok (.goto (-33), 3) := by decide +kernel
theorem dd_mo_closed_40 : decode prog_7_method_8_code 40 = .ok (.iload_n 2, 1) := by decide +kernel
theorem dd_mo_closed_41 : decode prog_7_method_8_code 41 = .ok (.ireturn, 1) := by decide +kernel
theorem dd_mo_count_0 : decode prog_7_method_7_code 0 = .ok (.iconst 0, 1) := by decide +kernel
theorem dd_mo_count_1 : decode prog_7_method_7_code 1 = .ok (.istore_n 1, 1) := by decide +kernel
theorem dd_mo_count_2 : decode prog_7_method_7_code 2 = .ok (.iconst 0, 1) := by decide +kernel
theorem dd_mo_count_3 : decode prog_7_method_7_code 3 = .ok (.istore_n 2, 1) := by decide +kernel
theorem dd_mo_count_4 : decode prog_7_method_7_code 4 = .ok (.iload_n 2, 1) := by decide +kernel
theorem dd_mo_count_5 : decode prog_7_method_7_code 5 = .ok (.bipush 31, 2) := by decide +kernel
theorem dd_mo_count_7 : decode prog_7_method_7_code 7 = .ok (.if_icmp .ge 17, 3) := by decide +kernel
theorem dd_mo_count_10 : decode prog_7_method_7_code 10 = .ok (.iload_n 1, 1) := by decide +kernel
theorem dd_mo_count_11 : decode prog_7_method_7_code 11 = .ok (.iload_n 0, 1) := by decide +kernel
theorem dd_mo_count_12 : decode prog_7_method_7_code 12 = .ok (.iload_n 2, 1) := by decide +kernel
theorem dd_mo_count_13 : decode prog_7_method_7_code 13 = .ok (.ishr, 1) := by decide +kernel
theorem dd_mo_count_14 : decode prog_7_method_7_code 14 = .ok (.iconst 1, 1) := by decide +kernel
theorem dd_mo_count_15 : decode prog_7_method_7_code 15 = .ok (.iand, 1) := by decide +kernel
theorem dd_mo_count_16 : decode prog_7_method_7_code 16 = .ok (.iadd, 1) := by decide +kernel
theorem dd_mo_count_17 : decode prog_7_method_7_code 17 = .ok (.istore_n 1, 1) := by decide +kernel
theorem dd_mo_count_18 : decode prog_7_method_7_code 18 = .ok (.iinc 2 1, 3) := by decide +kernel
theorem dd_mo_count_21 : decode prog_7_method_7_code 21 = .ok (.goto (-17), 3) := by decide +kernel
theorem dd_mo_count_24 : decode prog_7_method_7_code 24 = .ok (.iload_n 1, 1) := by decide +kernel
theorem dd_mo_count_25 : decode prog_7_method_7_code 25 = .ok (.ireturn, 1) := by decide +kernel
theorem dd_mo_grant_0 : decode prog_7_method_16_code 0 = .ok (.aload_n 0, 1) := by decide +kernel
theorem dd_mo_grant_1 : decode prog_7_method_16_code 1 = .ok (.aload_n 0, 1) := by decide +kernel
theorem dd_mo_grant_2 : decode prog_7_method_16_code 2 = .ok (.iload_n 1, 1) := by decide +kernel
theorem dd_mo_grant_3 : decode prog_7_method_16_code 3 = .ok (.invokevirtual 90, 3) := by decide +kernel
theorem dd_mo_grant_6 : decode prog_7_method_16_code 6 = .ok (.ifCond .eq 17, 3) := by decide +kernel
theorem dd_mo_grant_9 : decode prog_7_method_16_code 9 = .ok (.iload_n 2, 1) := by decide +kernel
theorem dd_mo_grant_10 : decode prog_7_method_16_code 10 = .ok (.ifCond .lt 13, 3) := by decide +kernel
theorem dd_mo_grant_13 : decode prog_7_method_16_code 13 = .ok (.iload_n 2, 1) := by decide +kernel
theorem dd_mo_grant_14 : decode prog_7_method_16_code 14 = .ok (.bipush 30, 2) := by decide +kernel
theorem dd_mo_grant_16 : decode prog_7_method_16_code 16 = .ok (.if_icmp .gt 7, 3) := by decide +kernel
theorem dd_mo_grant_19 : decode prog_7_method_16_code 19 = .ok (.iconst 1, 1) := by decide +kernel
theorem dd_mo_grant_20 : decode prog_7_method_16_code 20 = .ok (.goto 4, 3) := by decide +kernel
theorem dd_mo_grant_23 : decode prog_7_method_16_code 23 = .ok (.iconst 0, 1) := by decide +kernel
theorem dd_mo_grant_24 : decode prog_7_method_16_code 24 = .ok (.iconst 1, 1) := by decide +kernel
theorem dd_mo_grant_25 : decode prog_7_method_16_code 25 = .ok (.invokevirtual 86, 3) := by decide +kernel
theorem dd_mo_grant_28 : decode prog_7_method_16_code 28 = .ok (.ifCond .ne 5, 3) := by decide +kernel
theorem dd_mo_grant_31 : decode prog_7_method_16_code 31 = .ok (.iconst 0, 1) := by decide +kernel
theorem dd_mo_grant_32 : decode prog_7_method_16_code 32 = .ok (.ireturn, 1) := by decide +kernel
theorem dd_mo_grant_33 : decode prog_7_method_16_code 33 = .ok (.aload_n 0, 1) := by decide +kernel
theorem dd_mo_grant_34 : decode prog_7_method_16_code 34 = .ok (.getfield 13, 3) := by decide +kernel
theorem dd_mo_grant_37 : decode prog_7_method_16_code 37 = .ok (.iload_n 1, 1) := by decide +kernel
theorem dd_mo_grant_38 : decode prog_7_method_16_code 38 = .ok (.iaload, 1) := by decide +kernel
theorem dd_mo_grant_39 : decode prog_7_method_16_code 39 = .ok (.iload_n 2, 1) := by decide +kernel
theorem dd_mo_grant_40 : decode prog_7_method_16_code 40 = .ok (.ishr, 1) := by decide +kernel
theorem dd_mo_grant_41 : decode prog_7_method_16_code 41 = .ok (.iconst 1, 1) := by decide +kernel
theorem dd_mo_grant_42 : decode prog_7_method_16_code 42 = .ok (.iand, 1) := by decide +kernel
theorem dd_mo_grant_43 : decode prog_7_method_16_code 43 = .ok (.ifCond .ne 7, 3) := by decide +kernel
theorem dd_mo_grant_46 : decode prog_7_method_16_code 46 = .ok (.iconst 1, 1) := by decide +kernel
theorem dd_mo_grant_47 : decode prog_7_method_16_code 47 = .ok (.goto 4, 3) := by decide +kernel
theorem dd_mo_grant_50 : decode prog_7_method_16_code 50 = .ok (.iconst 0, 1) := by decide +kernel
theorem dd_mo_grant_51 : decode prog_7_method_16_code 51 = .ok (.istore_n 3, 1) := by decide +kernel
theorem dd_mo_grant_52 : decode prog_7_method_16_code 52 = .ok (.aload_n 0, 1) := by decide +kernel
theorem dd_mo_grant_53 : decode prog_7_method_16_code 53 = .ok (.getfield 13, 3) := by decide +kernel
theorem dd_mo_grant_56 : decode prog_7_method_16_code 56 = .ok (.iload_n 1, 1) := by decide +kernel
theorem dd_mo_grant_57 : decode prog_7_method_16_code 57 = .ok (.aload_n 0, 1) := by decide +kernel
theorem dd_mo_grant_58 : decode prog_7_method_16_code 58 = .ok (.getfield 13, 3) := by decide +kernel
theorem dd_mo_grant_61 : decode prog_7_method_16_code 61 = .ok (.iload_n 1, 1) := by decide +kernel
theorem dd_mo_grant_62 : decode prog_7_method_16_code 62 = .ok (.iaload, 1) := by decide +kernel
theorem dd_mo_grant_63 : decode prog_7_method_16_code 63 = .ok (.iconst 1, 1) := by decide +kernel
theorem dd_mo_grant_64 : decode prog_7_method_16_code 64 = .ok (.iload_n 2, 1) := by decide +kernel
theorem dd_mo_grant_65 : decode prog_7_method_16_code 65 = .ok (.ishl, 1) := by decide +kernel
theorem dd_mo_grant_66 : decode prog_7_method_16_code 66 = .ok (.ior, 1) := by decide +kernel
theorem dd_mo_grant_67 : decode prog_7_method_16_code 67 = .ok (.iastore, 1) := by decide +kernel
theorem dd_mo_grant_68 : decode prog_7_method_16_code 68 = .ok (.iload_n 3, 1) := by decide +kernel
theorem dd_mo_grant_69 : decode prog_7_method_16_code 69 = .ok (.ireturn, 1) := by decide +kernel
theorem dd_mo_limit_0 : decode prog_7_method_17_code 0 = .ok (.iload_n 1, 1) := by decide +kernel
theorem dd_mo_limit_1 : decode prog_7_method_17_code 1 = .ok (.ifCond .eq 7, 3) := by decide +kernel
theorem dd_mo_limit_4 : decode prog_7_method_17_code 4 = .ok (.iconst 1, 1) := by decide +kernel
theorem dd_mo_limit_5 : decode prog_7_method_17_code 5 = .ok (.goto 4, 3) := by decide +kernel
theorem dd_mo_limit_8 : decode prog_7_method_17_code 8 = .ok (.iconst 0, 1) := by decide +kernel
theorem dd_mo_limit_9 : decode prog_7_method_17_code 9 = .ok (.istore 4, 2) := by decide +kernel
theorem dd_mo_limit_11 : decode prog_7_method_17_code 11 = .ok (.aload_n 0, 1) := by decide +kernel
theorem dd_mo_limit_12 : decode prog_7_method_17_code 12 = .ok (.iload_n 3, 1) := by decide +kernel
theorem dd_mo_limit_13 : decode prog_7_method_17_code 13 = .ok (.iconst 2, 1) := by decide +kernel
theorem dd_mo_limit_14 : decode prog_7_method_17_code 14 = .ok (.if_icmp .lt 17, 3) := by decide +kernel
theorem dd_mo_limit_17 : decode prog_7_method_17_code 17 = .ok (.iload_n 2, 1) := by decide +kernel
theorem dd_mo_limit_18 : decode prog_7_method_17_code 18 = .ok (.ifCond .lt 13, 3) := by decide +kernel
theorem dd_mo_limit_21 : decode prog_7_method_17_code 21 = .ok (.iload_n 2, 1) := by decide +kernel
theorem dd_mo_limit_22 : decode prog_7_method_17_code 22 = .ok (.bipush 63, 2) := by decide +kernel
theorem dd_mo_limit_24 : decode prog_7_method_17_code 24 = .ok (.if_icmp .gt 7, 3) := by decide +kernel
theorem dd_mo_limit_27 : decode prog_7_method_17_code 27 = .ok (.iconst 1, 1) := by decide +kernel
theorem dd_mo_limit_28 : decode prog_7_method_17_code 28 = .ok (.goto 4, 3) := by decide +kernel
theorem dd_mo_limit_31 : decode prog_7_method_17_code 31 = .ok (.iconst 0, 1) := by decide +kernel
theorem dd_mo_limit_32 : decode prog_7_method_17_code 32 = .ok (.iconst 1, 1) := by decide +kernel
theorem dd_mo_limit_33 : decode prog_7_method_17_code 33 = .ok (.invokevirtual 86, 3) := by decide +kernel
theorem dd_mo_limit_36 : decode prog_7_method_17_code 36 = .ok (.ifCond .eq 27, 3) := by decide +kernel
theorem dd_mo_limit_39 : decode prog_7_method_17_code 39 = .ok (.aload_n 0, 1) := by decide +kernel
theorem dd_mo_limit_40 : decode prog_7_method_17_code 40 = .ok (.aload_n 0, 1) := by decide +kernel
theorem dd_mo_limit_41 : decode prog_7_method_17_code 41 = .ok (.getfield 22, 3) := by decide +kernel
theorem dd_mo_limit_44 : decode prog_7_method_17_code 44 = .ok (.iload 4, 2) := by decide +kernel
theorem dd_mo_limit_46 : decode prog_7_method_17_code 46 = .ok (.iaload, 1) := by decide +kernel
theorem dd_mo_limit_47 : decode prog_7_method_17_code 47 = .ok (.iconst 4, 1) := by decide +kernel
theorem dd_mo_limit_48 : decode prog_7_method_17_code 48 = .ok (.if_icmp .ge 7, 3) := by decide +kernel
theorem dd_mo_limit_51 : decode prog_7_method_17_code 51 = .ok (.iconst 1, 1) := by decide +kernel
theorem dd_mo_limit_52 : decode prog_7_method_17_code 52 = .ok (.goto 4, 3) := by decide +kernel
theorem dd_mo_limit_55 : decode prog_7_method_17_code 55 = .ok (.iconst 0, 1) := by decide +kernel
theorem dd_mo_limit_56 : decode prog_7_method_17_code 56 = .ok (.iconst 2, 1) := by decide +kernel
theorem dd_mo_limit_57 : decode prog_7_method_17_code 57 = .ok (.invokevirtual 86, 3) := by decide +kernel
theorem dd_mo_limit_60 : decode prog_7_method_17_code 60 = .ok (.ifCond .ne 4, 3) := by decide +kernel
theorem dd_mo_limit_63 : decode prog_7_method_17_code 63 = .ok (.return_, 1) := by decide +kernel
theorem dd_mo_limit_64 : decode prog_7_method_17_code 64 = .ok (.iconst 4, 1) := by decide +kernel
theorem dd_mo_limit_65 : decode prog_7_method_17_code 65 = .ok (.iload 4, 2) := by decide +kernel
theorem dd_mo_limit_67 : decode prog_7_method_17_code 67 = .ok (.imul, 1) := by decide +kernel
theorem dd_mo_limit_68 : decode prog_7_method_17_code 68 = .ok (.aload_n 0, 1) := by decide +kernel
theorem dd_mo_limit_69 : decode prog_7_method_17_code 69 = .ok (.getfield 22, 3) := by decide +kernel
theorem dd_mo_limit_72 : decode prog_7_method_17_code 72 = .ok (.iload 4, 2) := by decide +kernel
theorem dd_mo_limit_74 : decode prog_7_method_17_code 74 = .ok (.iaload, 1) := by decide +kernel
theorem dd_mo_limit_75 : decode prog_7_method_17_code 75 = .ok (.iadd, 1) := by decide +kernel
theorem dd_mo_limit_76 : decode prog_7_method_17_code 76 = .ok (.istore 5, 2) := by decide +kernel
theorem dd_mo_limit_78 : decode prog_7_method_17_code 78 = .ok (.aload_n 0, 1) := by decide +kernel
theorem dd_mo_limit_79 : decode prog_7_method_17_code 79 = .ok (.getfield 25, 3) := by decide +kernel
theorem dd_mo_limit_82 : decode prog_7_method_17_code 82 = .ok (.iload 5, 2) := by decide +kernel
theorem dd_mo_limit_84 : decode prog_7_method_17_code 84 = .ok (.iload_n 2, 1) := by decide +kernel
theorem dd_mo_limit_85 : decode prog_7_method_17_code 85 = .ok (.iastore, 1) := by decide +kernel
theorem dd_mo_limit_86 : decode prog_7_method_17_code 86 = .ok (.aload_n 0, 1) := by decide +kernel
theorem dd_mo_limit_87 : decode prog_7_method_17_code 87 = .ok (.getfield 28, 3) := by decide +kernel
theorem dd_mo_limit_90 : decode prog_7_method_17_code 90 = .ok (.iload 5, 2) := by decide +kernel
theorem dd_mo_limit_92 : decode prog_7_method_17_code 92 = .ok (.iload_n 3, 1) := by decide +kernel
theorem dd_mo_limit_93 : decode prog_7_method_17_code 93 = .ok (.iastore, 1) := by decide +kernel
theorem dd_mo_limit_94 : decode prog_7_method_17_code 94 = .ok (.aload_n 0, 1) := by decide +kernel
theorem dd_mo_limit_95 : decode prog_7_method_17_code 95 = .ok (.getfield 22, 3) := by decide +kernel
theorem dd_mo_limit_98 : decode prog_7_method_17_code 98 = .ok (.iload 4, 2) := by decide +kernel
theorem dd_mo_limit_100 : decode prog_7_method_17_code 100 = .ok (.dup2, 1) := by decide +kernel
theorem dd_mo_limit_101 : decode prog_7_method_17_code 101 = .ok (.iaload, 1) := by decide +kernel
theorem dd_mo_limit_102 : decode prog_7_method_17_code 102 = .ok (.iconst 1, 1) := by decide +kernel
theorem dd_mo_limit_103 : decode prog_7_method_17_code 103 = .ok (.iadd, 1) := by decide +kernel
theorem dd_mo_limit_104 : decode prog_7_method_17_code 104 = .ok (.iastore, 1) := by decide +kernel
theorem dd_mo_limit_105 : decode prog_7_method_17_code 105 = .ok (.iload_n 1, 1) := by decide +kernel
theorem dd_mo_limit_106 : decode prog_7_method_17_code 106 = .ok (.ifCond .ne 10, 3) := by decide +kernel
theorem dd_mo_limit_109 : decode prog_7_method_17_code 109 = .ok (.aload_n 0, 1) := by decide +kernel
theorem dd_mo_limit_110 : decode prog_7_method_17_code 110 = .ok (.invokevirtual 93, 3) := by decide +kernel
theorem dd_mo_limit_113 : decode prog_7_method_17_code 113 = .ok (.ifCond .eq 7, 3) := by decide +kernel
theorem dd_mo_limit_116 : decode prog_7_method_17_code 116 = .ok (.iconst 1, 1) := by decide +kernel
theorem dd_mo_limit_117 : decode prog_7_method_17_code 117 = .ok (.goto 4, 3) := by decide +kernel
theorem dd_mo_limit_120 : decode prog_7_method_17_code 120 = .ok (.iconst 0, 1) := by decide +kernel
theorem dd_mo_limit_121 : decode prog_7_method_17_code 121 = .ok (.istore 6, 2) := by decide +kernel
theorem dd_mo_limit_123 : decode prog_7_method_17_code 123 = .ok (.iconst 0, 1) := by decide +kernel
theorem dd_mo_limit_124 : decode prog_7_method_17_code 124 = .ok (.istore 7, 2) := by decide +kernel
theorem dd_mo_limit_126 : decode prog_7_method_17_code 126 = .ok (.iload 7, 2) := by decide +kernel
theorem dd_mo_limit_128 : decode prog_7_method_17_code 128 = .ok (.iconst 4, 1) := by decide +kernel
theorem dd_mo_limit_129 : decode prog_7_method_17_code 129 = .ok (.if_icmp .ge 49, 3) := by decide +kernel
theorem dd_mo_limit_132 : decode prog_7_method_17_code 132 = .ok (.iload 6, 2) := by decide +kernel
theorem dd_mo_limit_134 : decode prog_7_method_17_code 134 = .ok (.ifCond .eq 35, 3) := by decide +kernel
theorem dd_mo_limit_137 : decode prog_7_method_17_code 137 = .ok (.iload_n 1, 1) := by decide +kernel
theorem dd_mo_limit_138 : decode prog_7_method_17_code 138 = .ok (.ifCond .eq 27, 3) := by decide +kernel
theorem dd_mo_limit_141 : decode prog_7_method_17_code 141 = .ok (.aload_n 0, 1) := by decide +kernel
theorem dd_mo_limit_142 : decode prog_7_method_17_code 142 = .ok (.getfield 31, 3) := by decide +kernel
theorem dd_mo_limit_145 : decode prog_7_method_17_code 145 = .ok (.iload 7, 2) := by decide +kernel
theorem dd_mo_limit_147 : decode prog_7_method_17_code 147 = .ok (.baload, 1) := by decide +kernel
theorem dd_mo_limit_148 : decode prog_7_method_17_code 148 = .ok (.ifCond .eq 17, 3) := by decide +kernel
theorem dd_mo_limit_151 : decode prog_7_method_17_code 151 = .ok (.aload_n 0, 1) := by decide +kernel
theorem dd_mo_limit_152 : decode prog_7_method_17_code 152 = .ok (.aload_n 0, 1) := by decide +kernel
theorem dd_mo_limit_153 : decode prog_7_method_17_code 153 = .ok (.getfield 38, 3) := by decide +kernel
theorem dd_mo_limit_156 : decode prog_7_method_17_code 156 = .ok (.iload 7, 2) := by decide +kernel
theorem dd_mo_limit_158 : decode prog_7_method_17_code 158 = .ok (.iaload, 1) := by decide +kernel
theorem dd_mo_limit_159 : decode prog_7_method_17_code 159 = .ok (.invokevirtual 97, 3) := by decide +kernel
theorem dd_mo_limit_162 : decode prog_7_method_17_code 162 = .ok (.ifCond .eq 7, 3) := by decide +kernel
theorem dd_mo_limit_165 : decode prog_7_method_17_code 165 = .ok (.iconst 1, 1) := by decide +kernel
theorem dd_mo_limit_166 : decode prog_7_method_17_code 166 = .ok (.goto 4, 3) := by decide +kernel
theorem dd_mo_limit_169 : decode prog_7_method_17_code 169 = .ok (.iconst 0, 1) := by decide +kernel
theorem dd_mo_limit_170 : decode prog_7_method_17_code 170 = .ok (.istore 6, 2) := by decide +kernel
theorem dd_mo_limit_172 : decode prog_7_method_17_code 172 = .ok (.iinc 7 1, 3) := by decide +kernel
theorem dd_mo_limit_175 : decode prog_7_method_17_code 175 = .ok (.goto (-49), 3) := by decide +kernel
theorem dd_mo_limit_178 : decode prog_7_method_17_code 178 = .ok (.aload_n 0, 1) := by decide +kernel
theorem dd_mo_limit_179 : decode prog_7_method_17_code 179 = .ok (.iload 6, 2) := by decide +kernel
theorem dd_mo_limit_181 : decode prog_7_method_17_code 181 = .ok (.iconst 2, 1) := by decide +kernel
theorem dd_mo_limit_182 : decode prog_7_method_17_code 182 = .ok (.invokevirtual 86, 3) := by decide +kernel
theorem dd_mo_limit_185 : decode prog_7_method_17_code 185 = .ok (.ifCond .ne 14, 3) := by decide +kernel
theorem dd_mo_limit_188 : decode prog_7_method_17_code 188 = .ok (.aload_n 0, 1) := by decide +kernel
theorem dd_mo_limit_189 : decode prog_7_method_17_code 189 = .ok (.getfield 22, 3) := by decide +kernel
theorem dd_mo_limit_192 : decode prog_7_method_17_code 192 = .ok (.iload 4, 2) := by decide +kernel
theorem dd_mo_limit_194 : decode prog_7_method_17_code 194 = .ok (.dup2, 1) := by decide +kernel
theorem dd_mo_limit_195 : decode prog_7_method_17_code 195 = .ok (.iaload, 1) := by decide +kernel
theorem dd_mo_limit_196 : decode prog_7_method_17_code 196 = .ok (.iconst 1, 1) := by decide +kernel
theorem dd_mo_limit_197 : decode prog_7_method_17_code 197 = .ok (.isub, 1) := by decide +kernel
theorem dd_mo_limit_198 : decode prog_7_method_17_code 198 = .ok (.iastore, 1) := by decide +kernel
theorem dd_mo_limit_199 : decode prog_7_method_17_code 199 = .ok (.return_, 1) := by decide +kernel
theorem dd_mo_dynamicKept_0 : decode prog_7_method_11_code 0 = .ok (.iconst 1, 1) := by decide +kernel
theorem dd_mo_dynamicKept_1 : decode prog_7_method_11_code 1 = .ok (.istore_n 2, 1) := by decide +kernel
theorem dd_mo_dynamicKept_2 : decode prog_7_method_11_code 2 = .ok (.iconst 4, 1) := by decide +kernel
theorem dd_mo_dynamicKept_3 : decode prog_7_method_11_code 3 = .ok (.istore_n 3, 1) := by decide +kernel
theorem dd_mo_dynamicKept_4 : decode prog_7_method_11_code 4 = .ok (.iload_n 3, 1) := by decide +kernel
theorem dd_mo_dynamicKept_5 : decode prog_7_method_11_code 5 = .ok (.iconst 4, 1) := by decide +kernel
theorem dd_mo_dynamicKept_6 : decode prog_7_method_11_code 6 = .ok (.aload_n 0, 1) := by decide +kernel
theorem dd_mo_dynamicKept_7 : decode prog_7_method_11_code 7 = .ok (.getfield 22, 3) := by decide +kernel
theorem dd_mo_dynamicKept_10 : decode prog_7_method_11_code 10 = .ok (.iconst 1, 1) := by decide +kernel
theorem dd_mo_dynamicKept_11 : decode prog_7_method_11_code 11 = .ok (.iaload, 1) := by decide +kernel
theorem dd_mo_dynamicKept_12 : decode prog_7_method_11_code 12 = .ok (.iadd, 1) := by decide +kernel
theorem dd_mo_dynamicKept_13 : decode prog_7_method_11_code 13 = .ok (.if_icmp .ge 39, 3) := by decide +kernel
theorem dd_mo_dynamicKept_16 : decode prog_7_method_11_code 16 = .ok (.iload_n 2, 1) := by decide +kernel
theorem dd_mo_dynamicKept_17 : decode prog_7_method_11_code 17 = .ok (.ifCond .eq 27, 3) := by decide +kernel
theorem dd_mo_dynamicKept_20 : decode prog_7_method_11_code 20 = .ok (.iload_n 1, 1) := by decide +kernel
theorem dd_mo_dynamicKept_21 : decode prog_7_method_11_code 21 = .ok (.aload_n 0, 1) := by decide +kernel
theorem dd_mo_dynamicKept_22 : decode prog_7_method_11_code 22 = .ok (.getfield 25, 3) := by decide +kernel
theorem dd_mo_dynamicKept_25 : decode prog_7_method_11_code 25 = .ok (.iload_n 3, 1) := by decide +kernel
theorem dd_mo_dynamicKept_26 : decode prog_7_method_11_code 26 = .ok (.iaload, 1) := by decide +kernel
theorem dd_mo_dynamicKept_27 : decode prog_7_method_11_code 27 = .ok (.iand, 1) := by decide +kernel
theorem dd_mo_dynamicKept_28 : decode prog_7_method_11_code 28 = .ok (.invokestatic 79, 3) := by decide +kernel
theorem dd_mo_dynamicKept_31 : decode prog_7_method_11_code 31 = .ok (.aload_n 0, 1) := by decide +kernel
theorem dd_mo_dynamicKept_32 : decode prog_7_method_11_code 32 = .ok (.getfield 28, 3) := by decide +kernel
theorem dd_mo_dynamicKept_35 : decode prog_7_method_11_code 35 = .ok (.iload_n 3, 1) := by decide +kernel
theorem dd_mo_dynamicKept_36 : decode prog_7_method_11_code 36 = .ok (.iaload, 1) := by decide +kernel
theorem dd_mo_dynamicKept_37 : decode prog_7_method_11_code 37 = .ok (.if_icmp .ge 7, 3) := by decide +kernel
theorem dd_mo_dynamicKept_40 : decode prog_7_method_11_code 40 = .ok (.iconst 1, 1) := by decide +kernel
theorem dd_mo_dynamicKept_41 : decode prog_7_method_11_code 41 = .ok (.goto 4, 3) := by decide +kernel
theorem dd_mo_dynamicKept_44 : decode prog_7_method_11_code 44 = .ok (.iconst 0, 1) := by decide +kernel
theorem dd_mo_dynamicKept_45 : decode prog_7_method_11_code 45 = .ok (.istore_n 2, 1) := by decide +kernel
theorem dd_mo_dynamicKept_46 : decode prog_7_method_11_code 46 = .ok (.iinc 3 1, 3) := by decide +kernel
theorem dd_mo_dynamicKept_49 : decode prog_7_method_11_code 49 = .ok (.goto (-45), 3) := by decide +kernel
theorem dd_mo_dynamicKept_52 : decode prog_7_method_11_code 52 = .ok (.iload_n 2, 1) := by decide +kernel
theorem dd_mo_dynamicKept_53 : decode prog_7_method_11_code 53 = .ok (.ireturn, 1) := by decide +kernel
end
section
/-! decode rows: printed by wip/whole/facts.py -/
theorem dd_mo_giveRule_0 : decode prog_7_method_20_code 0 = .ok (.aload_n 0, 1) := by decide +kernel
theorem dd_mo_giveRule_1 : decode prog_7_method_20_code 1 = .ok (.aload_n 0, 1) := by decide +kernel
theorem dd_mo_giveRule_2 : decode prog_7_method_20_code 2 = .ok (.iload_n 1, 1) := by decide +kernel
theorem dd_mo_giveRule_3 : decode prog_7_method_20_code 3 = .ok (.invokevirtual 90, 3) := by decide +kernel
theorem dd_mo_giveRule_6 : decode prog_7_method_20_code 6 = .ok (.ifCond .eq 16, 3) := by decide +kernel
theorem dd_mo_giveRule_9 : decode prog_7_method_20_code 9 = .ok (.aload_n 0, 1) := by decide +kernel
theorem dd_mo_giveRule_10 : decode prog_7_method_20_code 10 = .ok (.iload 4, 2) := by decide +kernel
theorem dd_mo_giveRule_12 : decode prog_7_method_20_code 12 = .ok (.invokevirtual 90, 3) := by decide +kernel
theorem dd_mo_giveRule_15 : decode prog_7_method_20_code 15 = .ok (.ifCond .eq 7, 3) := by decide +kernel
theorem dd_mo_giveRule_18 : decode prog_7_method_20_code 18 = .ok (.iconst 1, 1) := by decide +kernel
theorem dd_mo_giveRule_19 : decode prog_7_method_20_code 19 = .ok (.goto 4, 3) := by decide +kernel
theorem dd_mo_giveRule_22 : decode prog_7_method_20_code 22 = .ok (.iconst 0, 1) := by decide +kernel
theorem dd_mo_giveRule_23 : decode prog_7_method_20_code 23 = .ok (.iconst 1, 1) := by decide +kernel
theorem dd_mo_giveRule_24 : decode prog_7_method_20_code 24 = .ok (.invokevirtual 86, 3) := by decide +kernel
theorem dd_mo_giveRule_27 : decode prog_7_method_20_code 27 = .ok (.ifCond .eq 52, 3) := by decide +kernel
theorem dd_mo_giveRule_30 : decode prog_7_method_20_code 30 = .ok (.aload_n 0, 1) := by decide +kernel
theorem dd_mo_giveRule_31 : decode prog_7_method_20_code 31 = .ok (.iload_n 2, 1) := by decide +kernel
theorem dd_mo_giveRule_32 : decode prog_7_method_20_code 32 = .ok (.invokestatic 103, 3) := by decide +kernel
theorem dd_mo_giveRule_35 : decode prog_7_method_20_code 35 = .ok (.ifCond .eq 14, 3) := by decide +kernel
theorem dd_mo_giveRule_38 : decode prog_7_method_20_code 38 = .ok (.iload_n 3, 1) := by decide +kernel
theorem dd_mo_giveRule_39 : decode prog_7_method_20_code 39 = .ok (.invokestatic 103, 3) := by decide +kernel
theorem dd_mo_giveRule_42 : decode prog_7_method_20_code 42 = .ok (.ifCond .eq 7, 3) := by decide +kernel
theorem dd_mo_giveRule_45 : decode prog_7_method_20_code 45 = .ok (.iconst 1, 1) := by decide +kernel
theorem dd_mo_giveRule_46 : decode prog_7_method_20_code 46 = .ok (.goto 4, 3) := by decide +kernel
theorem dd_mo_giveRule_49 : decode prog_7_method_20_code 49 = .ok (.iconst 0, 1) := by decide +kernel
theorem dd_mo_giveRule_50 : decode prog_7_method_20_code 50 = .ok (.iconst 2, 1) := by decide +kernel
theorem dd_mo_giveRule_51 : decode prog_7_method_20_code 51 = .ok (.invokevirtual 86, 3) := by decide +kernel
theorem dd_mo_giveRule_54 : decode prog_7_method_20_code 54 = .ok (.ifCond .eq 25, 3) := by decide +kernel
theorem dd_mo_giveRule_57 : decode prog_7_method_20_code 57 = .ok (.aload_n 0, 1) := by decide +kernel
theorem dd_mo_giveRule_58 : decode prog_7_method_20_code 58 = .ok (.aload_n 0, 1) := by decide +kernel
theorem dd_mo_giveRule_59 : decode prog_7_method_20_code 59 = .ok (.getfield 100, 3) := by decide +kernel
theorem dd_mo_giveRule_62 : decode prog_7_method_20_code 62 = .ok (.bipush 8, 2) := by decide +kernel
theorem dd_mo_giveRule_64 : decode prog_7_method_20_code 64 = .ok (.if_icmp .ge 7, 3) := by decide +kernel
theorem dd_mo_giveRule_67 : decode prog_7_method_20_code 67 = .ok (.iconst 1, 1) := by decide +kernel
theorem dd_mo_giveRule_68 : decode prog_7_method_20_code 68 = .ok (.goto 4, 3) := by decide +kernel
theorem dd_mo_giveRule_71 : decode prog_7_method_20_code 71 = .ok (.iconst 0, 1) := by decide +kernel
theorem dd_mo_giveRule_72 : decode prog_7_method_20_code 72 = .ok (.iconst 3, 1) := by decide +kernel
theorem dd_mo_giveRule_73 : decode prog_7_method_20_code 73 = .ok (.invokevirtual 86, 3) := by decide +kernel
theorem dd_mo_giveRule_76 : decode prog_7_method_20_code 76 = .ok (.ifCond .ne 5, 3) := by decide +kernel
theorem dd_mo_giveRule_79 : decode prog_7_method_20_code 79 = .ok (.iconst 0, 1) := by decide +kernel
theorem dd_mo_giveRule_80 : decode prog_7_method_20_code 80 = .ok (.ireturn, 1) := by decide +kernel
theorem dd_mo_giveRule_81 : decode prog_7_method_20_code 81 = .ok (.aload_n 0, 1) := by decide +kernel
theorem dd_mo_giveRule_82 : decode prog_7_method_20_code 82 = .ok (.iconst 1, 1) := by decide +kernel
theorem dd_mo_giveRule_83 : decode prog_7_method_20_code 83 = .ok (.iload_n 1, 1) := by decide +kernel
theorem dd_mo_giveRule_84 : decode prog_7_method_20_code 84 = .ok (.iload_n 2, 1) := by decide +kernel
theorem dd_mo_giveRule_85 : decode prog_7_method_20_code 85 = .ok (.iload_n 3, 1) := by decide +kernel
theorem dd_mo_giveRule_86 : decode prog_7_method_20_code 86 = .ok (.iload 4, 2) := by decide +kernel
theorem dd_mo_giveRule_88 : decode prog_7_method_20_code 88 = .ok (.invokevirtual 106, 3) := by decide +kernel
theorem dd_mo_giveRule_91 : decode prog_7_method_20_code 91 = .ok (.ireturn, 1) := by decide +kernel
theorem dd_mo_isSet_0 : decode prog_7_method_19_code 0 = .ok (.iload_n 0, 1) := by decide +kernel
theorem dd_mo_isSet_1 : decode prog_7_method_19_code 1 = .ok (.ifCond .lt 13, 3) := by decide +kernel
theorem dd_mo_isSet_4 : decode prog_7_method_19_code 4 = .ok (.iload_n 0, 1) := by decide +kernel
theorem dd_mo_isSet_5 : decode prog_7_method_19_code 5 = .ok (.bipush 63, 2) := by decide +kernel
theorem dd_mo_isSet_7 : decode prog_7_method_19_code 7 = .ok (.if_icmp .gt 7, 3) := by decide +kernel
theorem dd_mo_isSet_10 : decode prog_7_method_19_code 10 = .ok (.iconst 1, 1) := by decide +kernel
theorem dd_mo_isSet_11 : decode prog_7_method_19_code 11 = .ok (.goto 4, 3) := by decide +kernel
theorem dd_mo_isSet_14 : decode prog_7_method_19_code 14 = .ok (.iconst 0, 1) := by decide +kernel
theorem dd_mo_isSet_15 : decode prog_7_method_19_code 15 = .ok (.ireturn, 1) := by decide +kernel
theorem dd_mo_addRule_0 : decode prog_7_method_18_code 0 = .ok (.aload_n 0, 1) := by decide +kernel
theorem dd_mo_addRule_1 : decode prog_7_method_18_code 1 = .ok (.getfield 41, 3) := by decide +kernel
theorem dd_mo_addRule_4 : decode prog_7_method_18_code 4 = .ok (.aload_n 0, 1) := by decide +kernel
theorem dd_mo_addRule_5 : decode prog_7_method_18_code 5 = .ok (.getfield 100, 3) := by decide +kernel
theorem dd_mo_addRule_8 : decode prog_7_method_18_code 8 = .ok (.iload_n 1, 1) := by decide +kernel
theorem dd_mo_addRule_9 : decode prog_7_method_18_code 9 = .ok (.bastore, 1) := by decide +kernel
theorem dd_mo_addRule_10 : decode prog_7_method_18_code 10 = .ok (.aload_n 0, 1) := by decide +kernel
theorem dd_mo_addRule_11 : decode prog_7_method_18_code 11 = .ok (.getfield 44, 3) := by decide +kernel
theorem dd_mo_addRule_14 : decode prog_7_method_18_code 14 = .ok (.aload_n 0, 1) := by decide +kernel
theorem dd_mo_addRule_15 : decode prog_7_method_18_code 15 = .ok (.getfield 100, 3) := by decide +kernel
theorem dd_mo_addRule_18 : decode prog_7_method_18_code 18 = .ok (.iload_n 2, 1) := by decide +kernel
theorem dd_mo_addRule_19 : decode prog_7_method_18_code 19 = .ok (.iastore, 1) := by decide +kernel
theorem dd_mo_addRule_20 : decode prog_7_method_18_code 20 = .ok (.aload_n 0, 1) := by decide +kernel
theorem dd_mo_addRule_21 : decode prog_7_method_18_code 21 = .ok (.getfield 47, 3) := by decide +kernel
theorem dd_mo_addRule_24 : decode prog_7_method_18_code 24 = .ok (.aload_n 0, 1) := by decide +kernel
theorem dd_mo_addRule_25 : decode prog_7_method_18_code 25 = .ok (.getfield 100, 3) := by decide +kernel
theorem dd_mo_addRule_28 : decode prog_7_method_18_code 28 = .ok (.iload_n 3, 1) := by decide +kernel
theorem dd_mo_addRule_29 : decode prog_7_method_18_code 29 = .ok (.iastore, 1) := by decide +kernel
theorem dd_mo_addRule_30 : decode prog_7_method_18_code 30 = .ok (.aload_n 0, 1) := by decide +kernel
theorem dd_mo_addRule_31 : decode prog_7_method_18_code 31 = .ok (.getfield 50, 3) := by decide +kernel
theorem dd_mo_addRule_34 : decode prog_7_method_18_code 34 = .ok (.aload_n 0, 1) := by decide +kernel
theorem dd_mo_addRule_35 : decode prog_7_method_18_code 35 = .ok (.getfield 100, 3) := by decide +kernel
theorem dd_mo_addRule_38 : decode prog_7_method_18_code 38 = .ok (.iload 4, 2) := by decide +kernel
theorem dd_mo_addRule_40 : decode prog_7_method_18_code 40 = .ok (.iastore, 1) := by decide +kernel
theorem dd_mo_addRule_41 : decode prog_7_method_18_code 41 = .ok (.aload_n 0, 1) := by decide +kernel
theorem dd_mo_addRule_42 : decode prog_7_method_18_code 42 = .ok (.getfield 53, 3) := by decide +kernel
theorem dd_mo_addRule_45 : decode prog_7_method_18_code 45 = .ok (.aload_n 0, 1) := by decide +kernel
theorem dd_mo_addRule_46 : decode prog_7_method_18_code 46 = .ok (.getfield 100, 3) := by decide +kernel
theorem dd_mo_addRule_49 : decode prog_7_method_18_code 49 = .ok (.iload 5, 2) := by decide +kernel
theorem dd_mo_addRule_51 : decode prog_7_method_18_code 51 = .ok (.iastore, 1) := by decide +kernel
theorem dd_mo_addRule_52 : decode prog_7_method_18_code 52 = .ok (.aload_n 0, 1) := by decide +kernel
theorem dd_mo_addRule_53 : decode prog_7_method_18_code 53 = .ok (.dup, 1) := by decide +kernel
theorem dd_mo_addRule_54 : decode prog_7_method_18_code 54 = .ok (.getfield 100, 3) := by decide +kernel
theorem dd_mo_addRule_57 : decode prog_7_method_18_code 57 = .ok (.iconst 1, 1) := by decide +kernel
theorem dd_mo_addRule_58 : decode prog_7_method_18_code 58 = .ok (.iadd, 1) := by decide +kernel
theorem dd_mo_addRule_59 : decode prog_7_method_18_code 59 = .ok (.putfield 100, 3) := by decide +kernel
theorem dd_mo_addRule_62 : decode prog_7_method_18_code 62 = .ok (.aload_n 0, 1) := by decide +kernel
theorem dd_mo_addRule_63 : decode prog_7_method_18_code 63 = .ok (.getfield 100, 3) := by decide +kernel
theorem dd_mo_addRule_66 : decode prog_7_method_18_code 66 = .ok (.iconst 1, 1) := by decide +kernel
theorem dd_mo_addRule_67 : decode prog_7_method_18_code 67 = .ok (.isub, 1) := by decide +kernel
theorem dd_mo_addRule_68 : decode prog_7_method_18_code 68 = .ok (.ireturn, 1) := by decide +kernel
theorem dd_mo_takeRule_0 : decode prog_7_method_21_code 0 = .ok (.aload_n 0, 1) := by decide +kernel
theorem dd_mo_takeRule_1 : decode prog_7_method_21_code 1 = .ok (.aload_n 0, 1) := by decide +kernel
theorem dd_mo_takeRule_2 : decode prog_7_method_21_code 2 = .ok (.iload_n 1, 1) := by decide +kernel
theorem dd_mo_takeRule_3 : decode prog_7_method_21_code 3 = .ok (.invokevirtual 90, 3) := by decide +kernel
theorem dd_mo_takeRule_6 : decode prog_7_method_21_code 6 = .ok (.ifCond .eq 15, 3) := by decide +kernel
theorem dd_mo_takeRule_9 : decode prog_7_method_21_code 9 = .ok (.aload_n 0, 1) := by decide +kernel
theorem dd_mo_takeRule_10 : decode prog_7_method_21_code 10 = .ok (.iload_n 2, 1) := by decide +kernel
theorem dd_mo_takeRule_11 : decode prog_7_method_21_code 11 = .ok (.invokevirtual 90, 3) := by decide +kernel
theorem dd_mo_takeRule_14 : decode prog_7_method_21_code 14 = .ok (.ifCond .eq 7, 3) := by decide +kernel
theorem dd_mo_takeRule_17 : decode prog_7_method_21_code 17 = .ok (.iconst 1, 1) := by decide +kernel
theorem dd_mo_takeRule_18 : decode prog_7_method_21_code 18 = .ok (.goto 4, 3) := by decide +kernel
theorem dd_mo_takeRule_21 : decode prog_7_method_21_code 21 = .ok (.iconst 0, 1) := by decide +kernel
theorem dd_mo_takeRule_22 : decode prog_7_method_21_code 22 = .ok (.iconst 1, 1) := by decide +kernel
theorem dd_mo_takeRule_23 : decode prog_7_method_21_code 23 = .ok (.invokevirtual 86, 3) := by decide +kernel
theorem dd_mo_takeRule_26 : decode prog_7_method_21_code 26 = .ok (.ifCond .eq 25, 3) := by decide +kernel
theorem dd_mo_takeRule_29 : decode prog_7_method_21_code 29 = .ok (.aload_n 0, 1) := by decide +kernel
theorem dd_mo_takeRule_30 : decode prog_7_method_21_code 30 = .ok (.aload_n 0, 1) := by decide +kernel
theorem dd_mo_takeRule_31 : decode prog_7_method_21_code 31 = .ok (.getfield 100, 3) := by decide +kernel
theorem dd_mo_takeRule_34 : decode prog_7_method_21_code 34 = .ok (.bipush 8, 2) := by decide +kernel
theorem dd_mo_takeRule_36 : decode prog_7_method_21_code 36 = .ok (.if_icmp .ge 7, 3) := by decide +kernel
theorem dd_mo_takeRule_39 : decode prog_7_method_21_code 39 = .ok (.iconst 1, 1) := by decide +kernel
theorem dd_mo_takeRule_40 : decode prog_7_method_21_code 40 = .ok (.goto 4, 3) := by decide +kernel
theorem dd_mo_takeRule_43 : decode prog_7_method_21_code 43 = .ok (.iconst 0, 1) := by decide +kernel
theorem dd_mo_takeRule_44 : decode prog_7_method_21_code 44 = .ok (.iconst 2, 1) := by decide +kernel
theorem dd_mo_takeRule_45 : decode prog_7_method_21_code 45 = .ok (.invokevirtual 86, 3) := by decide +kernel
theorem dd_mo_takeRule_48 : decode prog_7_method_21_code 48 = .ok (.ifCond .ne 5, 3) := by decide +kernel
theorem dd_mo_takeRule_51 : decode prog_7_method_21_code 51 = .ok (.iconst 0, 1) := by decide +kernel
theorem dd_mo_takeRule_52 : decode prog_7_method_21_code 52 = .ok (.ireturn, 1) := by decide +kernel
theorem dd_mo_takeRule_53 : decode prog_7_method_21_code 53 = .ok (.aload_n 0, 1) := by decide +kernel
theorem dd_mo_takeRule_54 : decode prog_7_method_21_code 54 = .ok (.iconst 0, 1) := by decide +kernel
theorem dd_mo_takeRule_55 : decode prog_7_method_21_code 55 = .ok (.iload_n 1, 1) := by decide +kernel
theorem dd_mo_takeRule_56 : decode prog_7_method_21_code 56 = .ok (.iconst 0, 1) := by decide +kernel
theorem dd_mo_takeRule_57 : decode prog_7_method_21_code 57 = .ok (.iconst 0, 1) := by decide +kernel
theorem dd_mo_takeRule_58 : decode prog_7_method_21_code 58 = .ok (.iload_n 2, 1) := by decide +kernel
theorem dd_mo_takeRule_59 : decode prog_7_method_21_code 59 = .ok (.invokevirtual 106, 3) := by decide +kernel
theorem dd_mo_takeRule_62 : decode prog_7_method_21_code 62 = .ok (.ireturn, 1) := by decide +kernel
theorem dd_mo_assign_0 : decode prog_7_method_25_code 0 = .ok (.aload_n 0, 1) := by decide +kernel
theorem dd_mo_assign_1 : decode prog_7_method_25_code 1 = .ok (.aload_n 0, 1) := by decide +kernel
theorem dd_mo_assign_2 : decode prog_7_method_25_code 2 = .ok (.iload_n 1, 1) := by decide +kernel
theorem dd_mo_assign_3 : decode prog_7_method_25_code 3 = .ok (.invokevirtual 113, 3) := by decide +kernel
theorem dd_mo_assign_6 : decode prog_7_method_25_code 6 = .ok (.ifCond .eq 15, 3) := by decide +kernel
theorem dd_mo_assign_9 : decode prog_7_method_25_code 9 = .ok (.aload_n 0, 1) := by decide +kernel
theorem dd_mo_assign_10 : decode prog_7_method_25_code 10 = .ok (.iload_n 2, 1) := by decide +kernel
theorem dd_mo_assign_11 : decode prog_7_method_25_code 11 = .ok (.invokevirtual 90, 3) := by decide +kernel
theorem dd_mo_assign_14 : decode prog_7_method_25_code 14 = .ok (.ifCond .eq 7, 3) := by decide +kernel
theorem dd_mo_assign_17 : decode prog_7_method_25_code 17 = .ok (.iconst 1, 1) := by decide +kernel
theorem dd_mo_assign_18 : decode prog_7_method_25_code 18 = .ok (.goto 4, 3) := by decide +kernel
theorem dd_mo_assign_21 : decode prog_7_method_25_code 21 = .ok (.iconst 0, 1) := by decide +kernel
theorem dd_mo_assign_22 : decode prog_7_method_25_code 22 = .ok (.iconst 1, 1) := by decide +kernel
theorem dd_mo_assign_23 : decode prog_7_method_25_code 23 = .ok (.invokevirtual 86, 3) := by decide +kernel
theorem dd_mo_assign_26 : decode prog_7_method_25_code 26 = .ok (.ifCond .eq 17, 3) := by decide +kernel
theorem dd_mo_assign_29 : decode prog_7_method_25_code 29 = .ok (.aload_n 0, 1) := by decide +kernel
theorem dd_mo_assign_30 : decode prog_7_method_25_code 30 = .ok (.iload_n 1, 1) := by decide +kernel
theorem dd_mo_assign_31 : decode prog_7_method_25_code 31 = .ok (.iload_n 2, 1) := by decide +kernel
theorem dd_mo_assign_32 : decode prog_7_method_25_code 32 = .ok (.iconst 2, 1) := by decide +kernel
theorem dd_mo_assign_33 : decode prog_7_method_25_code 33 = .ok (.invokevirtual 116, 3) := by decide +kernel
theorem dd_mo_assign_36 : decode prog_7_method_25_code 36 = .ok (.ifCond .eq 7, 3) := by decide +kernel
theorem dd_mo_assign_39 : decode prog_7_method_25_code 39 = .ok (.iconst 1, 1) := by decide +kernel
theorem dd_mo_assign_40 : decode prog_7_method_25_code 40 = .ok (.goto 4, 3) := by decide +kernel
theorem dd_mo_assign_43 : decode prog_7_method_25_code 43 = .ok (.iconst 0, 1) := by decide +kernel
theorem dd_mo_assign_44 : decode prog_7_method_25_code 44 = .ok (.ireturn, 1) := by decide +kernel
theorem dd_mo_isUser_0 : decode prog_7_method_5_code 0 = .ok (.iload_n 1, 1) := by decide +kernel
theorem dd_mo_isUser_1 : decode prog_7_method_5_code 1 = .ok (.ifCond .lt 15, 3) := by decide +kernel
theorem dd_mo_isUser_4 : decode prog_7_method_5_code 4 = .ok (.iload_n 1, 1) := by decide +kernel
theorem dd_mo_isUser_5 : decode prog_7_method_5_code 5 = .ok (.aload_n 0, 1) := by decide +kernel
theorem dd_mo_isUser_6 : decode prog_7_method_5_code 6 = .ok (.getfield 72, 3) := by decide +kernel
theorem dd_mo_isUser_9 : decode prog_7_method_5_code 9 = .ok (.if_icmp .ge 7, 3) := by decide +kernel
theorem dd_mo_isUser_12 : decode prog_7_method_5_code 12 = .ok (.iconst 1, 1) := by decide +kernel
theorem dd_mo_isUser_13 : decode prog_7_method_5_code 13 = .ok (.goto 4, 3) := by decide +kernel
theorem dd_mo_isUser_16 : decode prog_7_method_5_code 16 = .ok (.iconst 0, 1) := by decide +kernel
theorem dd_mo_isUser_17 : decode prog_7_method_5_code 17 = .ok (.ireturn, 1) := by decide +kernel
theorem dd_mo_put_0 : decode prog_7_method_23_code 0 = .ok (.aload_n 0, 1) := by decide +kernel
theorem dd_mo_put_1 : decode prog_7_method_23_code 1 = .ok (.getfield 19, 3) := by decide +kernel
theorem dd_mo_put_4 : decode prog_7_method_23_code 4 = .ok (.iload_n 1, 1) := by decide +kernel
theorem dd_mo_put_5 : decode prog_7_method_23_code 5 = .ok (.iaload, 1) := by decide +kernel
theorem dd_mo_put_6 : decode prog_7_method_23_code 6 = .ok (.iconst 1, 1) := by decide +kernel
theorem dd_mo_put_7 : decode prog_7_method_23_code 7 = .ok (.iload_n 2, 1) := by decide +kernel
theorem dd_mo_put_8 : decode prog_7_method_23_code 8 = .ok (.ishl, 1) := by decide +kernel
theorem dd_mo_put_9 : decode prog_7_method_23_code 9 = .ok (.ior, 1) := by decide +kernel
theorem dd_mo_put_10 : decode prog_7_method_23_code 10 = .ok (.istore 4, 2) := by decide +kernel
theorem dd_mo_put_12 : decode prog_7_method_23_code 12 = .ok (.aload_n 0, 1) := by decide +kernel
theorem dd_mo_put_13 : decode prog_7_method_23_code 13 = .ok (.aload_n 0, 1) := by decide +kernel
theorem dd_mo_put_14 : decode prog_7_method_23_code 14 = .ok (.iload 4, 2) := by decide +kernel
theorem dd_mo_put_16 : decode prog_7_method_23_code 16 = .ok (.invokevirtual 82, 3) := by decide +kernel
theorem dd_mo_put_19 : decode prog_7_method_23_code 19 = .ok (.iload_n 3, 1) := by decide +kernel
theorem dd_mo_put_20 : decode prog_7_method_23_code 20 = .ok (.invokevirtual 86, 3) := by decide +kernel
theorem dd_mo_put_23 : decode prog_7_method_23_code 23 = .ok (.ifCond .ne 5, 3) := by decide +kernel
theorem dd_mo_put_26 : decode prog_7_method_23_code 26 = .ok (.iconst 0, 1) := by decide +kernel
theorem dd_mo_put_27 : decode prog_7_method_23_code 27 = .ok (.ireturn, 1) := by decide +kernel
theorem dd_mo_put_28 : decode prog_7_method_23_code 28 = .ok (.iload 4, 2) := by decide +kernel
theorem dd_mo_put_30 : decode prog_7_method_23_code 30 = .ok (.aload_n 0, 1) := by decide +kernel
theorem dd_mo_put_31 : decode prog_7_method_23_code 31 = .ok (.getfield 19, 3) := by decide +kernel
theorem dd_mo_put_34 : decode prog_7_method_23_code 34 = .ok (.iload_n 1, 1) := by decide +kernel
theorem dd_mo_put_35 : decode prog_7_method_23_code 35 = .ok (.iaload, 1) := by decide +kernel
theorem dd_mo_put_36 : decode prog_7_method_23_code 36 = .ok (.if_icmp .eq 7, 3) := by decide +kernel
theorem dd_mo_put_39 : decode prog_7_method_23_code 39 = .ok (.iconst 1, 1) := by decide +kernel
theorem dd_mo_put_40 : decode prog_7_method_23_code 40 = .ok (.goto 4, 3) := by decide +kernel
theorem dd_mo_put_43 : decode prog_7_method_23_code 43 = .ok (.iconst 0, 1) := by decide +kernel
theorem dd_mo_put_44 : decode prog_7_method_23_code 44 = .ok (.istore 5, 2) := by decide +kernel
theorem dd_mo_put_46 : decode prog_7_method_23_code 46 = .ok (.aload_n 0, 1) := by decide +kernel
theorem dd_mo_put_47 : decode prog_7_method_23_code 47 = .ok (.getfield 19, 3) := by decide +kernel
theorem dd_mo_put_50 : decode prog_7_method_23_code 50 = .ok (.iload_n 1, 1) := by decide +kernel
theorem dd_mo_put_51 : decode prog_7_method_23_code 51 = .ok (.iload 4, 2) := by decide +kernel
theorem dd_mo_put_53 : decode prog_7_method_23_code 53 = .ok (.iastore, 1) := by decide +kernel
theorem dd_mo_put_54 : decode prog_7_method_23_code 54 = .ok (.iload 5, 2) := by decide +kernel
theorem dd_mo_put_56 : decode prog_7_method_23_code 56 = .ok (.ireturn, 1) := by decide +kernel
theorem dd_mo_remove_0 : decode prog_7_method_26_code 0 = .ok (.aload_n 0, 1) := by decide +kernel
theorem dd_mo_remove_1 : decode prog_7_method_26_code 1 = .ok (.aload_n 0, 1) := by decide +kernel
theorem dd_mo_remove_2 : decode prog_7_method_26_code 2 = .ok (.iload_n 1, 1) := by decide +kernel
theorem dd_mo_remove_3 : decode prog_7_method_26_code 3 = .ok (.invokevirtual 113, 3) := by decide +kernel
theorem dd_mo_remove_6 : decode prog_7_method_26_code 6 = .ok (.ifCond .eq 15, 3) := by decide +kernel
theorem dd_mo_remove_9 : decode prog_7_method_26_code 9 = .ok (.aload_n 0, 1) := by decide +kernel
theorem dd_mo_remove_10 : decode prog_7_method_26_code 10 = .ok (.iload_n 2, 1) := by decide +kernel
theorem dd_mo_remove_11 : decode prog_7_method_26_code 11 = .ok (.invokevirtual 90, 3) := by decide +kernel
theorem dd_mo_remove_14 : decode prog_7_method_26_code 14 = .ok (.ifCond .eq 7, 3) := by decide +kernel
theorem dd_mo_remove_17 : decode prog_7_method_26_code 17 = .ok (.iconst 1, 1) := by decide +kernel
theorem dd_mo_remove_18 : decode prog_7_method_26_code 18 = .ok (.goto 4, 3) := by decide +kernel
theorem dd_mo_remove_21 : decode prog_7_method_26_code 21 = .ok (.iconst 0, 1) := by decide +kernel
theorem dd_mo_remove_22 : decode prog_7_method_26_code 22 = .ok (.iconst 1, 1) := by decide +kernel
theorem dd_mo_remove_23 : decode prog_7_method_26_code 23 = .ok (.invokevirtual 86, 3) := by decide +kernel
theorem dd_mo_remove_26 : decode prog_7_method_26_code 26 = .ok (.ifCond .eq 16, 3) := by decide +kernel
theorem dd_mo_remove_29 : decode prog_7_method_26_code 29 = .ok (.aload_n 0, 1) := by decide +kernel
theorem dd_mo_remove_30 : decode prog_7_method_26_code 30 = .ok (.iload_n 1, 1) := by decide +kernel
theorem dd_mo_remove_31 : decode prog_7_method_26_code 31 = .ok (.iload_n 2, 1) := by decide +kernel
theorem dd_mo_remove_32 : decode prog_7_method_26_code 32 = .ok (.invokevirtual 120, 3) := by decide +kernel
theorem dd_mo_remove_35 : decode prog_7_method_26_code 35 = .ok (.ifCond .eq 7, 3) := by decide +kernel
theorem dd_mo_remove_38 : decode prog_7_method_26_code 38 = .ok (.iconst 1, 1) := by decide +kernel
theorem dd_mo_remove_39 : decode prog_7_method_26_code 39 = .ok (.goto 4, 3) := by decide +kernel
theorem dd_mo_remove_42 : decode prog_7_method_26_code 42 = .ok (.iconst 0, 1) := by decide +kernel
theorem dd_mo_remove_43 : decode prog_7_method_26_code 43 = .ok (.ireturn, 1) := by decide +kernel
theorem dd_mo_drop_0 : decode prog_7_method_24_code 0 = .ok (.aload_n 0, 1) := by decide +kernel
theorem dd_mo_drop_1 : decode prog_7_method_24_code 1 = .ok (.getfield 19, 3) := by decide +kernel
theorem dd_mo_drop_4 : decode prog_7_method_24_code 4 = .ok (.iload_n 1, 1) := by decide +kernel
theorem dd_mo_drop_5 : decode prog_7_method_24_code 5 = .ok (.iaload, 1) := by decide +kernel
theorem dd_mo_drop_6 : decode prog_7_method_24_code 6 = .ok (.iload_n 2, 1) := by decide +kernel
theorem dd_mo_drop_7 : decode prog_7_method_24_code 7 = .ok (.ishr, 1) := by decide +kernel
theorem dd_mo_drop_8 : decode prog_7_method_24_code 8 = .ok (.iconst 1, 1) := by decide +kernel
theorem dd_mo_drop_9 : decode prog_7_method_24_code 9 = .ok (.iand, 1) := by decide +kernel
theorem dd_mo_drop_10 : decode prog_7_method_24_code 10 = .ok (.iconst 1, 1) := by decide +kernel
theorem dd_mo_drop_11 : decode prog_7_method_24_code 11 = .ok (.if_icmp .ne 7, 3) := by decide +kernel
theorem dd_mo_drop_14 : decode prog_7_method_24_code 14 = .ok (.iconst 1, 1) := by decide +kernel
theorem dd_mo_drop_15 : decode prog_7_method_24_code 15 = .ok (.goto 4, 3) := by decide +kernel
theorem dd_mo_drop_18 : decode prog_7_method_24_code 18 = .ok (.iconst 0, 1) := by decide +kernel
theorem dd_mo_drop_19 : decode prog_7_method_24_code 19 = .ok (.istore_n 3, 1) := by decide +kernel
theorem dd_mo_drop_20 : decode prog_7_method_24_code 20 = .ok (.aload_n 0, 1) := by decide +kernel
theorem dd_mo_drop_21 : decode prog_7_method_24_code 21 = .ok (.getfield 19, 3) := by decide +kernel
theorem dd_mo_drop_24 : decode prog_7_method_24_code 24 = .ok (.iload_n 1, 1) := by decide +kernel
theorem dd_mo_drop_25 : decode prog_7_method_24_code 25 = .ok (.aload_n 0, 1) := by decide +kernel
theorem dd_mo_drop_26 : decode prog_7_method_24_code 26 = .ok (.getfield 19, 3) := by decide +kernel
theorem dd_mo_drop_29 : decode prog_7_method_24_code 29 = .ok (.iload_n 1, 1) := by decide +kernel
theorem dd_mo_drop_30 : decode prog_7_method_24_code 30 = .ok (.iaload, 1) := by decide +kernel
theorem dd_mo_drop_31 : decode prog_7_method_24_code 31 = .ok (.iconst 1, 1) := by decide +kernel
theorem dd_mo_drop_32 : decode prog_7_method_24_code 32 = .ok (.iload_n 2, 1) := by decide +kernel
theorem dd_mo_drop_33 : decode prog_7_method_24_code 33 = .ok (.ishl, 1) := by decide +kernel
theorem dd_mo_drop_34 : decode prog_7_method_24_code 34 = .ok (.iconst (-1), 1) := by decide +kernel
theorem dd_mo_drop_35 : decode prog_7_method_24_code 35 = .ok (.ixor, 1) := by decide +kernel
theorem dd_mo_drop_36 : decode prog_7_method_24_code 36 = .ok (.iand, 1) := by decide +kernel
theorem dd_mo_drop_37 : decode prog_7_method_24_code 37 = .ok (.iastore, 1) := by decide +kernel
theorem dd_mo_drop_38 : decode prog_7_method_24_code 38 = .ok (.aload_n 0, 1) := by decide +kernel
theorem dd_mo_drop_39 : decode prog_7_method_24_code 39 = .ok (.invokevirtual 110, 3) := by decide +kernel
theorem dd_mo_drop_42 : decode prog_7_method_24_code 42 = .ok (.iload_n 3, 1) := by decide +kernel
theorem dd_mo_drop_43 : decode prog_7_method_24_code 43 = .ok (.ireturn, 1) := by decide +kernel
theorem dd_mo_cutSessions_0 : decode prog_7_method_12_code 0 = .ok (.iconst 0, 1) := by decide +kernel
theorem dd_mo_cutSessions_1 : decode prog_7_method_12_code 1 = .ok (.istore_n 1, 1) := by decide +kernel
theorem dd_mo_cutSessions_2 : decode prog_7_method_12_code 2 = .ok (.iload_n 1, 1) := by decide +kernel
theorem dd_mo_cutSessions_3 : decode prog_7_method_12_code 3 = .ok (.iconst 4, 1) := by decide +kernel
theorem dd_mo_cutSessions_4 : decode prog_7_method_12_code 4 = .ok (.if_icmp .ge 50, 3) := by decide +kernel
theorem dd_mo_cutSessions_7 : decode prog_7_method_12_code 7 = .ok (.aload_n 0, 1) := by decide +kernel
theorem dd_mo_cutSessions_8 : decode prog_7_method_12_code 8 = .ok (.getfield 38, 3) := by decide +kernel
theorem dd_mo_cutSessions_11 : decode prog_7_method_12_code 11 = .ok (.iload_n 1, 1) := by decide +kernel
theorem dd_mo_cutSessions_12 : decode prog_7_method_12_code 12 = .ok (.aload_n 0, 1) := by decide +kernel
theorem dd_mo_cutSessions_13 : decode prog_7_method_12_code 13 = .ok (.getfield 31, 3) := by decide +kernel
theorem dd_mo_cutSessions_16 : decode prog_7_method_12_code 16 = .ok (.iload_n 1, 1) := by decide +kernel
theorem dd_mo_cutSessions_17 : decode prog_7_method_12_code 17 = .ok (.baload, 1) := by decide +kernel
theorem dd_mo_cutSessions_18 : decode prog_7_method_12_code 18 = .ok (.ifCond .eq 28, 3) := by decide +kernel
theorem dd_mo_cutSessions_21 : decode prog_7_method_12_code 21 = .ok (.aload_n 0, 1) := by decide +kernel
theorem dd_mo_cutSessions_22 : decode prog_7_method_12_code 22 = .ok (.getfield 38, 3) := by decide +kernel
theorem dd_mo_cutSessions_25 : decode prog_7_method_12_code 25 = .ok (.iload_n 1, 1) := by decide +kernel
theorem dd_mo_cutSessions_26 : decode prog_7_method_12_code 26 = .ok (.iaload, 1) := by decide +kernel
theorem dd_mo_cutSessions_27 : decode prog_7_method_12_code 27 = .ok (.aload_n 0, 1) := by decide +kernel
theorem dd_mo_cutSessions_28 : decode prog_7_method_12_code 28 = .ok (.aload_n 0, 1) := by decide +kernel
theorem dd_mo_cutSessions_29 : decode prog_7_method_12_code 29 = .ok (.getfield 19, 3) := by decide +kernel
theorem dd_mo_cutSessions_32 : decode prog_7_method_12_code 32 = .ok (.aload_n 0, 1) := by decide +kernel
theorem dd_mo_cutSessions_33 : decode prog_7_method_12_code 33 = .ok (.getfield 35, 3) := by decide +kernel
theorem dd_mo_cutSessions_36 : decode prog_7_method_12_code 36 = .ok (.iload_n 1, 1) := by decide +kernel
theorem dd_mo_cutSessions_37 : decode prog_7_method_12_code 37 = .ok (.iaload, 1) := by decide +kernel
theorem dd_mo_cutSessions_38 : decode prog_7_method_12_code 38 = .ok (.iaload, 1) := by decide +kernel
theorem dd_mo_cutSessions_39 : decode prog_7_method_12_code 39 = .ok (.invokevirtual 75, 3) := by decide +kernel
theorem dd_mo_cutSessions_42 : decode prog_7_method_12_code 42 = .ok (.iand, 1) := by decide +kernel
theorem dd_mo_cutSessions_43 : decode prog_7_method_12_code 43 = .ok (.goto 4, 3) := by decide +kernel
theorem dd_mo_cutSessions_46 : decode prog_7_method_12_code 46 = .ok (.iconst 0, 1) := by decide +kernel
theorem dd_mo_cutSessions_47 : decode prog_7_method_12_code 47 = .ok (.iastore, 1) := by decide +kernel
theorem dd_mo_cutSessions_48 : decode prog_7_method_12_code 48 = .ok (.iinc 1 1, 3) := by decide +kernel
theorem dd_mo_cutSessions_51 : decode prog_7_method_12_code 51 = .ok (.goto (-49), 3) := by decide +kernel
theorem dd_mo_cutSessions_54 : decode prog_7_method_12_code 54 = .ok (.return_, 1) := by decide +kernel
theorem dd_mo_give_0 : decode prog_7_method_27_code 0 = .ok (.aload_n 0, 1) := by decide +kernel
theorem dd_mo_give_1 : decode prog_7_method_27_code 1 = .ok (.aload_n 0, 1) := by decide +kernel
theorem dd_mo_give_2 : decode prog_7_method_27_code 2 = .ok (.iload_n 1, 1) := by decide +kernel
theorem dd_mo_give_3 : decode prog_7_method_27_code 3 = .ok (.invokevirtual 113, 3) := by decide +kernel
theorem dd_mo_give_6 : decode prog_7_method_27_code 6 = .ok (.ifCond .eq 23, 3) := by decide +kernel
theorem dd_mo_give_9 : decode prog_7_method_27_code 9 = .ok (.aload_n 0, 1) := by decide +kernel
theorem dd_mo_give_10 : decode prog_7_method_27_code 10 = .ok (.iload_n 2, 1) := by decide +kernel
theorem dd_mo_give_11 : decode prog_7_method_27_code 11 = .ok (.invokevirtual 113, 3) := by decide +kernel
theorem dd_mo_give_14 : decode prog_7_method_27_code 14 = .ok (.ifCond .eq 15, 3) := by decide +kernel
theorem dd_mo_give_17 : decode prog_7_method_27_code 17 = .ok (.aload_n 0, 1) := by decide +kernel
theorem dd_mo_give_18 : decode prog_7_method_27_code 18 = .ok (.iload_n 3, 1) := by decide +kernel
theorem dd_mo_give_19 : decode prog_7_method_27_code 19 = .ok (.invokevirtual 90, 3) := by decide +kernel
theorem dd_mo_give_22 : decode prog_7_method_27_code 22 = .ok (.ifCond .eq 7, 3) := by decide +kernel
theorem dd_mo_give_25 : decode prog_7_method_27_code 25 = .ok (.iconst 1, 1) := by decide +kernel
theorem dd_mo_give_26 : decode prog_7_method_27_code 26 = .ok (.goto 4, 3) := by decide +kernel
theorem dd_mo_give_29 : decode prog_7_method_27_code 29 = .ok (.iconst 0, 1) := by decide +kernel
theorem dd_mo_give_30 : decode prog_7_method_27_code 30 = .ok (.iconst 1, 1) := by decide +kernel
theorem dd_mo_give_31 : decode prog_7_method_27_code 31 = .ok (.invokevirtual 86, 3) := by decide +kernel
theorem dd_mo_give_34 : decode prog_7_method_27_code 34 = .ok (.ifCond .eq 37, 3) := by decide +kernel
theorem dd_mo_give_37 : decode prog_7_method_27_code 37 = .ok (.aload_n 0, 1) := by decide +kernel
theorem dd_mo_give_38 : decode prog_7_method_27_code 38 = .ok (.aload_n 0, 1) := by decide +kernel
theorem dd_mo_give_39 : decode prog_7_method_27_code 39 = .ok (.iconst 1, 1) := by decide +kernel
theorem dd_mo_give_40 : decode prog_7_method_27_code 40 = .ok (.aload_n 0, 1) := by decide +kernel
theorem dd_mo_give_41 : decode prog_7_method_27_code 41 = .ok (.aload_n 0, 1) := by decide +kernel
theorem dd_mo_give_42 : decode prog_7_method_27_code 42 = .ok (.getfield 19, 3) := by decide +kernel
theorem dd_mo_give_45 : decode prog_7_method_27_code 45 = .ok (.iload_n 1, 1) := by decide +kernel
theorem dd_mo_give_46 : decode prog_7_method_27_code 46 = .ok (.iaload, 1) := by decide +kernel
theorem dd_mo_give_47 : decode prog_7_method_27_code 47 = .ok (.invokevirtual 75, 3) := by decide +kernel
theorem dd_mo_give_50 : decode prog_7_method_27_code 50 = .ok (.aload_n 0, 1) := by decide +kernel
theorem dd_mo_give_51 : decode prog_7_method_27_code 51 = .ok (.aload_n 0, 1) := by decide +kernel
theorem dd_mo_give_52 : decode prog_7_method_27_code 52 = .ok (.getfield 19, 3) := by decide +kernel
theorem dd_mo_give_55 : decode prog_7_method_27_code 55 = .ok (.iload_n 2, 1) := by decide +kernel
theorem dd_mo_give_56 : decode prog_7_method_27_code 56 = .ok (.iaload, 1) := by decide +kernel
theorem dd_mo_give_57 : decode prog_7_method_27_code 57 = .ok (.invokevirtual 75, 3) := by decide +kernel
theorem dd_mo_give_60 : decode prog_7_method_27_code 60 = .ok (.iload_n 3, 1) := by decide +kernel
theorem dd_mo_give_61 : decode prog_7_method_27_code 61 = .ok (.invokevirtual 124, 3) := by decide +kernel
theorem dd_mo_give_64 : decode prog_7_method_27_code 64 = .ok (.iconst 2, 1) := by decide +kernel
theorem dd_mo_give_65 : decode prog_7_method_27_code 65 = .ok (.invokevirtual 86, 3) := by decide +kernel
theorem dd_mo_give_68 : decode prog_7_method_27_code 68 = .ok (.ifCond .ne 5, 3) := by decide +kernel
theorem dd_mo_give_71 : decode prog_7_method_27_code 71 = .ok (.iconst 0, 1) := by decide +kernel
theorem dd_mo_give_72 : decode prog_7_method_27_code 72 = .ok (.ireturn, 1) := by decide +kernel
theorem dd_mo_give_73 : decode prog_7_method_27_code 73 = .ok (.aload_n 0, 1) := by decide +kernel
theorem dd_mo_give_74 : decode prog_7_method_27_code 74 = .ok (.iload_n 2, 1) := by decide +kernel
theorem dd_mo_give_75 : decode prog_7_method_27_code 75 = .ok (.iload_n 3, 1) := by decide +kernel
theorem dd_mo_give_76 : decode prog_7_method_27_code 76 = .ok (.iconst 3, 1) := by decide +kernel
theorem dd_mo_give_77 : decode prog_7_method_27_code 77 = .ok (.invokevirtual 116, 3) := by decide +kernel
theorem dd_mo_give_80 : decode prog_7_method_27_code 80 = .ok (.ireturn, 1) := by decide +kernel
theorem dd_mo_lets_0 : decode prog_7_method_22_code 0 = .ok (.iconst 0, 1) := by decide +kernel
theorem dd_mo_lets_1 : decode prog_7_method_22_code 1 = .ok (.istore 5, 2) := by decide +kernel
theorem dd_mo_lets_3 : decode prog_7_method_22_code 3 = .ok (.iconst 0, 1) := by decide +kernel
theorem dd_mo_lets_4 : decode prog_7_method_22_code 4 = .ok (.istore 6, 2) := by decide +kernel
theorem dd_mo_lets_6 : decode prog_7_method_22_code 6 = .ok (.iload 6, 2) := by decide +kernel
theorem dd_mo_lets_8 : decode prog_7_method_22_code 8 = .ok (.aload_n 0, 1) := by decide +kernel
theorem dd_mo_lets_9 : decode prog_7_method_22_code 9 = .ok (.getfield 100, 3) := by decide +kernel
theorem dd_mo_lets_12 : decode prog_7_method_22_code 12 = .ok (.if_icmp .ge 102, 3) := by decide +kernel
theorem dd_mo_lets_15 : decode prog_7_method_22_code 15 = .ok (.aload_n 0, 1) := by decide +kernel
theorem dd_mo_lets_16 : decode prog_7_method_22_code 16 = .ok (.getfield 41, 3) := by decide +kernel
theorem dd_mo_lets_19 : decode prog_7_method_22_code 19 = .ok (.iload 6, 2) := by decide +kernel
theorem dd_mo_lets_21 : decode prog_7_method_22_code 21 = .ok (.baload, 1) := by decide +kernel
theorem dd_mo_lets_22 : decode prog_7_method_22_code 22 = .ok (.iload_n 1, 1) := by decide +kernel
theorem dd_mo_lets_23 : decode prog_7_method_22_code 23 = .ok (.if_icmp .ne 34, 3) := by decide +kernel
theorem dd_mo_lets_26 : decode prog_7_method_22_code 26 = .ok (.aload_n 0, 1) := by decide +kernel
theorem dd_mo_lets_27 : decode prog_7_method_22_code 27 = .ok (.getfield 53, 3) := by decide +kernel
theorem dd_mo_lets_30 : decode prog_7_method_22_code 30 = .ok (.iload 6, 2) := by decide +kernel
theorem dd_mo_lets_32 : decode prog_7_method_22_code 32 = .ok (.iaload, 1) := by decide +kernel
theorem dd_mo_lets_33 : decode prog_7_method_22_code 33 = .ok (.iload 4, 2) := by decide +kernel
theorem dd_mo_lets_35 : decode prog_7_method_22_code 35 = .ok (.if_icmp .ne 22, 3) := by decide +kernel
theorem dd_mo_lets_38 : decode prog_7_method_22_code 38 = .ok (.iload_n 2, 1) := by decide +kernel
theorem dd_mo_lets_39 : decode prog_7_method_22_code 39 = .ok (.aload_n 0, 1) := by decide +kernel
theorem dd_mo_lets_40 : decode prog_7_method_22_code 40 = .ok (.getfield 44, 3) := by decide +kernel
theorem dd_mo_lets_43 : decode prog_7_method_22_code 43 = .ok (.iload 6, 2) := by decide +kernel
theorem dd_mo_lets_45 : decode prog_7_method_22_code 45 = .ok (.iaload, 1) := by decide +kernel
theorem dd_mo_lets_46 : decode prog_7_method_22_code 46 = .ok (.ishr, 1) := by decide +kernel
theorem dd_mo_lets_47 : decode prog_7_method_22_code 47 = .ok (.iconst 1, 1) := by decide +kernel
theorem dd_mo_lets_48 : decode prog_7_method_22_code 48 = .ok (.iand, 1) := by decide +kernel
theorem dd_mo_lets_49 : decode prog_7_method_22_code 49 = .ok (.iconst 1, 1) := by decide +kernel
theorem dd_mo_lets_50 : decode prog_7_method_22_code 50 = .ok (.if_icmp .ne 7, 3) := by decide +kernel
theorem dd_mo_lets_53 : decode prog_7_method_22_code 53 = .ok (.iconst 1, 1) := by decide +kernel
theorem dd_mo_lets_54 : decode prog_7_method_22_code 54 = .ok (.goto 4, 3) := by decide +kernel
theorem dd_mo_lets_57 : decode prog_7_method_22_code 57 = .ok (.iconst 0, 1) := by decide +kernel
theorem dd_mo_lets_58 : decode prog_7_method_22_code 58 = .ok (.istore 7, 2) := by decide +kernel
theorem dd_mo_lets_60 : decode prog_7_method_22_code 60 = .ok (.iload 5, 2) := by decide +kernel
theorem dd_mo_lets_62 : decode prog_7_method_22_code 62 = .ok (.ifCond .ne 39, 3) := by decide +kernel
theorem dd_mo_lets_65 : decode prog_7_method_22_code 65 = .ok (.iload 7, 2) := by decide +kernel
theorem dd_mo_lets_67 : decode prog_7_method_22_code 67 = .ok (.ifCond .eq 38, 3) := by decide +kernel
theorem dd_mo_lets_70 : decode prog_7_method_22_code 70 = .ok (.iload_n 3, 1) := by decide +kernel
theorem dd_mo_lets_71 : decode prog_7_method_22_code 71 = .ok (.aload_n 0, 1) := by decide +kernel
theorem dd_mo_lets_72 : decode prog_7_method_22_code 72 = .ok (.getfield 47, 3) := by decide +kernel
theorem dd_mo_lets_75 : decode prog_7_method_22_code 75 = .ok (.iload 6, 2) := by decide +kernel
theorem dd_mo_lets_77 : decode prog_7_method_22_code 77 = .ok (.iaload, 1) := by decide +kernel
theorem dd_mo_lets_78 : decode prog_7_method_22_code 78 = .ok (.iand, 1) := by decide +kernel
theorem dd_mo_lets_79 : decode prog_7_method_22_code 79 = .ok (.aload_n 0, 1) := by decide +kernel
theorem dd_mo_lets_80 : decode prog_7_method_22_code 80 = .ok (.getfield 47, 3) := by decide +kernel
theorem dd_mo_lets_83 : decode prog_7_method_22_code 83 = .ok (.iload 6, 2) := by decide +kernel
theorem dd_mo_lets_85 : decode prog_7_method_22_code 85 = .ok (.iaload, 1) := by decide +kernel
theorem dd_mo_lets_86 : decode prog_7_method_22_code 86 = .ok (.if_icmp .ne 19, 3) := by decide +kernel
theorem dd_mo_lets_89 : decode prog_7_method_22_code 89 = .ok (.iload_n 3, 1) := by decide +kernel
theorem dd_mo_lets_90 : decode prog_7_method_22_code 90 = .ok (.aload_n 0, 1) := by decide +kernel
theorem dd_mo_lets_91 : decode prog_7_method_22_code 91 = .ok (.getfield 50, 3) := by decide +kernel
theorem dd_mo_lets_94 : decode prog_7_method_22_code 94 = .ok (.iload 6, 2) := by decide +kernel
theorem dd_mo_lets_96 : decode prog_7_method_22_code 96 = .ok (.iaload, 1) := by decide +kernel
theorem dd_mo_lets_97 : decode prog_7_method_22_code 97 = .ok (.iand, 1) := by decide +kernel
theorem dd_mo_lets_98 : decode prog_7_method_22_code 98 = .ok (.ifCond .ne 7, 3) := by decide +kernel
theorem dd_mo_lets_101 : decode prog_7_method_22_code 101 = .ok (.iconst 1, 1) := by decide +kernel
theorem dd_mo_lets_102 : decode prog_7_method_22_code 102 = .ok (.goto 4, 3) := by decide +kernel
theorem dd_mo_lets_105 : decode prog_7_method_22_code 105 = .ok (.iconst 0, 1) := by decide +kernel
theorem dd_mo_lets_106 : decode prog_7_method_22_code 106 = .ok (.istore 5, 2) := by decide +kernel
theorem dd_mo_lets_108 : decode prog_7_method_22_code 108 = .ok (.iinc 6 1, 3) := by decide +kernel
theorem dd_mo_lets_111 : decode prog_7_method_22_code 111 = .ok (.goto (-105), 3) := by decide +kernel
theorem dd_mo_lets_114 : decode prog_7_method_22_code 114 = .ok (.iload 5, 2) := by decide +kernel
theorem dd_mo_lets_116 : decode prog_7_method_22_code 116 = .ok (.ireturn, 1) := by decide +kernel
end
section
/-! decode rows: printed by wip/whole/facts.py -/
theorem dd_mo_take_0 : decode prog_7_method_28_code 0 = .ok (.aload_n 0, 1) := by decide +kernel
theorem dd_mo_take_1 : decode prog_7_method_28_code 1 = .ok (.aload_n 0, 1) := by decide +kernel
theorem dd_mo_take_2 : decode prog_7_method_28_code 2 = .ok (.iload_n 1, 1) := by decide +kernel
theorem dd_mo_take_3 : decode prog_7_method_28_code 3 = .ok (.invokevirtual 113, 3) := by decide +kernel
theorem dd_mo_take_6 : decode prog_7_method_28_code 6 = .ok (.ifCond .eq 23, 3) := by decide +kernel
theorem dd_mo_take_9 : decode prog_7_method_28_code 9 = .ok (.aload_n 0, 1) := by decide +kernel
theorem dd_mo_take_10 : decode prog_7_method_28_code 10 = .ok (.iload_n 2, 1) := by decide +kernel
theorem dd_mo_take_11 : decode prog_7_method_28_code 11 = .ok (.invokevirtual 113, 3) := by decide +kernel
theorem dd_mo_take_14 : decode prog_7_method_28_code 14 = .ok (.ifCond .eq 15, 3) := by decide +kernel
theorem dd_mo_take_17 : decode prog_7_method_28_code 17 = .ok (.aload_n 0, 1) := by decide +kernel
theorem dd_mo_take_18 : decode prog_7_method_28_code 18 = .ok (.iload_n 3, 1) := by decide +kernel
theorem dd_mo_take_19 : decode prog_7_method_28_code 19 = .ok (.invokevirtual 90, 3) := by decide +kernel
theorem dd_mo_take_22 : decode prog_7_method_28_code 22 = .ok (.ifCond .eq 7, 3) := by decide +kernel
theorem dd_mo_take_25 : decode prog_7_method_28_code 25 = .ok (.iconst 1, 1) := by decide +kernel
theorem dd_mo_take_26 : decode prog_7_method_28_code 26 = .ok (.goto 4, 3) := by decide +kernel
theorem dd_mo_take_29 : decode prog_7_method_28_code 29 = .ok (.iconst 0, 1) := by decide +kernel
theorem dd_mo_take_30 : decode prog_7_method_28_code 30 = .ok (.iconst 1, 1) := by decide +kernel
theorem dd_mo_take_31 : decode prog_7_method_28_code 31 = .ok (.invokevirtual 86, 3) := by decide +kernel
theorem dd_mo_take_34 : decode prog_7_method_28_code 34 = .ok (.ifCond .eq 37, 3) := by decide +kernel
theorem dd_mo_take_37 : decode prog_7_method_28_code 37 = .ok (.aload_n 0, 1) := by decide +kernel
theorem dd_mo_take_38 : decode prog_7_method_28_code 38 = .ok (.aload_n 0, 1) := by decide +kernel
theorem dd_mo_take_39 : decode prog_7_method_28_code 39 = .ok (.iconst 0, 1) := by decide +kernel
theorem dd_mo_take_40 : decode prog_7_method_28_code 40 = .ok (.aload_n 0, 1) := by decide +kernel
theorem dd_mo_take_41 : decode prog_7_method_28_code 41 = .ok (.aload_n 0, 1) := by decide +kernel
theorem dd_mo_take_42 : decode prog_7_method_28_code 42 = .ok (.getfield 19, 3) := by decide +kernel
theorem dd_mo_take_45 : decode prog_7_method_28_code 45 = .ok (.iload_n 1, 1) := by decide +kernel
theorem dd_mo_take_46 : decode prog_7_method_28_code 46 = .ok (.iaload, 1) := by decide +kernel
theorem dd_mo_take_47 : decode prog_7_method_28_code 47 = .ok (.invokevirtual 75, 3) := by decide +kernel
theorem dd_mo_take_50 : decode prog_7_method_28_code 50 = .ok (.aload_n 0, 1) := by decide +kernel
theorem dd_mo_take_51 : decode prog_7_method_28_code 51 = .ok (.aload_n 0, 1) := by decide +kernel
theorem dd_mo_take_52 : decode prog_7_method_28_code 52 = .ok (.getfield 19, 3) := by decide +kernel
theorem dd_mo_take_55 : decode prog_7_method_28_code 55 = .ok (.iload_n 2, 1) := by decide +kernel
theorem dd_mo_take_56 : decode prog_7_method_28_code 56 = .ok (.iaload, 1) := by decide +kernel
theorem dd_mo_take_57 : decode prog_7_method_28_code 57 = .ok (.invokevirtual 75, 3) := by decide +kernel
theorem dd_mo_take_60 : decode prog_7_method_28_code 60 = .ok (.iload_n 3, 1) := by decide +kernel
theorem dd_mo_take_61 : decode prog_7_method_28_code 61 = .ok (.invokevirtual 124, 3) := by decide +kernel
theorem dd_mo_take_64 : decode prog_7_method_28_code 64 = .ok (.iconst 2, 1) := by decide +kernel
theorem dd_mo_take_65 : decode prog_7_method_28_code 65 = .ok (.invokevirtual 86, 3) := by decide +kernel
theorem dd_mo_take_68 : decode prog_7_method_28_code 68 = .ok (.ifCond .ne 5, 3) := by decide +kernel
theorem dd_mo_take_71 : decode prog_7_method_28_code 71 = .ok (.iconst 0, 1) := by decide +kernel
theorem dd_mo_take_72 : decode prog_7_method_28_code 72 = .ok (.ireturn, 1) := by decide +kernel
theorem dd_mo_take_73 : decode prog_7_method_28_code 73 = .ok (.aload_n 0, 1) := by decide +kernel
theorem dd_mo_take_74 : decode prog_7_method_28_code 74 = .ok (.iload_n 2, 1) := by decide +kernel
theorem dd_mo_take_75 : decode prog_7_method_28_code 75 = .ok (.iload_n 3, 1) := by decide +kernel
theorem dd_mo_take_76 : decode prog_7_method_28_code 76 = .ok (.invokevirtual 120, 3) := by decide +kernel
theorem dd_mo_take_79 : decode prog_7_method_28_code 79 = .ok (.ireturn, 1) := by decide +kernel
theorem dd_mo_roles_0 : decode prog_7_method_29_code 0 = .ok (.aload_n 0, 1) := by decide +kernel
theorem dd_mo_roles_1 : decode prog_7_method_29_code 1 = .ok (.aload_n 0, 1) := by decide +kernel
theorem dd_mo_roles_2 : decode prog_7_method_29_code 2 = .ok (.iload_n 1, 1) := by decide +kernel
theorem dd_mo_roles_3 : decode prog_7_method_29_code 3 = .ok (.invokevirtual 113, 3) := by decide +kernel
theorem dd_mo_roles_6 : decode prog_7_method_29_code 6 = .ok (.iconst 1, 1) := by decide +kernel
theorem dd_mo_roles_7 : decode prog_7_method_29_code 7 = .ok (.invokevirtual 86, 3) := by decide +kernel
theorem dd_mo_roles_10 : decode prog_7_method_29_code 10 = .ok (.ifCond .ne 5, 3) := by decide +kernel
theorem dd_mo_roles_13 : decode prog_7_method_29_code 13 = .ok (.iconst 0, 1) := by decide +kernel
theorem dd_mo_roles_14 : decode prog_7_method_29_code 14 = .ok (.ireturn, 1) := by decide +kernel
theorem dd_mo_roles_15 : decode prog_7_method_29_code 15 = .ok (.iload_n 2, 1) := by decide +kernel
theorem dd_mo_roles_16 : decode prog_7_method_29_code 16 = .ok (.ifCond .eq 16, 3) := by decide +kernel
theorem dd_mo_roles_19 : decode prog_7_method_29_code 19 = .ok (.aload_n 0, 1) := by decide +kernel
theorem dd_mo_roles_20 : decode prog_7_method_29_code 20 = .ok (.aload_n 0, 1) := by decide +kernel
theorem dd_mo_roles_21 : decode prog_7_method_29_code 21 = .ok (.getfield 19, 3) := by decide +kernel
theorem dd_mo_roles_24 : decode prog_7_method_29_code 24 = .ok (.iload_n 1, 1) := by decide +kernel
theorem dd_mo_roles_25 : decode prog_7_method_29_code 25 = .ok (.iaload, 1) := by decide +kernel
theorem dd_mo_roles_26 : decode prog_7_method_29_code 26 = .ok (.invokevirtual 75, 3) := by decide +kernel
theorem dd_mo_roles_29 : decode prog_7_method_29_code 29 = .ok (.goto 9, 3) := by decide +kernel
theorem dd_mo_roles_32 : decode prog_7_method_29_code 32 = .ok (.aload_n 0, 1) := by decide +kernel
theorem dd_mo_roles_33 : decode prog_7_method_29_code 33 = .ok (.getfield 19, 3) := by decide +kernel
theorem dd_mo_roles_36 : decode prog_7_method_29_code 36 = .ok (.iload_n 1, 1) := by decide +kernel
theorem dd_mo_roles_37 : decode prog_7_method_29_code 37 = .ok (.iaload, 1) := by decide +kernel
theorem dd_mo_roles_38 : decode prog_7_method_29_code 38 = .ok (.ireturn, 1) := by decide +kernel
theorem dd_mo_open_0 : decode prog_7_method_30_code 0 = .ok (.iconst 0, 1) := by decide +kernel
theorem dd_mo_open_1 : decode prog_7_method_30_code 1 = .ok (.istore_n 2, 1) := by decide +kernel
theorem dd_mo_open_2 : decode prog_7_method_30_code 2 = .ok (.iload_n 2, 1) := by decide +kernel
theorem dd_mo_open_3 : decode prog_7_method_30_code 3 = .ok (.iconst 4, 1) := by decide +kernel
theorem dd_mo_open_4 : decode prog_7_method_30_code 4 = .ok (.if_icmp .ge 18, 3) := by decide +kernel
theorem dd_mo_open_7 : decode prog_7_method_30_code 7 = .ok (.aload_n 0, 1) := by decide +kernel
theorem dd_mo_open_8 : decode prog_7_method_30_code 8 = .ok (.getfield 31, 3) := by decide +kernel
theorem dd_mo_open_11 : decode prog_7_method_30_code 11 = .ok (.iload_n 2, 1) := by decide +kernel
theorem dd_mo_open_12 : decode prog_7_method_30_code 12 = .ok (.baload, 1) := by decide +kernel
theorem dd_mo_open_13 : decode prog_7_method_30_code 13 = .ok (.ifCond .eq 9, 3) := by decide +kernel
theorem dd_mo_open_16 : decode prog_7_method_30_code 16 = .ok (.iinc 2 1, 3) := by decide +kernel
theorem dd_mo_open_19 : decode prog_7_method_30_code 19 = .ok (.goto (-17), 3) := by decide +kernel
theorem dd_mo_open_22 : decode prog_7_method_30_code 22 = .ok (.aload_n 0, 1) := by decide +kernel
theorem dd_mo_open_23 : decode prog_7_method_30_code 23 = .ok (.aload_n 0, 1) := by decide +kernel
theorem dd_mo_open_24 : decode prog_7_method_30_code 24 = .ok (.iload_n 1, 1) := by decide +kernel
theorem dd_mo_open_25 : decode prog_7_method_30_code 25 = .ok (.invokevirtual 113, 3) := by decide +kernel
theorem dd_mo_open_28 : decode prog_7_method_30_code 28 = .ok (.iconst 1, 1) := by decide +kernel
theorem dd_mo_open_29 : decode prog_7_method_30_code 29 = .ok (.invokevirtual 86, 3) := by decide +kernel
theorem dd_mo_open_32 : decode prog_7_method_30_code 32 = .ok (.ifCond .eq 21, 3) := by decide +kernel
theorem dd_mo_open_35 : decode prog_7_method_30_code 35 = .ok (.aload_n 0, 1) := by decide +kernel
theorem dd_mo_open_36 : decode prog_7_method_30_code 36 = .ok (.iload_n 2, 1) := by decide +kernel
theorem dd_mo_open_37 : decode prog_7_method_30_code 37 = .ok (.iconst 4, 1) := by decide +kernel
theorem dd_mo_open_38 : decode prog_7_method_30_code 38 = .ok (.if_icmp .ge 7, 3) := by decide +kernel
theorem dd_mo_open_41 : decode prog_7_method_30_code 41 = .ok (.iconst 1, 1) := by decide +kernel
theorem dd_mo_open_42 : decode prog_7_method_30_code 42 = .ok (.goto 4, 3) := by decide +kernel
theorem dd_mo_open_45 : decode prog_7_method_30_code 45 = .ok (.iconst 0, 1) := by decide +kernel
theorem dd_mo_open_46 : decode prog_7_method_30_code 46 = .ok (.iconst 2, 1) := by decide +kernel
theorem dd_mo_open_47 : decode prog_7_method_30_code 47 = .ok (.invokevirtual 86, 3) := by decide +kernel
theorem dd_mo_open_50 : decode prog_7_method_30_code 50 = .ok (.ifCond .ne 5, 3) := by decide +kernel
theorem dd_mo_open_53 : decode prog_7_method_30_code 53 = .ok (.iconst 0, 1) := by decide +kernel
theorem dd_mo_open_54 : decode prog_7_method_30_code 54 = .ok (.ireturn, 1) := by decide +kernel
theorem dd_mo_open_55 : decode prog_7_method_30_code 55 = .ok (.aload_n 0, 1) := by decide +kernel
theorem dd_mo_open_56 : decode prog_7_method_30_code 56 = .ok (.getfield 31, 3) := by decide +kernel
theorem dd_mo_open_59 : decode prog_7_method_30_code 59 = .ok (.iload_n 2, 1) := by decide +kernel
theorem dd_mo_open_60 : decode prog_7_method_30_code 60 = .ok (.iconst 1, 1) := by decide +kernel
theorem dd_mo_open_61 : decode prog_7_method_30_code 61 = .ok (.bastore, 1) := by decide +kernel
theorem dd_mo_open_62 : decode prog_7_method_30_code 62 = .ok (.aload_n 0, 1) := by decide +kernel
theorem dd_mo_open_63 : decode prog_7_method_30_code 63 = .ok (.getfield 35, 3) := by decide +kernel
theorem dd_mo_open_66 : decode prog_7_method_30_code 66 = .ok (.iload_n 2, 1) := by decide +kernel
theorem dd_mo_open_67 : decode prog_7_method_30_code 67 = .ok (.iload_n 1, 1) := by decide +kernel
theorem dd_mo_open_68 : decode prog_7_method_30_code 68 = .ok (.iastore, 1) := by decide +kernel
theorem dd_mo_open_69 : decode prog_7_method_30_code 69 = .ok (.aload_n 0, 1) := by decide +kernel
theorem dd_mo_open_70 : decode prog_7_method_30_code 70 = .ok (.getfield 38, 3) := by decide +kernel
theorem dd_mo_open_73 : decode prog_7_method_30_code 73 = .ok (.iload_n 2, 1) := by decide +kernel
theorem dd_mo_open_74 : decode prog_7_method_30_code 74 = .ok (.iconst 0, 1) := by decide +kernel
theorem dd_mo_open_75 : decode prog_7_method_30_code 75 = .ok (.iastore, 1) := by decide +kernel
theorem dd_mo_open_76 : decode prog_7_method_30_code 76 = .ok (.iload_n 2, 1) := by decide +kernel
theorem dd_mo_open_77 : decode prog_7_method_30_code 77 = .ok (.ireturn, 1) := by decide +kernel
theorem dd_mo_close_0 : decode prog_7_method_31_code 0 = .ok (.aload_n 0, 1) := by decide +kernel
theorem dd_mo_close_1 : decode prog_7_method_31_code 1 = .ok (.aload_n 0, 1) := by decide +kernel
theorem dd_mo_close_2 : decode prog_7_method_31_code 2 = .ok (.iload_n 1, 1) := by decide +kernel
theorem dd_mo_close_3 : decode prog_7_method_31_code 3 = .ok (.invokevirtual 128, 3) := by decide +kernel
theorem dd_mo_close_6 : decode prog_7_method_31_code 6 = .ok (.iconst 1, 1) := by decide +kernel
theorem dd_mo_close_7 : decode prog_7_method_31_code 7 = .ok (.invokevirtual 86, 3) := by decide +kernel
theorem dd_mo_close_10 : decode prog_7_method_31_code 10 = .ok (.ifCond .eq 10, 3) := by decide +kernel
theorem dd_mo_close_13 : decode prog_7_method_31_code 13 = .ok (.aload_n 0, 1) := by decide +kernel
theorem dd_mo_close_14 : decode prog_7_method_31_code 14 = .ok (.getfield 31, 3) := by decide +kernel
theorem dd_mo_close_17 : decode prog_7_method_31_code 17 = .ok (.iload_n 1, 1) := by decide +kernel
theorem dd_mo_close_18 : decode prog_7_method_31_code 18 = .ok (.iconst 0, 1) := by decide +kernel
theorem dd_mo_close_19 : decode prog_7_method_31_code 19 = .ok (.bastore, 1) := by decide +kernel
theorem dd_mo_close_20 : decode prog_7_method_31_code 20 = .ok (.return_, 1) := by decide +kernel
theorem dd_mo_isSession_0 : decode prog_7_method_6_code 0 = .ok (.iload_n 1, 1) := by decide +kernel
theorem dd_mo_isSession_1 : decode prog_7_method_6_code 1 = .ok (.ifCond .lt 21, 3) := by decide +kernel
theorem dd_mo_isSession_4 : decode prog_7_method_6_code 4 = .ok (.iload_n 1, 1) := by decide +kernel
theorem dd_mo_isSession_5 : decode prog_7_method_6_code 5 = .ok (.iconst 4, 1) := by decide +kernel
theorem dd_mo_isSession_6 : decode prog_7_method_6_code 6 = .ok (.if_icmp .ge 16, 3) := by decide +kernel
theorem dd_mo_isSession_9 : decode prog_7_method_6_code 9 = .ok (.aload_n 0, 1) := by decide +kernel
theorem dd_mo_isSession_10 : decode prog_7_method_6_code 10 = .ok (.getfield 31, 3) := by decide +kernel
theorem dd_mo_isSession_13 : decode prog_7_method_6_code 13 = .ok (.iload_n 1, 1) := by decide +kernel
theorem dd_mo_isSession_14 : decode prog_7_method_6_code 14 = .ok (.baload, 1) := by decide +kernel
theorem dd_mo_isSession_15 : decode prog_7_method_6_code 15 = .ok (.ifCond .eq 7, 3) := by decide +kernel
theorem dd_mo_isSession_18 : decode prog_7_method_6_code 18 = .ok (.iconst 1, 1) := by decide +kernel
theorem dd_mo_isSession_19 : decode prog_7_method_6_code 19 = .ok (.goto 4, 3) := by decide +kernel
theorem dd_mo_isSession_22 : decode prog_7_method_6_code 22 = .ok (.iconst 0, 1) := by decide +kernel
theorem dd_mo_isSession_23 : decode prog_7_method_6_code 23 = .ok (.ireturn, 1) := by decide +kernel
theorem dd_mo_activate_0 : decode prog_7_method_32_code 0 = .ok (.aload_n 0, 1) := by decide +kernel
theorem dd_mo_activate_1 : decode prog_7_method_32_code 1 = .ok (.aload_n 0, 1) := by decide +kernel
theorem dd_mo_activate_2 : decode prog_7_method_32_code 2 = .ok (.iload_n 1, 1) := by decide +kernel
theorem dd_mo_activate_3 : decode prog_7_method_32_code 3 = .ok (.invokevirtual 128, 3) := by decide +kernel
theorem dd_mo_activate_6 : decode prog_7_method_32_code 6 = .ok (.ifCond .eq 15, 3) := by decide +kernel
theorem dd_mo_activate_9 : decode prog_7_method_32_code 9 = .ok (.aload_n 0, 1) := by decide +kernel
theorem dd_mo_activate_10 : decode prog_7_method_32_code 10 = .ok (.iload_n 2, 1) := by decide +kernel
theorem dd_mo_activate_11 : decode prog_7_method_32_code 11 = .ok (.invokevirtual 90, 3) := by decide +kernel
theorem dd_mo_activate_14 : decode prog_7_method_32_code 14 = .ok (.ifCond .eq 7, 3) := by decide +kernel
theorem dd_mo_activate_17 : decode prog_7_method_32_code 17 = .ok (.iconst 1, 1) := by decide +kernel
theorem dd_mo_activate_18 : decode prog_7_method_32_code 18 = .ok (.goto 4, 3) := by decide +kernel
theorem dd_mo_activate_21 : decode prog_7_method_32_code 21 = .ok (.iconst 0, 1) := by decide +kernel
theorem dd_mo_activate_22 : decode prog_7_method_32_code 22 = .ok (.iconst 1, 1) := by decide +kernel
theorem dd_mo_activate_23 : decode prog_7_method_32_code 23 = .ok (.invokevirtual 86, 3) := by decide +kernel
theorem dd_mo_activate_26 : decode prog_7_method_32_code 26 = .ok (.ifCond .ne 5, 3) := by decide +kernel
theorem dd_mo_activate_29 : decode prog_7_method_32_code 29 = .ok (.iconst 0, 1) := by decide +kernel
theorem dd_mo_activate_30 : decode prog_7_method_32_code 30 = .ok (.ireturn, 1) := by decide +kernel
theorem dd_mo_activate_31 : decode prog_7_method_32_code 31 = .ok (.aload_n 0, 1) := by decide +kernel
theorem dd_mo_activate_32 : decode prog_7_method_32_code 32 = .ok (.getfield 38, 3) := by decide +kernel
theorem dd_mo_activate_35 : decode prog_7_method_32_code 35 = .ok (.iload_n 1, 1) := by decide +kernel
theorem dd_mo_activate_36 : decode prog_7_method_32_code 36 = .ok (.iaload, 1) := by decide +kernel
theorem dd_mo_activate_37 : decode prog_7_method_32_code 37 = .ok (.iconst 1, 1) := by decide +kernel
theorem dd_mo_activate_38 : decode prog_7_method_32_code 38 = .ok (.iload_n 2, 1) := by decide +kernel
theorem dd_mo_activate_39 : decode prog_7_method_32_code 39 = .ok (.ishl, 1) := by decide +kernel
theorem dd_mo_activate_40 : decode prog_7_method_32_code 40 = .ok (.ior, 1) := by decide +kernel
theorem dd_mo_activate_41 : decode prog_7_method_32_code 41 = .ok (.istore_n 3, 1) := by decide +kernel
theorem dd_mo_activate_42 : decode prog_7_method_32_code 42 = .ok (.aload_n 0, 1) := by decide +kernel
theorem dd_mo_activate_43 : decode prog_7_method_32_code 43 = .ok (.aload_n 0, 1) := by decide +kernel
theorem dd_mo_activate_44 : decode prog_7_method_32_code 44 = .ok (.aload_n 0, 1) := by decide +kernel
theorem dd_mo_activate_45 : decode prog_7_method_32_code 45 = .ok (.getfield 19, 3) := by decide +kernel
theorem dd_mo_activate_48 : decode prog_7_method_32_code 48 = .ok (.aload_n 0, 1) := by decide +kernel
theorem dd_mo_activate_49 : decode prog_7_method_32_code 49 = .ok (.getfield 35, 3) := by decide +kernel
theorem dd_mo_activate_52 : decode prog_7_method_32_code 52 = .ok (.iload_n 1, 1) := by decide +kernel
theorem dd_mo_activate_53 : decode prog_7_method_32_code 53 = .ok (.iaload, 1) := by decide +kernel
theorem dd_mo_activate_54 : decode prog_7_method_32_code 54 = .ok (.iaload, 1) := by decide +kernel
theorem dd_mo_activate_55 : decode prog_7_method_32_code 55 = .ok (.invokevirtual 75, 3) := by decide +kernel
theorem dd_mo_activate_58 : decode prog_7_method_32_code 58 = .ok (.iload_n 2, 1) := by decide +kernel
theorem dd_mo_activate_59 : decode prog_7_method_32_code 59 = .ok (.ishr, 1) := by decide +kernel
theorem dd_mo_activate_60 : decode prog_7_method_32_code 60 = .ok (.iconst 1, 1) := by decide +kernel
theorem dd_mo_activate_61 : decode prog_7_method_32_code 61 = .ok (.iand, 1) := by decide +kernel
theorem dd_mo_activate_62 : decode prog_7_method_32_code 62 = .ok (.iconst 1, 1) := by decide +kernel
theorem dd_mo_activate_63 : decode prog_7_method_32_code 63 = .ok (.if_icmp .ne 7, 3) := by decide +kernel
theorem dd_mo_activate_66 : decode prog_7_method_32_code 66 = .ok (.iconst 1, 1) := by decide +kernel
theorem dd_mo_activate_67 : decode prog_7_method_32_code 67 = .ok (.goto 4, 3) := by decide +kernel
theorem dd_mo_activate_70 : decode prog_7_method_32_code 70 = .ok (.iconst 0, 1) := by decide +kernel
theorem dd_mo_activate_71 : decode prog_7_method_32_code 71 = .ok (.iconst 2, 1) := by decide +kernel
theorem dd_mo_activate_72 : decode prog_7_method_32_code 72 = .ok (.invokevirtual 86, 3) := by decide +kernel
theorem dd_mo_activate_75 : decode prog_7_method_32_code 75 = .ok (.ifCond .eq 16, 3) := by decide +kernel
theorem dd_mo_activate_78 : decode prog_7_method_32_code 78 = .ok (.aload_n 0, 1) := by decide +kernel
theorem dd_mo_activate_79 : decode prog_7_method_32_code 79 = .ok (.aload_n 0, 1) := by decide +kernel
theorem dd_mo_activate_80 : decode prog_7_method_32_code 80 = .ok (.iload_n 3, 1) := by decide +kernel
theorem dd_mo_activate_81 : decode prog_7_method_32_code 81 = .ok (.invokevirtual 97, 3) := by decide +kernel
theorem dd_mo_activate_84 : decode prog_7_method_32_code 84 = .ok (.iconst 3, 1) := by decide +kernel
theorem dd_mo_activate_85 : decode prog_7_method_32_code 85 = .ok (.invokevirtual 86, 3) := by decide +kernel
theorem dd_mo_activate_88 : decode prog_7_method_32_code 88 = .ok (.ifCond .ne 5, 3) := by decide +kernel
theorem dd_mo_activate_91 : decode prog_7_method_32_code 91 = .ok (.iconst 0, 1) := by decide +kernel
theorem dd_mo_activate_92 : decode prog_7_method_32_code 92 = .ok (.ireturn, 1) := by decide +kernel
theorem dd_mo_activate_93 : decode prog_7_method_32_code 93 = .ok (.iload_n 3, 1) := by decide +kernel
theorem dd_mo_activate_94 : decode prog_7_method_32_code 94 = .ok (.aload_n 0, 1) := by decide +kernel
theorem dd_mo_activate_95 : decode prog_7_method_32_code 95 = .ok (.getfield 38, 3) := by decide +kernel
theorem dd_mo_activate_98 : decode prog_7_method_32_code 98 = .ok (.iload_n 1, 1) := by decide +kernel
theorem dd_mo_activate_99 : decode prog_7_method_32_code 99 = .ok (.iaload, 1) := by decide +kernel
theorem dd_mo_activate_100 : decode prog_7_method_32_code 100 = .ok (.if_icmp .eq 7, 3) := by decide +kernel
theorem dd_mo_activate_103 : decode prog_7_method_32_code 103 = .ok (.iconst 1, 1) := by decide +kernel
theorem dd_mo_activate_104 : decode prog_7_method_32_code 104 = .ok (.goto 4, 3) := by decide +kernel
theorem dd_mo_activate_107 : decode prog_7_method_32_code 107 = .ok (.iconst 0, 1) := by decide +kernel
theorem dd_mo_activate_108 : decode prog_7_method_32_code 108 = .ok (.istore 4, 2) := by decide +kernel
theorem dd_mo_activate_110 : decode prog_7_method_32_code 110 = .ok (.aload_n 0, 1) := by decide +kernel
theorem dd_mo_activate_111 : decode prog_7_method_32_code 111 = .ok (.getfield 38, 3) := by decide +kernel
theorem dd_mo_activate_114 : decode prog_7_method_32_code 114 = .ok (.iload_n 1, 1) := by decide +kernel
theorem dd_mo_activate_115 : decode prog_7_method_32_code 115 = .ok (.iload_n 3, 1) := by decide +kernel
theorem dd_mo_activate_116 : decode prog_7_method_32_code 116 = .ok (.iastore, 1) := by decide +kernel
theorem dd_mo_activate_117 : decode prog_7_method_32_code 117 = .ok (.iload 4, 2) := by decide +kernel
theorem dd_mo_activate_119 : decode prog_7_method_32_code 119 = .ok (.ireturn, 1) := by decide +kernel
theorem dd_mo_rest_0 : decode prog_7_method_33_code 0 = .ok (.aload_n 0, 1) := by decide +kernel
theorem dd_mo_rest_1 : decode prog_7_method_33_code 1 = .ok (.aload_n 0, 1) := by decide +kernel
theorem dd_mo_rest_2 : decode prog_7_method_33_code 2 = .ok (.iload_n 1, 1) := by decide +kernel
theorem dd_mo_rest_3 : decode prog_7_method_33_code 3 = .ok (.invokevirtual 128, 3) := by decide +kernel
theorem dd_mo_rest_6 : decode prog_7_method_33_code 6 = .ok (.ifCond .eq 15, 3) := by decide +kernel
theorem dd_mo_rest_9 : decode prog_7_method_33_code 9 = .ok (.aload_n 0, 1) := by decide +kernel
theorem dd_mo_rest_10 : decode prog_7_method_33_code 10 = .ok (.iload_n 2, 1) := by decide +kernel
theorem dd_mo_rest_11 : decode prog_7_method_33_code 11 = .ok (.invokevirtual 90, 3) := by decide +kernel
theorem dd_mo_rest_14 : decode prog_7_method_33_code 14 = .ok (.ifCond .eq 7, 3) := by decide +kernel
theorem dd_mo_rest_17 : decode prog_7_method_33_code 17 = .ok (.iconst 1, 1) := by decide +kernel
theorem dd_mo_rest_18 : decode prog_7_method_33_code 18 = .ok (.goto 4, 3) := by decide +kernel
theorem dd_mo_rest_21 : decode prog_7_method_33_code 21 = .ok (.iconst 0, 1) := by decide +kernel
theorem dd_mo_rest_22 : decode prog_7_method_33_code 22 = .ok (.iconst 1, 1) := by decide +kernel
theorem dd_mo_rest_23 : decode prog_7_method_33_code 23 = .ok (.invokevirtual 86, 3) := by decide +kernel
theorem dd_mo_rest_26 : decode prog_7_method_33_code 26 = .ok (.ifCond .ne 5, 3) := by decide +kernel
theorem dd_mo_rest_29 : decode prog_7_method_33_code 29 = .ok (.iconst 0, 1) := by decide +kernel
theorem dd_mo_rest_30 : decode prog_7_method_33_code 30 = .ok (.ireturn, 1) := by decide +kernel
theorem dd_mo_rest_31 : decode prog_7_method_33_code 31 = .ok (.aload_n 0, 1) := by decide +kernel
theorem dd_mo_rest_32 : decode prog_7_method_33_code 32 = .ok (.getfield 38, 3) := by decide +kernel
theorem dd_mo_rest_35 : decode prog_7_method_33_code 35 = .ok (.iload_n 1, 1) := by decide +kernel
theorem dd_mo_rest_36 : decode prog_7_method_33_code 36 = .ok (.iaload, 1) := by decide +kernel
theorem dd_mo_rest_37 : decode prog_7_method_33_code 37 = .ok (.iload_n 2, 1) := by decide +kernel
theorem dd_mo_rest_38 : decode prog_7_method_33_code 38 = .ok (.ishr, 1) := by decide +kernel
theorem dd_mo_rest_39 : decode prog_7_method_33_code 39 = .ok (.iconst 1, 1) := by decide +kernel
theorem dd_mo_rest_40 : decode prog_7_method_33_code 40 = .ok (.iand, 1) := by decide +kernel
theorem dd_mo_rest_41 : decode prog_7_method_33_code 41 = .ok (.iconst 1, 1) := by decide +kernel
theorem dd_mo_rest_42 : decode prog_7_method_33_code 42 = .ok (.if_icmp .ne 7, 3) := by decide +kernel
theorem dd_mo_rest_45 : decode prog_7_method_33_code 45 = .ok (.iconst 1, 1) := by decide +kernel
theorem dd_mo_rest_46 : decode prog_7_method_33_code 46 = .ok (.goto 4, 3) := by decide +kernel
theorem dd_mo_rest_49 : decode prog_7_method_33_code 49 = .ok (.iconst 0, 1) := by decide +kernel
theorem dd_mo_rest_50 : decode prog_7_method_33_code 50 = .ok (.istore_n 3, 1) := by decide +kernel
theorem dd_mo_rest_51 : decode prog_7_method_33_code 51 = .ok (.aload_n 0, 1) := by decide +kernel
theorem dd_mo_rest_52 : decode prog_7_method_33_code 52 = .ok (.getfield 38, 3) := by decide +kernel
theorem dd_mo_rest_55 : decode prog_7_method_33_code 55 = .ok (.iload_n 1, 1) := by decide +kernel
theorem dd_mo_rest_56 : decode prog_7_method_33_code 56 = .ok (.aload_n 0, 1) := by decide +kernel
theorem dd_mo_rest_57 : decode prog_7_method_33_code 57 = .ok (.getfield 38, 3) := by decide +kernel
theorem dd_mo_rest_60 : decode prog_7_method_33_code 60 = .ok (.iload_n 1, 1) := by decide +kernel
theorem dd_mo_rest_61 : decode prog_7_method_33_code 61 = .ok (.iaload, 1) := by decide +kernel
theorem dd_mo_rest_62 : decode prog_7_method_33_code 62 = .ok (.iconst 1, 1) := by decide +kernel
theorem dd_mo_rest_63 : decode prog_7_method_33_code 63 = .ok (.iload_n 2, 1) := by decide +kernel
theorem dd_mo_rest_64 : decode prog_7_method_33_code 64 = .ok (.ishl, 1) := by decide +kernel
theorem dd_mo_rest_65 : decode prog_7_method_33_code 65 = .ok (.iconst (-1), 1) := by decide +kernel
theorem dd_mo_rest_66 : decode prog_7_method_33_code 66 = .ok (.ixor, 1) := by decide +kernel
theorem dd_mo_rest_67 : decode prog_7_method_33_code 67 = .ok (.iand, 1) := by decide +kernel
theorem dd_mo_rest_68 : decode prog_7_method_33_code 68 = .ok (.iastore, 1) := by decide +kernel
theorem dd_mo_rest_69 : decode prog_7_method_33_code 69 = .ok (.iload_n 3, 1) := by decide +kernel
theorem dd_mo_rest_70 : decode prog_7_method_33_code 70 = .ok (.ireturn, 1) := by decide +kernel
theorem dd_mo_active_0 : decode prog_7_method_34_code 0 = .ok (.aload_n 0, 1) := by decide +kernel
theorem dd_mo_active_1 : decode prog_7_method_34_code 1 = .ok (.aload_n 0, 1) := by decide +kernel
theorem dd_mo_active_2 : decode prog_7_method_34_code 2 = .ok (.iload_n 1, 1) := by decide +kernel
theorem dd_mo_active_3 : decode prog_7_method_34_code 3 = .ok (.invokevirtual 128, 3) := by decide +kernel
theorem dd_mo_active_6 : decode prog_7_method_34_code 6 = .ok (.iconst 1, 1) := by decide +kernel
theorem dd_mo_active_7 : decode prog_7_method_34_code 7 = .ok (.invokevirtual 86, 3) := by decide +kernel
theorem dd_mo_active_10 : decode prog_7_method_34_code 10 = .ok (.ifCond .eq 12, 3) := by decide +kernel
theorem dd_mo_active_13 : decode prog_7_method_34_code 13 = .ok (.aload_n 0, 1) := by decide +kernel
theorem dd_mo_active_14 : decode prog_7_method_34_code 14 = .ok (.getfield 38, 3) := by decide +kernel
theorem dd_mo_active_17 : decode prog_7_method_34_code 17 = .ok (.iload_n 1, 1) := by decide +kernel
theorem dd_mo_active_18 : decode prog_7_method_34_code 18 = .ok (.iaload, 1) := by decide +kernel
theorem dd_mo_active_19 : decode prog_7_method_34_code 19 = .ok (.goto 4, 3) := by decide +kernel
theorem dd_mo_active_22 : decode prog_7_method_34_code 22 = .ok (.iconst 0, 1) := by decide +kernel
theorem dd_mo_active_23 : decode prog_7_method_34_code 23 = .ok (.ireturn, 1) := by decide +kernel
theorem dd_mo_may_0 : decode prog_7_method_35_code 0 = .ok (.aload_n 0, 1) := by decide +kernel
theorem dd_mo_may_1 : decode prog_7_method_35_code 1 = .ok (.aload_n 0, 1) := by decide +kernel
theorem dd_mo_may_2 : decode prog_7_method_35_code 2 = .ok (.iload_n 1, 1) := by decide +kernel
theorem dd_mo_may_3 : decode prog_7_method_35_code 3 = .ok (.invokevirtual 128, 3) := by decide +kernel
theorem dd_mo_may_6 : decode prog_7_method_35_code 6 = .ok (.ifCond .eq 17, 3) := by decide +kernel
theorem dd_mo_may_9 : decode prog_7_method_35_code 9 = .ok (.iload_n 2, 1) := by decide +kernel
theorem dd_mo_may_10 : decode prog_7_method_35_code 10 = .ok (.ifCond .lt 13, 3) := by decide +kernel
theorem dd_mo_may_13 : decode prog_7_method_35_code 13 = .ok (.iload_n 2, 1) := by decide +kernel
theorem dd_mo_may_14 : decode prog_7_method_35_code 14 = .ok (.bipush 30, 2) := by decide +kernel
theorem dd_mo_may_16 : decode prog_7_method_35_code 16 = .ok (.if_icmp .gt 7, 3) := by decide +kernel
theorem dd_mo_may_19 : decode prog_7_method_35_code 19 = .ok (.iconst 1, 1) := by decide +kernel
theorem dd_mo_may_20 : decode prog_7_method_35_code 20 = .ok (.goto 4, 3) := by decide +kernel
theorem dd_mo_may_23 : decode prog_7_method_35_code 23 = .ok (.iconst 0, 1) := by decide +kernel
theorem dd_mo_may_24 : decode prog_7_method_35_code 24 = .ok (.iconst 1, 1) := by decide +kernel
theorem dd_mo_may_25 : decode prog_7_method_35_code 25 = .ok (.invokevirtual 86, 3) := by decide +kernel
theorem dd_mo_may_28 : decode prog_7_method_35_code 28 = .ok (.ifCond .ne 5, 3) := by decide +kernel
theorem dd_mo_may_31 : decode prog_7_method_35_code 31 = .ok (.iconst 0, 1) := by decide +kernel
theorem dd_mo_may_32 : decode prog_7_method_35_code 32 = .ok (.ireturn, 1) := by decide +kernel
theorem dd_mo_may_33 : decode prog_7_method_35_code 33 = .ok (.aload_n 0, 1) := by decide +kernel
theorem dd_mo_may_34 : decode prog_7_method_35_code 34 = .ok (.aload_n 0, 1) := by decide +kernel
theorem dd_mo_may_35 : decode prog_7_method_35_code 35 = .ok (.getfield 38, 3) := by decide +kernel
theorem dd_mo_may_38 : decode prog_7_method_35_code 38 = .ok (.iload_n 1, 1) := by decide +kernel
theorem dd_mo_may_39 : decode prog_7_method_35_code 39 = .ok (.iaload, 1) := by decide +kernel
theorem dd_mo_may_40 : decode prog_7_method_35_code 40 = .ok (.invokevirtual 75, 3) := by decide +kernel
theorem dd_mo_may_43 : decode prog_7_method_35_code 43 = .ok (.istore_n 3, 1) := by decide +kernel
theorem dd_mo_may_44 : decode prog_7_method_35_code 44 = .ok (.iconst 0, 1) := by decide +kernel
theorem dd_mo_may_45 : decode prog_7_method_35_code 45 = .ok (.istore 4, 2) := by decide +kernel
theorem dd_mo_may_47 : decode prog_7_method_35_code 47 = .ok (.iconst 0, 1) := by decide +kernel
theorem dd_mo_may_48 : decode prog_7_method_35_code 48 = .ok (.istore 5, 2) := by decide +kernel
theorem dd_mo_may_50 : decode prog_7_method_35_code 50 = .ok (.iload 5, 2) := by decide +kernel
theorem dd_mo_may_52 : decode prog_7_method_35_code 52 = .ok (.aload_n 0, 1) := by decide +kernel
theorem dd_mo_may_53 : decode prog_7_method_35_code 53 = .ok (.getfield 69, 3) := by decide +kernel
theorem dd_mo_may_56 : decode prog_7_method_35_code 56 = .ok (.if_icmp .ge 46, 3) := by decide +kernel
theorem dd_mo_may_59 : decode prog_7_method_35_code 59 = .ok (.iload 4, 2) := by decide +kernel
theorem dd_mo_may_61 : decode prog_7_method_35_code 61 = .ok (.ifCond .ne 28, 3) := by decide +kernel
theorem dd_mo_may_64 : decode prog_7_method_35_code 64 = .ok (.iload_n 3, 1) := by decide +kernel
theorem dd_mo_may_65 : decode prog_7_method_35_code 65 = .ok (.iload 5, 2) := by decide +kernel
theorem dd_mo_may_67 : decode prog_7_method_35_code 67 = .ok (.ishr, 1) := by decide +kernel
theorem dd_mo_may_68 : decode prog_7_method_35_code 68 = .ok (.iconst 1, 1) := by decide +kernel
theorem dd_mo_may_69 : decode prog_7_method_35_code 69 = .ok (.iand, 1) := by decide +kernel
theorem dd_mo_may_70 : decode prog_7_method_35_code 70 = .ok (.iconst 1, 1) := by decide +kernel
theorem dd_mo_may_71 : decode prog_7_method_35_code 71 = .ok (.if_icmp .ne 22, 3) := by decide +kernel
theorem dd_mo_may_74 : decode prog_7_method_35_code 74 = .ok (.aload_n 0, 1) := by decide +kernel
theorem dd_mo_may_75 : decode prog_7_method_35_code 75 = .ok (.getfield 13, 3) := by decide +kernel
theorem dd_mo_may_78 : decode prog_7_method_35_code 78 = .ok (.iload 5, 2) := by decide +kernel
theorem dd_mo_may_80 : decode prog_7_method_35_code 80 = .ok (.iaload, 1) := by decide +kernel
theorem dd_mo_may_81 : decode prog_7_method_35_code 81 = .ok (.iload_n 2, 1) := by decide +kernel
theorem dd_mo_may_82 : decode prog_7_method_35_code 82 = .ok (.ishr, 1) := by decide +kernel
theorem dd_mo_may_83 : decode prog_7_method_35_code 83 = .ok (.iconst 1, 1) := by decide +kernel
theorem dd_mo_may_84 : decode prog_7_method_35_code 84 = .ok (.iand, 1) := by decide +kernel
theorem dd_mo_may_85 : decode prog_7_method_35_code 85 = .ok (.iconst 1, 1) := by decide +kernel
theorem dd_mo_may_86 : decode prog_7_method_35_code 86 = .ok (.if_icmp .ne 7, 3) := by decide +kernel
theorem dd_mo_may_89 : decode prog_7_method_35_code 89 = .ok (.iconst 1, 1) := by decide +kernel
theorem dd_mo_may_90 : decode prog_7_method_35_code 90 = .ok (.goto 4, 3) := by decide +kernel
theorem dd_mo_may_93 : decode prog_7_method_35_code 93 = .ok (.iconst 0, 1) := by decide +kernel
theorem dd_mo_may_94 : decode prog_7_method_35_code 94 = .ok (.istore 4, 2) := by decide +kernel
theorem dd_mo_may_96 : decode prog_7_method_35_code 96 = .ok (.iinc 5 1, 3) := by decide +kernel
theorem dd_mo_may_99 : decode prog_7_method_35_code 99 = .ok (.goto (-49), 3) := by decide +kernel
theorem dd_mo_may_102 : decode prog_7_method_35_code 102 = .ok (.iload 4, 2) := by decide +kernel
theorem dd_mo_may_104 : decode prog_7_method_35_code 104 = .ok (.ireturn, 1) := by decide +kernel
theorem dd_mo_distance_0 : decode prog_7_method_40_code 0 = .ok (.aload_n 0, 1) := by decide +kernel
theorem dd_mo_distance_1 : decode prog_7_method_40_code 1 = .ok (.aload_n 0, 1) := by decide +kernel
theorem dd_mo_distance_2 : decode prog_7_method_40_code 2 = .ok (.iload_n 1, 1) := by decide +kernel
theorem dd_mo_distance_3 : decode prog_7_method_40_code 3 = .ok (.invokevirtual 113, 3) := by decide +kernel
theorem dd_mo_distance_6 : decode prog_7_method_40_code 6 = .ok (.ifCond .eq 15, 3) := by decide +kernel
theorem dd_mo_distance_9 : decode prog_7_method_40_code 9 = .ok (.aload_n 0, 1) := by decide +kernel
theorem dd_mo_distance_10 : decode prog_7_method_40_code 10 = .ok (.iload_n 2, 1) := by decide +kernel
theorem dd_mo_distance_11 : decode prog_7_method_40_code 11 = .ok (.invokevirtual 90, 3) := by decide +kernel
theorem dd_mo_distance_14 : decode prog_7_method_40_code 14 = .ok (.ifCond .eq 7, 3) := by decide +kernel
theorem dd_mo_distance_17 : decode prog_7_method_40_code 17 = .ok (.iconst 1, 1) := by decide +kernel
theorem dd_mo_distance_18 : decode prog_7_method_40_code 18 = .ok (.goto 4, 3) := by decide +kernel
theorem dd_mo_distance_21 : decode prog_7_method_40_code 21 = .ok (.iconst 0, 1) := by decide +kernel
theorem dd_mo_distance_22 : decode prog_7_method_40_code 22 = .ok (.iconst 1, 1) := by decide +kernel
theorem dd_mo_distance_23 : decode prog_7_method_40_code 23 = .ok (.invokevirtual 86, 3) := by decide +kernel
theorem dd_mo_distance_26 : decode prog_7_method_40_code 26 = .ok (.ifCond .eq 30, 3) := by decide +kernel
theorem dd_mo_distance_29 : decode prog_7_method_40_code 29 = .ok (.aload_n 0, 1) := by decide +kernel
theorem dd_mo_distance_30 : decode prog_7_method_40_code 30 = .ok (.aload_n 0, 1) := by decide +kernel
theorem dd_mo_distance_31 : decode prog_7_method_40_code 31 = .ok (.getfield 72, 3) := by decide +kernel
theorem dd_mo_distance_34 : decode prog_7_method_40_code 34 = .ok (.aload_n 0, 1) := by decide +kernel
theorem dd_mo_distance_35 : decode prog_7_method_40_code 35 = .ok (.getfield 69, 3) := by decide +kernel
theorem dd_mo_distance_38 : decode prog_7_method_40_code 38 = .ok (.imul, 1) := by decide +kernel
theorem dd_mo_distance_39 : decode prog_7_method_40_code 39 = .ok (.bipush 12, 2) := by decide +kernel
theorem dd_mo_distance_41 : decode prog_7_method_40_code 41 = .ok (.if_icmp .gt 7, 3) := by decide +kernel
theorem dd_mo_distance_44 : decode prog_7_method_40_code 44 = .ok (.iconst 1, 1) := by decide +kernel
theorem dd_mo_distance_45 : decode prog_7_method_40_code 45 = .ok (.goto 4, 3) := by decide +kernel
theorem dd_mo_distance_48 : decode prog_7_method_40_code 48 = .ok (.iconst 0, 1) := by decide +kernel
theorem dd_mo_distance_49 : decode prog_7_method_40_code 49 = .ok (.iconst 2, 1) := by decide +kernel
theorem dd_mo_distance_50 : decode prog_7_method_40_code 50 = .ok (.invokevirtual 86, 3) := by decide +kernel
theorem dd_mo_distance_53 : decode prog_7_method_40_code 53 = .ok (.ifCond .ne 5, 3) := by decide +kernel
theorem dd_mo_distance_56 : decode prog_7_method_40_code 56 = .ok (.iconst 0, 1) := by decide +kernel
theorem dd_mo_distance_57 : decode prog_7_method_40_code 57 = .ok (.ireturn, 1) := by decide +kernel
theorem dd_mo_distance_58 : decode prog_7_method_40_code 58 = .ok (.aload_n 0, 1) := by decide +kernel
theorem dd_mo_distance_59 : decode prog_7_method_40_code 59 = .ok (.iload_n 1, 1) := by decide +kernel
theorem dd_mo_distance_60 : decode prog_7_method_40_code 60 = .ok (.iload_n 2, 1) := by decide +kernel
theorem dd_mo_distance_61 : decode prog_7_method_40_code 61 = .ok (.invokevirtual 148, 3) := by decide +kernel
theorem dd_mo_distance_64 : decode prog_7_method_40_code 64 = .ok (.aload_n 0, 1) := by decide +kernel
theorem dd_mo_distance_65 : decode prog_7_method_40_code 65 = .ok (.getfield 138, 3) := by decide +kernel
theorem dd_mo_distance_68 : decode prog_7_method_40_code 68 = .ok (.ireturn, 1) := by decide +kernel
end
section
/-! decode rows: printed by wip/whole/facts.py -/
theorem dd_mo_search_0 : decode prog_7_method_39_code 0 = .ok (.iconst 0, 1) := by decide +kernel
theorem dd_mo_search_1 : decode prog_7_method_39_code 1 = .ok (.istore_n 3, 1) := by decide +kernel
theorem dd_mo_search_2 : decode prog_7_method_39_code 2 = .ok (.iload_n 3, 1) := by decide +kernel
theorem dd_mo_search_3 : decode prog_7_method_39_code 3 = .ok (.sipush 4096, 3) := by decide +kernel
theorem dd_mo_search_6 : decode prog_7_method_39_code 6 = .ok (.if_icmp .ge 16, 3) := by decide +kernel
theorem dd_mo_search_9 : decode prog_7_method_39_code 9 = .ok (.aload_n 0, 1) := by decide +kernel
theorem dd_mo_search_10 : decode prog_7_method_39_code 10 = .ok (.getfield 56, 3) := by decide +kernel
theorem dd_mo_search_13 : decode prog_7_method_39_code 13 = .ok (.iload_n 3, 1) := by decide +kernel
theorem dd_mo_search_14 : decode prog_7_method_39_code 14 = .ok (.iconst (-1), 1) := by decide +kernel
theorem dd_mo_search_15 : decode prog_7_method_39_code 15 = .ok (.iastore, 1) := by decide +kernel
theorem dd_mo_search_16 : decode prog_7_method_39_code 16 = .ok (.iinc 3 1, 3) := by decide +kernel
theorem dd_mo_search_19 : decode prog_7_method_39_code 19 = .ok (.goto (-17), 3) := by decide +kernel
theorem dd_mo_search_22 : decode prog_7_method_39_code 22 = .ok (.iconst 0, 1) := by decide +kernel
theorem dd_mo_search_23 : decode prog_7_method_39_code 23 = .ok (.istore_n 3, 1) := by decide +kernel
theorem dd_mo_search_24 : decode prog_7_method_39_code 24 = .ok (.iconst 0, 1) := by decide +kernel
theorem dd_mo_search_25 : decode prog_7_method_39_code 25 = .ok (.istore 4, 2) := by decide +kernel
theorem dd_mo_search_27 : decode prog_7_method_39_code 27 = .ok (.iload 4, 2) := by decide +kernel
theorem dd_mo_search_29 : decode prog_7_method_39_code 29 = .ok (.aload_n 0, 1) := by decide +kernel
theorem dd_mo_search_30 : decode prog_7_method_39_code 30 = .ok (.getfield 72, 3) := by decide +kernel
theorem dd_mo_search_33 : decode prog_7_method_39_code 33 = .ok (.if_icmp .ge 27, 3) := by decide +kernel
theorem dd_mo_search_36 : decode prog_7_method_39_code 36 = .ok (.iload_n 3, 1) := by decide +kernel
theorem dd_mo_search_37 : decode prog_7_method_39_code 37 = .ok (.aload_n 0, 1) := by decide +kernel
theorem dd_mo_search_38 : decode prog_7_method_39_code 38 = .ok (.getfield 19, 3) := by decide +kernel
theorem dd_mo_search_41 : decode prog_7_method_39_code 41 = .ok (.iload 4, 2) := by decide +kernel
theorem dd_mo_search_43 : decode prog_7_method_39_code 43 = .ok (.iaload, 1) := by decide +kernel
theorem dd_mo_search_44 : decode prog_7_method_39_code 44 = .ok (.iload 4, 2) := by decide +kernel
theorem dd_mo_search_46 : decode prog_7_method_39_code 46 = .ok (.aload_n 0, 1) := by decide +kernel
theorem dd_mo_search_47 : decode prog_7_method_39_code 47 = .ok (.getfield 69, 3) := by decide +kernel
theorem dd_mo_search_50 : decode prog_7_method_39_code 50 = .ok (.imul, 1) := by decide +kernel
theorem dd_mo_search_51 : decode prog_7_method_39_code 51 = .ok (.ishl, 1) := by decide +kernel
theorem dd_mo_search_52 : decode prog_7_method_39_code 52 = .ok (.ior, 1) := by decide +kernel
theorem dd_mo_search_53 : decode prog_7_method_39_code 53 = .ok (.istore_n 3, 1) := by decide +kernel
theorem dd_mo_search_54 : decode prog_7_method_39_code 54 = .ok (.iinc 4 1, 3) := by decide +kernel
theorem dd_mo_search_57 : decode prog_7_method_39_code 57 = .ok (.goto (-30), 3) := by decide +kernel
theorem dd_mo_search_60 : decode prog_7_method_39_code 60 = .ok (.aload_n 0, 1) := by decide +kernel
theorem dd_mo_search_61 : decode prog_7_method_39_code 61 = .ok (.getfield 56, 3) := by decide +kernel
theorem dd_mo_search_64 : decode prog_7_method_39_code 64 = .ok (.iload_n 3, 1) := by decide +kernel
theorem dd_mo_search_65 : decode prog_7_method_39_code 65 = .ok (.iconst 0, 1) := by decide +kernel
theorem dd_mo_search_66 : decode prog_7_method_39_code 66 = .ok (.iastore, 1) := by decide +kernel
theorem dd_mo_search_67 : decode prog_7_method_39_code 67 = .ok (.aload_n 0, 1) := by decide +kernel
theorem dd_mo_search_68 : decode prog_7_method_39_code 68 = .ok (.getfield 62, 3) := by decide +kernel
theorem dd_mo_search_71 : decode prog_7_method_39_code 71 = .ok (.iconst 0, 1) := by decide +kernel
theorem dd_mo_search_72 : decode prog_7_method_39_code 72 = .ok (.iload_n 3, 1) := by decide +kernel
theorem dd_mo_search_73 : decode prog_7_method_39_code 73 = .ok (.iastore, 1) := by decide +kernel
theorem dd_mo_search_74 : decode prog_7_method_39_code 74 = .ok (.aload_n 0, 1) := by decide +kernel
theorem dd_mo_search_75 : decode prog_7_method_39_code 75 = .ok (.iconst 1, 1) := by decide +kernel
theorem dd_mo_search_76 : decode prog_7_method_39_code 76 = .ok (.putfield 135, 3) := by decide +kernel
theorem dd_mo_search_79 : decode prog_7_method_39_code 79 = .ok (.aload_n 0, 1) := by decide +kernel
theorem dd_mo_search_80 : decode prog_7_method_39_code 80 = .ok (.iconst (-1), 1) := by decide +kernel
theorem dd_mo_search_81 : decode prog_7_method_39_code 81 = .ok (.putfield 138, 3) := by decide +kernel
theorem dd_mo_search_84 : decode prog_7_method_39_code 84 = .ok (.iconst 0, 1) := by decide +kernel
theorem dd_mo_search_85 : decode prog_7_method_39_code 85 = .ok (.istore 4, 2) := by decide +kernel
theorem dd_mo_search_87 : decode prog_7_method_39_code 87 = .ok (.iload 4, 2) := by decide +kernel
theorem dd_mo_search_89 : decode prog_7_method_39_code 89 = .ok (.aload_n 0, 1) := by decide +kernel
theorem dd_mo_search_90 : decode prog_7_method_39_code 90 = .ok (.getfield 135, 3) := by decide +kernel
theorem dd_mo_search_93 : decode prog_7_method_39_code 93 = .ok (.if_icmp .ge 169, 3) := by decide +kernel
theorem dd_mo_search_96 : decode prog_7_method_39_code 96 = .ok (.aload_n 0, 1) := by decide +kernel
theorem dd_mo_search_97 : decode prog_7_method_39_code 97 = .ok (.getfield 62, 3) := by decide +kernel
theorem dd_mo_search_100 : decode prog_7_method_39_code 100 = .ok (.iload 4, 2) := by decide +kernel
theorem dd_mo_search_102 : decode prog_7_method_39_code 102 = .ok (.iaload, 1) := by decide +kernel
theorem dd_mo_search_103 : decode prog_7_method_39_code 103 = .ok (.istore 5, 2) := by decide +kernel
theorem dd_mo_search_105 : decode prog_7_method_39_code 105 = .ok (.aload_n 0, 1) := by decide +kernel
theorem dd_mo_search_106 : decode prog_7_method_39_code 106 = .ok (.getfield 138, 3) := by decide +kernel
theorem dd_mo_search_109 : decode prog_7_method_39_code 109 = .ok (.ifCond .ge 25, 3) := by decide +kernel
theorem dd_mo_search_112 : decode prog_7_method_39_code 112 = .ok (.aload_n 0, 1) := by decide +kernel
theorem dd_mo_search_113 : decode prog_7_method_39_code 113 = .ok (.iload 5, 2) := by decide +kernel
theorem dd_mo_search_115 : decode prog_7_method_39_code 115 = .ok (.iload_n 1, 1) := by decide +kernel
theorem dd_mo_search_116 : decode prog_7_method_39_code 116 = .ok (.iload_n 2, 1) := by decide +kernel
theorem dd_mo_search_117 : decode prog_7_method_39_code 117 = .ok (.invokevirtual 141, 3) := by decide +kernel
theorem dd_mo_search_120 : decode prog_7_method_39_code 120 = .ok (.ifCond .eq 14, 3) := by decide +kernel
theorem dd_mo_search_123 : decode prog_7_method_39_code 123 = .ok (.aload_n 0, 1) := by decide +kernel
theorem dd_mo_search_124 : decode prog_7_method_39_code 124 = .ok (.aload_n 0, 1) := by decide +kernel
theorem dd_mo_search_125 : decode prog_7_method_39_code 125 = .ok (.getfield 56, 3) := by decide +kernel
theorem dd_mo_search_128 : decode prog_7_method_39_code 128 = .ok (.iload 5, 2) := by decide +kernel
theorem dd_mo_search_130 : decode prog_7_method_39_code 130 = .ok (.iaload, 1) := by decide +kernel
theorem dd_mo_search_131 : decode prog_7_method_39_code 131 = .ok (.putfield 138, 3) := by decide +kernel
theorem dd_mo_search_134 : decode prog_7_method_39_code 134 = .ok (.iconst 0, 1) := by decide +kernel
theorem dd_mo_search_135 : decode prog_7_method_39_code 135 = .ok (.istore 6, 2) := by decide +kernel
theorem dd_mo_search_137 : decode prog_7_method_39_code 137 = .ok (.iload 6, 2) := by decide +kernel
theorem dd_mo_search_139 : decode prog_7_method_39_code 139 = .ok (.iconst 2, 1) := by decide +kernel
theorem dd_mo_search_140 : decode prog_7_method_39_code 140 = .ok (.aload_n 0, 1) := by decide +kernel
theorem dd_mo_search_141 : decode prog_7_method_39_code 141 = .ok (.getfield 72, 3) := by decide +kernel
theorem dd_mo_search_144 : decode prog_7_method_39_code 144 = .ok (.imul, 1) := by decide +kernel
theorem dd_mo_search_145 : decode prog_7_method_39_code 145 = .ok (.aload_n 0, 1) := by decide +kernel
theorem dd_mo_search_146 : decode prog_7_method_39_code 146 = .ok (.getfield 69, 3) := by decide +kernel
theorem dd_mo_search_149 : decode prog_7_method_39_code 149 = .ok (.imul, 1) := by decide +kernel
theorem dd_mo_search_150 : decode prog_7_method_39_code 150 = .ok (.if_icmp .ge 106, 3) := by decide +kernel
theorem dd_mo_search_153 : decode prog_7_method_39_code 153 = .ok (.aload_n 0, 1) := by decide +kernel
theorem dd_mo_search_154 : decode prog_7_method_39_code 154 = .ok (.getfield 138, 3) := by decide +kernel
theorem dd_mo_search_157 : decode prog_7_method_39_code 157 = .ok (.ifCond .ge 99, 3) := by decide +kernel
theorem dd_mo_search_160 : decode prog_7_method_39_code 160 = .ok (.aload_n 0, 1) := by decide +kernel
theorem dd_mo_search_161 : decode prog_7_method_39_code 161 = .ok (.iload 5, 2) := by decide +kernel
theorem dd_mo_search_163 : decode prog_7_method_39_code 163 = .ok (.iload 6, 2) := by decide +kernel
theorem dd_mo_search_165 : decode prog_7_method_39_code 165 = .ok (.iconst 2, 1) := by decide +kernel
theorem dd_mo_search_166 : decode prog_7_method_39_code 166 = .ok (.idiv, 1) := by decide +kernel
theorem dd_mo_search_167 : decode prog_7_method_39_code 167 = .ok (.aload_n 0, 1) := by decide +kernel
theorem dd_mo_search_168 : decode prog_7_method_39_code 168 = .ok (.getfield 69, 3) := by decide +kernel
theorem dd_mo_search_171 : decode prog_7_method_39_code 171 = .ok (.idiv, 1) := by decide +kernel
theorem dd_mo_search_172 : decode prog_7_method_39_code 172 = .ok (.iload 6, 2) := by decide +kernel
theorem dd_mo_search_174 : decode prog_7_method_39_code 174 = .ok (.iconst 2, 1) := by decide +kernel
theorem dd_mo_search_175 : decode prog_7_method_39_code 175 = .ok (.idiv, 1) := by decide +kernel
theorem dd_mo_search_176 : decode prog_7_method_39_code 176 = .ok (.aload_n 0, 1) := by decide +kernel
theorem dd_mo_search_177 : decode prog_7_method_39_code 177 = .ok (.getfield 69, 3) := by decide +kernel
theorem dd_mo_search_180 : decode prog_7_method_39_code 180 = .ok (.irem, 1) := by decide +kernel
theorem dd_mo_search_181 : decode prog_7_method_39_code 181 = .ok (.iload 6, 2) := by decide +kernel
theorem dd_mo_search_183 : decode prog_7_method_39_code 183 = .ok (.iconst 2, 1) := by decide +kernel
theorem dd_mo_search_184 : decode prog_7_method_39_code 184 = .ok (.irem, 1) := by decide +kernel
theorem dd_mo_search_185 : decode prog_7_method_39_code 185 = .ok (.ifCond .ne 7, 3) := by decide +kernel
theorem dd_mo_search_188 : decode prog_7_method_39_code 188 = .ok (.iconst 1, 1) := by decide +kernel
theorem dd_mo_search_189 : decode prog_7_method_39_code 189 = .ok (.goto 4, 3) := by decide +kernel
theorem dd_mo_search_192 : decode prog_7_method_39_code 192 = .ok (.iconst 0, 1) := by decide +kernel
theorem dd_mo_search_193 : decode prog_7_method_39_code 193 = .ok (.invokevirtual 144, 3) := by decide +kernel
theorem dd_mo_search_196 : decode prog_7_method_39_code 196 = .ok (.istore 7, 2) := by decide +kernel
theorem dd_mo_search_198 : decode prog_7_method_39_code 198 = .ok (.iload 7, 2) := by decide +kernel
theorem dd_mo_search_200 : decode prog_7_method_39_code 200 = .ok (.ifCond .lt 50, 3) := by decide +kernel
theorem dd_mo_search_203 : decode prog_7_method_39_code 203 = .ok (.aload_n 0, 1) := by decide +kernel
theorem dd_mo_search_204 : decode prog_7_method_39_code 204 = .ok (.getfield 56, 3) := by decide +kernel
theorem dd_mo_search_207 : decode prog_7_method_39_code 207 = .ok (.iload 7, 2) := by decide +kernel
theorem dd_mo_search_209 : decode prog_7_method_39_code 209 = .ok (.iaload, 1) := by decide +kernel
theorem dd_mo_search_210 : decode prog_7_method_39_code 210 = .ok (.ifCond .ge 40, 3) := by decide +kernel
theorem dd_mo_search_213 : decode prog_7_method_39_code 213 = .ok (.aload_n 0, 1) := by decide +kernel
theorem dd_mo_search_214 : decode prog_7_method_39_code 214 = .ok (.getfield 56, 3) := by decide +kernel
theorem dd_mo_search_217 : decode prog_7_method_39_code 217 = .ok (.iload 7, 2) := by decide +kernel
theorem dd_mo_search_219 : decode prog_7_method_39_code 219 = .ok (.aload_n 0, 1) := by decide +kernel
theorem dd_mo_search_220 : decode prog_7_method_39_code 220 = .ok (.getfield 56, 3) := by decide +kernel
theorem dd_mo_search_223 : decode prog_7_method_39_code 223 = .ok (.iload 5, 2) := by decide +kernel
theorem dd_mo_search_225 : decode prog_7_method_39_code 225 = .ok (.iaload, 1) := by decide +kernel
theorem dd_mo_search_226 : decode prog_7_method_39_code 226 = .ok (.iconst 1, 1) := by decide +kernel
theorem dd_mo_search_227 : decode prog_7_method_39_code 227 = .ok (.iadd, 1) := by decide +kernel
theorem dd_mo_search_228 : decode prog_7_method_39_code 228 = .ok (.iastore, 1) := by decide +kernel
theorem dd_mo_search_229 : decode prog_7_method_39_code 229 = .ok (.aload_n 0, 1) := by decide +kernel
theorem dd_mo_search_230 : decode prog_7_method_39_code 230 = .ok (.getfield 62, 3) := by decide +kernel
theorem dd_mo_search_233 : decode prog_7_method_39_code 233 = .ok (.aload_n 0, 1) := by decide +kernel
theorem dd_mo_search_234 : decode prog_7_method_39_code 234 = .ok (.getfield 135, 3) := by decide +kernel
theorem dd_mo_search_237 : decode prog_7_method_39_code 237 = .ok (.iload 7, 2) := by decide +kernel
theorem dd_mo_search_239 : decode prog_7_method_39_code 239 = .ok (.iastore, 1) := by decide +kernel
theorem dd_mo_search_240 : decode prog_7_method_39_code 240 = .ok (.aload_n 0, 1) := by decide +kernel
theorem dd_mo_search_241 : decode prog_7_method_39_code 241 = .ok (.dup, 1) := by decide +kernel
theorem dd_mo_search_242 : decode prog_7_method_39_code 242 = .ok (.getfield 135, 3) := by decide +kernel
theorem dd_mo_search_245 : decode prog_7_method_39_code 245 = .ok (.iconst 1, 1) := by decide +kernel
theorem dd_mo_search_246 : decode prog_7_method_39_code 246 = .ok (.iadd, 1) := by decide +kernel
theorem dd_mo_search_247 : decode prog_7_method_39_code 247 = .ok (.putfield 135, 3) := by decide +kernel
theorem dd_mo_search_250 : decode prog_7_method_39_code 250 = .ok (.iinc 6 1, 3) := by decide +kernel
theorem dd_mo_search_253 : decode prog_7_method_39_code 253 = .ok (.goto (-116), 3) := by decide +kernel
theorem dd_mo_search_256 : decode prog_7_method_39_code 256 = .ok (.iinc 4 1, 3) := by decide +kernel
theorem dd_mo_search_259 : decode prog_7_method_39_code 259 = .ok (.goto (-172), 3) := by decide +kernel
theorem dd_mo_search_262 : decode prog_7_method_39_code 262 = .ok (.return_, 1) := by decide +kernel
theorem dd_mo_has_0 : decode prog_7_method_38_code 0 = .ok (.aload_n 0, 1) := by decide +kernel
theorem dd_mo_has_1 : decode prog_7_method_38_code 1 = .ok (.aload_n 0, 1) := by decide +kernel
theorem dd_mo_has_2 : decode prog_7_method_38_code 2 = .ok (.iload_n 1, 1) := by decide +kernel
theorem dd_mo_has_3 : decode prog_7_method_38_code 3 = .ok (.iload_n 2, 1) := by decide +kernel
theorem dd_mo_has_4 : decode prog_7_method_38_code 4 = .ok (.invokevirtual 131, 3) := by decide +kernel
theorem dd_mo_has_7 : decode prog_7_method_38_code 7 = .ok (.invokevirtual 75, 3) := by decide +kernel
theorem dd_mo_has_10 : decode prog_7_method_38_code 10 = .ok (.iload_n 3, 1) := by decide +kernel
theorem dd_mo_has_11 : decode prog_7_method_38_code 11 = .ok (.ishr, 1) := by decide +kernel
theorem dd_mo_has_12 : decode prog_7_method_38_code 12 = .ok (.iconst 1, 1) := by decide +kernel
theorem dd_mo_has_13 : decode prog_7_method_38_code 13 = .ok (.iand, 1) := by decide +kernel
theorem dd_mo_has_14 : decode prog_7_method_38_code 14 = .ok (.iconst 1, 1) := by decide +kernel
theorem dd_mo_has_15 : decode prog_7_method_38_code 15 = .ok (.if_icmp .ne 7, 3) := by decide +kernel
theorem dd_mo_has_18 : decode prog_7_method_38_code 18 = .ok (.iconst 1, 1) := by decide +kernel
theorem dd_mo_has_19 : decode prog_7_method_38_code 19 = .ok (.goto 4, 3) := by decide +kernel
theorem dd_mo_has_22 : decode prog_7_method_38_code 22 = .ok (.iconst 0, 1) := by decide +kernel
theorem dd_mo_has_23 : decode prog_7_method_38_code 23 = .ok (.ireturn, 1) := by decide +kernel
theorem dd_mo_rolesIn_0 : decode prog_7_method_36_code 0 = .ok (.iload_n 1, 1) := by decide +kernel
theorem dd_mo_rolesIn_1 : decode prog_7_method_36_code 1 = .ok (.iload_n 2, 1) := by decide +kernel
theorem dd_mo_rolesIn_2 : decode prog_7_method_36_code 2 = .ok (.aload_n 0, 1) := by decide +kernel
theorem dd_mo_rolesIn_3 : decode prog_7_method_36_code 3 = .ok (.getfield 69, 3) := by decide +kernel
theorem dd_mo_rolesIn_6 : decode prog_7_method_36_code 6 = .ok (.imul, 1) := by decide +kernel
theorem dd_mo_rolesIn_7 : decode prog_7_method_36_code 7 = .ok (.ishr, 1) := by decide +kernel
theorem dd_mo_rolesIn_8 : decode prog_7_method_36_code 8 = .ok (.iconst 1, 1) := by decide +kernel
theorem dd_mo_rolesIn_9 : decode prog_7_method_36_code 9 = .ok (.aload_n 0, 1) := by decide +kernel
theorem dd_mo_rolesIn_10 : decode prog_7_method_36_code 10 = .ok (.getfield 69, 3) := by decide +kernel
theorem dd_mo_rolesIn_13 : decode prog_7_method_36_code 13 = .ok (.ishl, 1) := by decide +kernel
theorem dd_mo_rolesIn_14 : decode prog_7_method_36_code 14 = .ok (.iconst 1, 1) := by decide +kernel
theorem dd_mo_rolesIn_15 : decode prog_7_method_36_code 15 = .ok (.isub, 1) := by decide +kernel
theorem dd_mo_rolesIn_16 : decode prog_7_method_36_code 16 = .ok (.iand, 1) := by decide +kernel
theorem dd_mo_rolesIn_17 : decode prog_7_method_36_code 17 = .ok (.ireturn, 1) := by decide +kernel
theorem dd_mo_stepTo_0 : decode prog_7_method_37_code 0 = .ok (.aload_n 0, 1) := by decide +kernel
theorem dd_mo_stepTo_1 : decode prog_7_method_37_code 1 = .ok (.iload_n 1, 1) := by decide +kernel
theorem dd_mo_stepTo_2 : decode prog_7_method_37_code 2 = .ok (.iload_n 2, 1) := by decide +kernel
theorem dd_mo_stepTo_3 : decode prog_7_method_37_code 3 = .ok (.invokevirtual 131, 3) := by decide +kernel
theorem dd_mo_stepTo_6 : decode prog_7_method_37_code 6 = .ok (.istore 5, 2) := by decide +kernel
theorem dd_mo_stepTo_8 : decode prog_7_method_37_code 8 = .ok (.iload 5, 2) := by decide +kernel
theorem dd_mo_stepTo_10 : decode prog_7_method_37_code 10 = .ok (.iload_n 3, 1) := by decide +kernel
theorem dd_mo_stepTo_11 : decode prog_7_method_37_code 11 = .ok (.ishr, 1) := by decide +kernel
theorem dd_mo_stepTo_12 : decode prog_7_method_37_code 12 = .ok (.iconst 1, 1) := by decide +kernel
theorem dd_mo_stepTo_13 : decode prog_7_method_37_code 13 = .ok (.iand, 1) := by decide +kernel
theorem dd_mo_stepTo_14 : decode prog_7_method_37_code 14 = .ok (.iload 4, 2) := by decide +kernel
theorem dd_mo_stepTo_16 : decode prog_7_method_37_code 16 = .ok (.ifCond .eq 7, 3) := by decide +kernel
theorem dd_mo_stepTo_19 : decode prog_7_method_37_code 19 = .ok (.iconst 1, 1) := by decide +kernel
theorem dd_mo_stepTo_20 : decode prog_7_method_37_code 20 = .ok (.goto 4, 3) := by decide +kernel
theorem dd_mo_stepTo_23 : decode prog_7_method_37_code 23 = .ok (.iconst 0, 1) := by decide +kernel
theorem dd_mo_stepTo_24 : decode prog_7_method_37_code 24 = .ok (.if_icmp .ne 5, 3) := by decide +kernel
theorem dd_mo_stepTo_27 : decode prog_7_method_37_code 27 = .ok (.iconst (-1), 1) := by decide +kernel
theorem dd_mo_stepTo_28 : decode prog_7_method_37_code 28 = .ok (.ireturn, 1) := by decide +kernel
theorem dd_mo_stepTo_29 : decode prog_7_method_37_code 29 = .ok (.iconst 0, 1) := by decide +kernel
theorem dd_mo_stepTo_30 : decode prog_7_method_37_code 30 = .ok (.istore 6, 2) := by decide +kernel
theorem dd_mo_stepTo_32 : decode prog_7_method_37_code 32 = .ok (.iconst 0, 1) := by decide +kernel
theorem dd_mo_stepTo_33 : decode prog_7_method_37_code 33 = .ok (.istore 7, 2) := by decide +kernel
theorem dd_mo_stepTo_35 : decode prog_7_method_37_code 35 = .ok (.iload 7, 2) := by decide +kernel
theorem dd_mo_stepTo_37 : decode prog_7_method_37_code 37 = .ok (.aload_n 0, 1) := by decide +kernel
theorem dd_mo_stepTo_38 : decode prog_7_method_37_code 38 = .ok (.getfield 72, 3) := by decide +kernel
theorem dd_mo_stepTo_41 : decode prog_7_method_37_code 41 = .ok (.if_icmp .ge 25, 3) := by decide +kernel
theorem dd_mo_stepTo_44 : decode prog_7_method_37_code 44 = .ok (.iload 6, 2) := by decide +kernel
theorem dd_mo_stepTo_46 : decode prog_7_method_37_code 46 = .ok (.aload_n 0, 1) := by decide +kernel
theorem dd_mo_stepTo_47 : decode prog_7_method_37_code 47 = .ok (.aload_n 0, 1) := by decide +kernel
theorem dd_mo_stepTo_48 : decode prog_7_method_37_code 48 = .ok (.iload_n 1, 1) := by decide +kernel
theorem dd_mo_stepTo_49 : decode prog_7_method_37_code 49 = .ok (.iload 7, 2) := by decide +kernel
theorem dd_mo_stepTo_51 : decode prog_7_method_37_code 51 = .ok (.invokevirtual 131, 3) := by decide +kernel
theorem dd_mo_stepTo_54 : decode prog_7_method_37_code 54 = .ok (.invokevirtual 75, 3) := by decide +kernel
theorem dd_mo_stepTo_57 : decode prog_7_method_37_code 57 = .ok (.ior, 1) := by decide +kernel
theorem dd_mo_stepTo_58 : decode prog_7_method_37_code 58 = .ok (.istore 6, 2) := by decide +kernel
theorem dd_mo_stepTo_60 : decode prog_7_method_37_code 60 = .ok (.iinc 7 1, 3) := by decide +kernel
theorem dd_mo_stepTo_63 : decode prog_7_method_37_code 63 = .ok (.goto (-28), 3) := by decide +kernel
theorem dd_mo_stepTo_66 : decode prog_7_method_37_code 66 = .ok (.aload_n 0, 1) := by decide +kernel
theorem dd_mo_stepTo_67 : decode prog_7_method_37_code 67 = .ok (.iload 4, 2) := by decide +kernel
theorem dd_mo_stepTo_69 : decode prog_7_method_37_code 69 = .ok (.iload 6, 2) := by decide +kernel
theorem dd_mo_stepTo_71 : decode prog_7_method_37_code 71 = .ok (.aload_n 0, 1) := by decide +kernel
theorem dd_mo_stepTo_72 : decode prog_7_method_37_code 72 = .ok (.iload 5, 2) := by decide +kernel
theorem dd_mo_stepTo_74 : decode prog_7_method_37_code 74 = .ok (.invokevirtual 75, 3) := by decide +kernel
theorem dd_mo_stepTo_77 : decode prog_7_method_37_code 77 = .ok (.iload_n 3, 1) := by decide +kernel
theorem dd_mo_stepTo_78 : decode prog_7_method_37_code 78 = .ok (.invokevirtual 124, 3) := by decide +kernel
theorem dd_mo_stepTo_81 : decode prog_7_method_37_code 81 = .ok (.ifCond .eq 21, 3) := by decide +kernel
theorem dd_mo_stepTo_84 : decode prog_7_method_37_code 84 = .ok (.iload 4, 2) := by decide +kernel
theorem dd_mo_stepTo_86 : decode prog_7_method_37_code 86 = .ok (.ifCond .eq 18, 3) := by decide +kernel
theorem dd_mo_stepTo_89 : decode prog_7_method_37_code 89 = .ok (.aload_n 0, 1) := by decide +kernel
theorem dd_mo_stepTo_90 : decode prog_7_method_37_code 90 = .ok (.iload 5, 2) := by decide +kernel
theorem dd_mo_stepTo_92 : decode prog_7_method_37_code 92 = .ok (.iconst 1, 1) := by decide +kernel
theorem dd_mo_stepTo_93 : decode prog_7_method_37_code 93 = .ok (.iload_n 3, 1) := by decide +kernel
theorem dd_mo_stepTo_94 : decode prog_7_method_37_code 94 = .ok (.ishl, 1) := by decide +kernel
theorem dd_mo_stepTo_95 : decode prog_7_method_37_code 95 = .ok (.ior, 1) := by decide +kernel
theorem dd_mo_stepTo_96 : decode prog_7_method_37_code 96 = .ok (.invokevirtual 82, 3) := by decide +kernel
theorem dd_mo_stepTo_99 : decode prog_7_method_37_code 99 = .ok (.ifCond .ne 5, 3) := by decide +kernel
theorem dd_mo_stepTo_102 : decode prog_7_method_37_code 102 = .ok (.iconst (-1), 1) := by decide +kernel
theorem dd_mo_stepTo_103 : decode prog_7_method_37_code 103 = .ok (.ireturn, 1) := by decide +kernel
theorem dd_mo_stepTo_104 : decode prog_7_method_37_code 104 = .ok (.iload_n 1, 1) := by decide +kernel
theorem dd_mo_stepTo_105 : decode prog_7_method_37_code 105 = .ok (.iconst 1, 1) := by decide +kernel
theorem dd_mo_stepTo_106 : decode prog_7_method_37_code 106 = .ok (.iload_n 2, 1) := by decide +kernel
theorem dd_mo_stepTo_107 : decode prog_7_method_37_code 107 = .ok (.aload_n 0, 1) := by decide +kernel
theorem dd_mo_stepTo_108 : decode prog_7_method_37_code 108 = .ok (.getfield 69, 3) := by decide +kernel
theorem dd_mo_stepTo_111 : decode prog_7_method_37_code 111 = .ok (.imul, 1) := by decide +kernel
theorem dd_mo_stepTo_112 : decode prog_7_method_37_code 112 = .ok (.iload_n 3, 1) := by decide +kernel
theorem dd_mo_stepTo_113 : decode prog_7_method_37_code 113 = .ok (.iadd, 1) := by decide +kernel
theorem dd_mo_stepTo_114 : decode prog_7_method_37_code 114 = .ok (.ishl, 1) := by decide +kernel
theorem dd_mo_stepTo_115 : decode prog_7_method_37_code 115 = .ok (.ixor, 1) := by decide +kernel
theorem dd_mo_stepTo_116 : decode prog_7_method_37_code 116 = .ok (.ireturn, 1) := by decide +kernel
theorem dd_mo_plan_0 : decode prog_7_method_42_code 0 = .ok (.aload_n 0, 1) := by decide +kernel
theorem dd_mo_plan_1 : decode prog_7_method_42_code 1 = .ok (.aload_n 0, 1) := by decide +kernel
theorem dd_mo_plan_2 : decode prog_7_method_42_code 2 = .ok (.iload_n 1, 1) := by decide +kernel
theorem dd_mo_plan_3 : decode prog_7_method_42_code 3 = .ok (.invokevirtual 113, 3) := by decide +kernel
theorem dd_mo_plan_6 : decode prog_7_method_42_code 6 = .ok (.ifCond .eq 15, 3) := by decide +kernel
theorem dd_mo_plan_9 : decode prog_7_method_42_code 9 = .ok (.aload_n 0, 1) := by decide +kernel
theorem dd_mo_plan_10 : decode prog_7_method_42_code 10 = .ok (.iload_n 2, 1) := by decide +kernel
theorem dd_mo_plan_11 : decode prog_7_method_42_code 11 = .ok (.invokevirtual 90, 3) := by decide +kernel
theorem dd_mo_plan_14 : decode prog_7_method_42_code 14 = .ok (.ifCond .eq 7, 3) := by decide +kernel
theorem dd_mo_plan_17 : decode prog_7_method_42_code 17 = .ok (.iconst 1, 1) := by decide +kernel
theorem dd_mo_plan_18 : decode prog_7_method_42_code 18 = .ok (.goto 4, 3) := by decide +kernel
theorem dd_mo_plan_21 : decode prog_7_method_42_code 21 = .ok (.iconst 0, 1) := by decide +kernel
theorem dd_mo_plan_22 : decode prog_7_method_42_code 22 = .ok (.iconst 1, 1) := by decide +kernel
theorem dd_mo_plan_23 : decode prog_7_method_42_code 23 = .ok (.invokevirtual 86, 3) := by decide +kernel
theorem dd_mo_plan_26 : decode prog_7_method_42_code 26 = .ok (.ifCond .eq 30, 3) := by decide +kernel
theorem dd_mo_plan_29 : decode prog_7_method_42_code 29 = .ok (.aload_n 0, 1) := by decide +kernel
theorem dd_mo_plan_30 : decode prog_7_method_42_code 30 = .ok (.aload_n 0, 1) := by decide +kernel
theorem dd_mo_plan_31 : decode prog_7_method_42_code 31 = .ok (.getfield 72, 3) := by decide +kernel
theorem dd_mo_plan_34 : decode prog_7_method_42_code 34 = .ok (.aload_n 0, 1) := by decide +kernel
theorem dd_mo_plan_35 : decode prog_7_method_42_code 35 = .ok (.getfield 69, 3) := by decide +kernel
theorem dd_mo_plan_38 : decode prog_7_method_42_code 38 = .ok (.imul, 1) := by decide +kernel
theorem dd_mo_plan_39 : decode prog_7_method_42_code 39 = .ok (.bipush 12, 2) := by decide +kernel
theorem dd_mo_plan_41 : decode prog_7_method_42_code 41 = .ok (.if_icmp .gt 7, 3) := by decide +kernel
theorem dd_mo_plan_44 : decode prog_7_method_42_code 44 = .ok (.iconst 1, 1) := by decide +kernel
theorem dd_mo_plan_45 : decode prog_7_method_42_code 45 = .ok (.goto 4, 3) := by decide +kernel
theorem dd_mo_plan_48 : decode prog_7_method_42_code 48 = .ok (.iconst 0, 1) := by decide +kernel
theorem dd_mo_plan_49 : decode prog_7_method_42_code 49 = .ok (.iconst 2, 1) := by decide +kernel
theorem dd_mo_plan_50 : decode prog_7_method_42_code 50 = .ok (.invokevirtual 86, 3) := by decide +kernel
theorem dd_mo_plan_53 : decode prog_7_method_42_code 53 = .ok (.ifCond .ne 5, 3) := by decide +kernel
theorem dd_mo_plan_56 : decode prog_7_method_42_code 56 = .ok (.iconst 0, 1) := by decide +kernel
theorem dd_mo_plan_57 : decode prog_7_method_42_code 57 = .ok (.ireturn, 1) := by decide +kernel
theorem dd_mo_plan_58 : decode prog_7_method_42_code 58 = .ok (.aload_n 0, 1) := by decide +kernel
theorem dd_mo_plan_59 : decode prog_7_method_42_code 59 = .ok (.iload_n 1, 1) := by decide +kernel
theorem dd_mo_plan_60 : decode prog_7_method_42_code 60 = .ok (.iload_n 2, 1) := by decide +kernel
theorem dd_mo_plan_61 : decode prog_7_method_42_code 61 = .ok (.invokevirtual 148, 3) := by decide +kernel
theorem dd_mo_plan_64 : decode prog_7_method_42_code 64 = .ok (.aload_n 0, 1) := by decide +kernel
theorem dd_mo_plan_65 : decode prog_7_method_42_code 65 = .ok (.aload_n 0, 1) := by decide +kernel
theorem dd_mo_plan_66 : decode prog_7_method_42_code 66 = .ok (.getfield 138, 3) := by decide +kernel
theorem dd_mo_plan_69 : decode prog_7_method_42_code 69 = .ok (.ifCond .lt 7, 3) := by decide +kernel
theorem dd_mo_plan_72 : decode prog_7_method_42_code 72 = .ok (.iconst 1, 1) := by decide +kernel
theorem dd_mo_plan_73 : decode prog_7_method_42_code 73 = .ok (.goto 4, 3) := by decide +kernel
theorem dd_mo_plan_76 : decode prog_7_method_42_code 76 = .ok (.iconst 0, 1) := by decide +kernel
theorem dd_mo_plan_77 : decode prog_7_method_42_code 77 = .ok (.iconst 3, 1) := by decide +kernel
theorem dd_mo_plan_78 : decode prog_7_method_42_code 78 = .ok (.invokevirtual 86, 3) := by decide +kernel
theorem dd_mo_plan_81 : decode prog_7_method_42_code 81 = .ok (.ifCond .ne 5, 3) := by decide +kernel
theorem dd_mo_plan_84 : decode prog_7_method_42_code 84 = .ok (.iconst 0, 1) := by decide +kernel
theorem dd_mo_plan_85 : decode prog_7_method_42_code 85 = .ok (.ireturn, 1) := by decide +kernel
theorem dd_mo_plan_86 : decode prog_7_method_42_code 86 = .ok (.iload_n 3, 1) := by decide +kernel
theorem dd_mo_plan_87 : decode prog_7_method_42_code 87 = .ok (.ifCond .lt 11, 3) := by decide +kernel
theorem dd_mo_plan_90 : decode prog_7_method_42_code 90 = .ok (.iload_n 3, 1) := by decide +kernel
theorem dd_mo_plan_91 : decode prog_7_method_42_code 91 = .ok (.aload_n 0, 1) := by decide +kernel
theorem dd_mo_plan_92 : decode prog_7_method_42_code 92 = .ok (.getfield 138, 3) := by decide +kernel
theorem dd_mo_plan_95 : decode prog_7_method_42_code 95 = .ok (.if_icmp .lt 5, 3) := by decide +kernel
theorem dd_mo_plan_98 : decode prog_7_method_42_code 98 = .ok (.iconst (-1), 1) := by decide +kernel
theorem dd_mo_plan_99 : decode prog_7_method_42_code 99 = .ok (.ireturn, 1) := by decide +kernel
theorem dd_mo_plan_100 : decode prog_7_method_42_code 100 = .ok (.aload_n 0, 1) := by decide +kernel
theorem dd_mo_plan_101 : decode prog_7_method_42_code 101 = .ok (.iload_n 1, 1) := by decide +kernel
theorem dd_mo_plan_102 : decode prog_7_method_42_code 102 = .ok (.iload_n 2, 1) := by decide +kernel
theorem dd_mo_plan_103 : decode prog_7_method_42_code 103 = .ok (.invokevirtual 152, 3) := by decide +kernel
theorem dd_mo_plan_106 : decode prog_7_method_42_code 106 = .ok (.aload_n 0, 1) := by decide +kernel
theorem dd_mo_plan_107 : decode prog_7_method_42_code 107 = .ok (.getfield 62, 3) := by decide +kernel
theorem dd_mo_plan_110 : decode prog_7_method_42_code 110 = .ok (.iconst 0, 1) := by decide +kernel
theorem dd_mo_plan_111 : decode prog_7_method_42_code 111 = .ok (.iaload, 1) := by decide +kernel
theorem dd_mo_plan_112 : decode prog_7_method_42_code 112 = .ok (.istore 4, 2) := by decide +kernel
theorem dd_mo_plan_114 : decode prog_7_method_42_code 114 = .ok (.iconst (-1), 1) := by decide +kernel
theorem dd_mo_plan_115 : decode prog_7_method_42_code 115 = .ok (.istore 5, 2) := by decide +kernel
theorem dd_mo_plan_117 : decode prog_7_method_42_code 117 = .ok (.iconst 0, 1) := by decide +kernel
theorem dd_mo_plan_118 : decode prog_7_method_42_code 118 = .ok (.istore 6, 2) := by decide +kernel
theorem dd_mo_plan_120 : decode prog_7_method_42_code 120 = .ok (.iload 6, 2) := by decide +kernel
theorem dd_mo_plan_122 : decode prog_7_method_42_code 122 = .ok (.iload_n 3, 1) := by decide +kernel
theorem dd_mo_plan_123 : decode prog_7_method_42_code 123 = .ok (.if_icmp .gt 149, 3) := by decide +kernel
theorem dd_mo_plan_126 : decode prog_7_method_42_code 126 = .ok (.iconst (-1), 1) := by decide +kernel
theorem dd_mo_plan_127 : decode prog_7_method_42_code 127 = .ok (.istore 7, 2) := by decide +kernel
theorem dd_mo_plan_129 : decode prog_7_method_42_code 129 = .ok (.iconst 0, 1) := by decide +kernel
theorem dd_mo_plan_130 : decode prog_7_method_42_code 130 = .ok (.istore 8, 2) := by decide +kernel
theorem dd_mo_plan_132 : decode prog_7_method_42_code 132 = .ok (.iload 8, 2) := by decide +kernel
theorem dd_mo_plan_134 : decode prog_7_method_42_code 134 = .ok (.iconst 2, 1) := by decide +kernel
theorem dd_mo_plan_135 : decode prog_7_method_42_code 135 = .ok (.aload_n 0, 1) := by decide +kernel
theorem dd_mo_plan_136 : decode prog_7_method_42_code 136 = .ok (.getfield 72, 3) := by decide +kernel
theorem dd_mo_plan_139 : decode prog_7_method_42_code 139 = .ok (.imul, 1) := by decide +kernel
theorem dd_mo_plan_140 : decode prog_7_method_42_code 140 = .ok (.aload_n 0, 1) := by decide +kernel
theorem dd_mo_plan_141 : decode prog_7_method_42_code 141 = .ok (.getfield 69, 3) := by decide +kernel
theorem dd_mo_plan_144 : decode prog_7_method_42_code 144 = .ok (.imul, 1) := by decide +kernel
theorem dd_mo_plan_145 : decode prog_7_method_42_code 145 = .ok (.if_icmp .ge 117, 3) := by decide +kernel
theorem dd_mo_plan_148 : decode prog_7_method_42_code 148 = .ok (.iload 7, 2) := by decide +kernel
theorem dd_mo_plan_150 : decode prog_7_method_42_code 150 = .ok (.ifCond .ge 112, 3) := by decide +kernel
theorem dd_mo_plan_153 : decode prog_7_method_42_code 153 = .ok (.aload_n 0, 1) := by decide +kernel
theorem dd_mo_plan_154 : decode prog_7_method_42_code 154 = .ok (.iload 4, 2) := by decide +kernel
theorem dd_mo_plan_156 : decode prog_7_method_42_code 156 = .ok (.iload 8, 2) := by decide +kernel
theorem dd_mo_plan_158 : decode prog_7_method_42_code 158 = .ok (.iconst 2, 1) := by decide +kernel
theorem dd_mo_plan_159 : decode prog_7_method_42_code 159 = .ok (.idiv, 1) := by decide +kernel
theorem dd_mo_plan_160 : decode prog_7_method_42_code 160 = .ok (.aload_n 0, 1) := by decide +kernel
theorem dd_mo_plan_161 : decode prog_7_method_42_code 161 = .ok (.getfield 69, 3) := by decide +kernel
theorem dd_mo_plan_164 : decode prog_7_method_42_code 164 = .ok (.idiv, 1) := by decide +kernel
theorem dd_mo_plan_165 : decode prog_7_method_42_code 165 = .ok (.iload 8, 2) := by decide +kernel
theorem dd_mo_plan_167 : decode prog_7_method_42_code 167 = .ok (.iconst 2, 1) := by decide +kernel
theorem dd_mo_plan_168 : decode prog_7_method_42_code 168 = .ok (.idiv, 1) := by decide +kernel
theorem dd_mo_plan_169 : decode prog_7_method_42_code 169 = .ok (.aload_n 0, 1) := by decide +kernel
theorem dd_mo_plan_170 : decode prog_7_method_42_code 170 = .ok (.getfield 69, 3) := by decide +kernel
theorem dd_mo_plan_173 : decode prog_7_method_42_code 173 = .ok (.irem, 1) := by decide +kernel
theorem dd_mo_plan_174 : decode prog_7_method_42_code 174 = .ok (.iload 8, 2) := by decide +kernel
theorem dd_mo_plan_176 : decode prog_7_method_42_code 176 = .ok (.iconst 2, 1) := by decide +kernel
theorem dd_mo_plan_177 : decode prog_7_method_42_code 177 = .ok (.irem, 1) := by decide +kernel
theorem dd_mo_plan_178 : decode prog_7_method_42_code 178 = .ok (.ifCond .ne 7, 3) := by decide +kernel
theorem dd_mo_plan_181 : decode prog_7_method_42_code 181 = .ok (.iconst 1, 1) := by decide +kernel
theorem dd_mo_plan_182 : decode prog_7_method_42_code 182 = .ok (.goto 4, 3) := by decide +kernel
theorem dd_mo_plan_185 : decode prog_7_method_42_code 185 = .ok (.iconst 0, 1) := by decide +kernel
theorem dd_mo_plan_186 : decode prog_7_method_42_code 186 = .ok (.invokevirtual 144, 3) := by decide +kernel
theorem dd_mo_plan_189 : decode prog_7_method_42_code 189 = .ok (.istore 9, 2) := by decide +kernel
theorem dd_mo_plan_191 : decode prog_7_method_42_code 191 = .ok (.iload 9, 2) := by decide +kernel
theorem dd_mo_plan_193 : decode prog_7_method_42_code 193 = .ok (.ifCond .lt 63, 3) := by decide +kernel
theorem dd_mo_plan_196 : decode prog_7_method_42_code 196 = .ok (.aload_n 0, 1) := by decide +kernel
theorem dd_mo_plan_197 : decode prog_7_method_42_code 197 = .ok (.getfield 56, 3) := by decide +kernel
theorem dd_mo_plan_200 : decode prog_7_method_42_code 200 = .ok (.iload 9, 2) := by decide +kernel
theorem dd_mo_plan_202 : decode prog_7_method_42_code 202 = .ok (.iaload, 1) := by decide +kernel
theorem dd_mo_plan_203 : decode prog_7_method_42_code 203 = .ok (.iload 6, 2) := by decide +kernel
theorem dd_mo_plan_205 : decode prog_7_method_42_code 205 = .ok (.iconst 1, 1) := by decide +kernel
theorem dd_mo_plan_206 : decode prog_7_method_42_code 206 = .ok (.iadd, 1) := by decide +kernel
theorem dd_mo_plan_207 : decode prog_7_method_42_code 207 = .ok (.if_icmp .ne 49, 3) := by decide +kernel
theorem dd_mo_plan_210 : decode prog_7_method_42_code 210 = .ok (.aload_n 0, 1) := by decide +kernel
theorem dd_mo_plan_211 : decode prog_7_method_42_code 211 = .ok (.getfield 59, 3) := by decide +kernel
theorem dd_mo_plan_214 : decode prog_7_method_42_code 214 = .ok (.iload 9, 2) := by decide +kernel
theorem dd_mo_plan_216 : decode prog_7_method_42_code 216 = .ok (.baload, 1) := by decide +kernel
theorem dd_mo_plan_217 : decode prog_7_method_42_code 217 = .ok (.ifCond .eq 39, 3) := by decide +kernel
theorem dd_mo_plan_220 : decode prog_7_method_42_code 220 = .ok (.iload 9, 2) := by decide +kernel
theorem dd_mo_plan_222 : decode prog_7_method_42_code 222 = .ok (.istore 7, 2) := by decide +kernel
theorem dd_mo_plan_224 : decode prog_7_method_42_code 224 = .ok (.bipush 100, 2) := by decide +kernel
theorem dd_mo_plan_226 : decode prog_7_method_42_code 226 = .ok (.iload 8, 2) := by decide +kernel
theorem dd_mo_plan_228 : decode prog_7_method_42_code 228 = .ok (.iconst 2, 1) := by decide +kernel
theorem dd_mo_plan_229 : decode prog_7_method_42_code 229 = .ok (.idiv, 1) := by decide +kernel
theorem dd_mo_plan_230 : decode prog_7_method_42_code 230 = .ok (.aload_n 0, 1) := by decide +kernel
theorem dd_mo_plan_231 : decode prog_7_method_42_code 231 = .ok (.getfield 69, 3) := by decide +kernel
theorem dd_mo_plan_234 : decode prog_7_method_42_code 234 = .ok (.idiv, 1) := by decide +kernel
theorem dd_mo_plan_235 : decode prog_7_method_42_code 235 = .ok (.imul, 1) := by decide +kernel
theorem dd_mo_plan_236 : decode prog_7_method_42_code 236 = .ok (.bipush 10, 2) := by decide +kernel
theorem dd_mo_plan_238 : decode prog_7_method_42_code 238 = .ok (.iload 8, 2) := by decide +kernel
theorem dd_mo_plan_240 : decode prog_7_method_42_code 240 = .ok (.iconst 2, 1) := by decide +kernel
theorem dd_mo_plan_241 : decode prog_7_method_42_code 241 = .ok (.idiv, 1) := by decide +kernel
theorem dd_mo_plan_242 : decode prog_7_method_42_code 242 = .ok (.aload_n 0, 1) := by decide +kernel
theorem dd_mo_plan_243 : decode prog_7_method_42_code 243 = .ok (.getfield 69, 3) := by decide +kernel
theorem dd_mo_plan_246 : decode prog_7_method_42_code 246 = .ok (.irem, 1) := by decide +kernel
theorem dd_mo_plan_247 : decode prog_7_method_42_code 247 = .ok (.imul, 1) := by decide +kernel
theorem dd_mo_plan_248 : decode prog_7_method_42_code 248 = .ok (.iadd, 1) := by decide +kernel
theorem dd_mo_plan_249 : decode prog_7_method_42_code 249 = .ok (.iload 8, 2) := by decide +kernel
theorem dd_mo_plan_251 : decode prog_7_method_42_code 251 = .ok (.iconst 2, 1) := by decide +kernel
theorem dd_mo_plan_252 : decode prog_7_method_42_code 252 = .ok (.irem, 1) := by decide +kernel
theorem dd_mo_plan_253 : decode prog_7_method_42_code 253 = .ok (.iadd, 1) := by decide +kernel
theorem dd_mo_plan_254 : decode prog_7_method_42_code 254 = .ok (.istore 5, 2) := by decide +kernel
theorem dd_mo_plan_256 : decode prog_7_method_42_code 256 = .ok (.iinc 8 1, 3) := by decide +kernel
theorem dd_mo_plan_259 : decode prog_7_method_42_code 259 = .ok (.goto (-127), 3) := by decide +kernel
theorem dd_mo_plan_262 : decode prog_7_method_42_code 262 = .ok (.iload 7, 2) := by decide +kernel
theorem dd_mo_plan_264 : decode prog_7_method_42_code 264 = .ok (.istore 4, 2) := by decide +kernel
theorem dd_mo_plan_266 : decode prog_7_method_42_code 266 = .ok (.iinc 6 1, 3) := by decide +kernel
theorem dd_mo_plan_269 : decode prog_7_method_42_code 269 = .ok (.goto (-149), 3) := by decide +kernel
theorem dd_mo_plan_272 : decode prog_7_method_42_code 272 = .ok (.iload 5, 2) := by decide +kernel
theorem dd_mo_plan_274 : decode prog_7_method_42_code 274 = .ok (.ireturn, 1) := by decide +kernel
end
section
/-! decode rows: printed by wip/whole/facts.py -/
theorem dd_mo_mark_0 : decode prog_7_method_41_code 0 = .ok (.iconst 0, 1) := by decide +kernel
theorem dd_mo_mark_1 : decode prog_7_method_41_code 1 = .ok (.istore_n 3, 1) := by decide +kernel
theorem dd_mo_mark_2 : decode prog_7_method_41_code 2 = .ok (.iload_n 3, 1) := by decide +kernel
theorem dd_mo_mark_3 : decode prog_7_method_41_code 3 = .ok (.sipush 4096, 3) := by decide +kernel
theorem dd_mo_mark_6 : decode prog_7_method_41_code 6 = .ok (.if_icmp .ge 43, 3) := by decide +kernel
theorem dd_mo_mark_9 : decode prog_7_method_41_code 9 = .ok (.aload_n 0, 1) := by decide +kernel
theorem dd_mo_mark_10 : decode prog_7_method_41_code 10 = .ok (.getfield 59, 3) := by decide +kernel
theorem dd_mo_mark_13 : decode prog_7_method_41_code 13 = .ok (.iload_n 3, 1) := by decide +kernel
theorem dd_mo_mark_14 : decode prog_7_method_41_code 14 = .ok (.aload_n 0, 1) := by decide +kernel
theorem dd_mo_mark_15 : decode prog_7_method_41_code 15 = .ok (.getfield 56, 3) := by decide +kernel
theorem dd_mo_mark_18 : decode prog_7_method_41_code 18 = .ok (.iload_n 3, 1) := by decide +kernel
theorem dd_mo_mark_19 : decode prog_7_method_41_code 19 = .ok (.iaload, 1) := by decide +kernel
theorem dd_mo_mark_20 : decode prog_7_method_41_code 20 = .ok (.aload_n 0, 1) := by decide +kernel
theorem dd_mo_mark_21 : decode prog_7_method_41_code 21 = .ok (.getfield 138, 3) := by decide +kernel
theorem dd_mo_mark_24 : decode prog_7_method_41_code 24 = .ok (.if_icmp .ne 17, 3) := by decide +kernel
theorem dd_mo_mark_27 : decode prog_7_method_41_code 27 = .ok (.aload_n 0, 1) := by decide +kernel
theorem dd_mo_mark_28 : decode prog_7_method_41_code 28 = .ok (.iload_n 3, 1) := by decide +kernel
theorem dd_mo_mark_29 : decode prog_7_method_41_code 29 = .ok (.iload_n 1, 1) := by decide +kernel
theorem dd_mo_mark_30 : decode prog_7_method_41_code 30 = .ok (.iload_n 2, 1) := by decide +kernel
theorem dd_mo_mark_31 : decode prog_7_method_41_code 31 = .ok (.invokevirtual 141, 3) := by decide +kernel
theorem dd_mo_mark_34 : decode prog_7_method_41_code 34 = .ok (.ifCond .eq 7, 3) := by decide +kernel
theorem dd_mo_mark_37 : decode prog_7_method_41_code 37 = .ok (.iconst 1, 1) := by decide +kernel
theorem dd_mo_mark_38 : decode prog_7_method_41_code 38 = .ok (.goto 4, 3) := by decide +kernel
theorem dd_mo_mark_41 : decode prog_7_method_41_code 41 = .ok (.iconst 0, 1) := by decide +kernel
theorem dd_mo_mark_42 : decode prog_7_method_41_code 42 = .ok (.bastore, 1) := by decide +kernel
theorem dd_mo_mark_43 : decode prog_7_method_41_code 43 = .ok (.iinc 3 1, 3) := by decide +kernel
theorem dd_mo_mark_46 : decode prog_7_method_41_code 46 = .ok (.goto (-44), 3) := by decide +kernel
theorem dd_mo_mark_49 : decode prog_7_method_41_code 49 = .ok (.aload_n 0, 1) := by decide +kernel
theorem dd_mo_mark_50 : decode prog_7_method_41_code 50 = .ok (.getfield 135, 3) := by decide +kernel
theorem dd_mo_mark_53 : decode prog_7_method_41_code 53 = .ok (.iconst 1, 1) := by decide +kernel
theorem dd_mo_mark_54 : decode prog_7_method_41_code 54 = .ok (.isub, 1) := by decide +kernel
theorem dd_mo_mark_55 : decode prog_7_method_41_code 55 = .ok (.istore_n 3, 1) := by decide +kernel
theorem dd_mo_mark_56 : decode prog_7_method_41_code 56 = .ok (.iload_n 3, 1) := by decide +kernel
theorem dd_mo_mark_57 : decode prog_7_method_41_code 57 = .ok (.ifCond .lt 150, 3) := by decide +kernel
theorem dd_mo_mark_60 : decode prog_7_method_41_code 60 = .ok (.aload_n 0, 1) := by decide +kernel
theorem dd_mo_mark_61 : decode prog_7_method_41_code 61 = .ok (.getfield 62, 3) := by decide +kernel
theorem dd_mo_mark_64 : decode prog_7_method_41_code 64 = .ok (.iload_n 3, 1) := by decide +kernel
theorem dd_mo_mark_65 : decode prog_7_method_41_code 65 = .ok (.iaload, 1) := by decide +kernel
theorem dd_mo_mark_66 : decode prog_7_method_41_code 66 = .ok (.istore 4, 2) := by decide +kernel
theorem dd_mo_mark_68 : decode prog_7_method_41_code 68 = .ok (.iconst 0, 1) := by decide +kernel
theorem dd_mo_mark_69 : decode prog_7_method_41_code 69 = .ok (.istore 5, 2) := by decide +kernel
theorem dd_mo_mark_71 : decode prog_7_method_41_code 71 = .ok (.iload 5, 2) := by decide +kernel
theorem dd_mo_mark_73 : decode prog_7_method_41_code 73 = .ok (.iconst 2, 1) := by decide +kernel
theorem dd_mo_mark_74 : decode prog_7_method_41_code 74 = .ok (.aload_n 0, 1) := by decide +kernel
theorem dd_mo_mark_75 : decode prog_7_method_41_code 75 = .ok (.getfield 72, 3) := by decide +kernel
theorem dd_mo_mark_78 : decode prog_7_method_41_code 78 = .ok (.imul, 1) := by decide +kernel
theorem dd_mo_mark_79 : decode prog_7_method_41_code 79 = .ok (.aload_n 0, 1) := by decide +kernel
theorem dd_mo_mark_80 : decode prog_7_method_41_code 80 = .ok (.getfield 69, 3) := by decide +kernel
theorem dd_mo_mark_83 : decode prog_7_method_41_code 83 = .ok (.imul, 1) := by decide +kernel
theorem dd_mo_mark_84 : decode prog_7_method_41_code 84 = .ok (.if_icmp .ge 117, 3) := by decide +kernel
theorem dd_mo_mark_87 : decode prog_7_method_41_code 87 = .ok (.aload_n 0, 1) := by decide +kernel
theorem dd_mo_mark_88 : decode prog_7_method_41_code 88 = .ok (.getfield 56, 3) := by decide +kernel
theorem dd_mo_mark_91 : decode prog_7_method_41_code 91 = .ok (.iload 4, 2) := by decide +kernel
theorem dd_mo_mark_93 : decode prog_7_method_41_code 93 = .ok (.iaload, 1) := by decide +kernel
theorem dd_mo_mark_94 : decode prog_7_method_41_code 94 = .ok (.aload_n 0, 1) := by decide +kernel
theorem dd_mo_mark_95 : decode prog_7_method_41_code 95 = .ok (.getfield 138, 3) := by decide +kernel
theorem dd_mo_mark_98 : decode prog_7_method_41_code 98 = .ok (.if_icmp .ge 103, 3) := by decide +kernel
theorem dd_mo_mark_101 : decode prog_7_method_41_code 101 = .ok (.aload_n 0, 1) := by decide +kernel
theorem dd_mo_mark_102 : decode prog_7_method_41_code 102 = .ok (.iload 4, 2) := by decide +kernel
theorem dd_mo_mark_104 : decode prog_7_method_41_code 104 = .ok (.iload 5, 2) := by decide +kernel
theorem dd_mo_mark_106 : decode prog_7_method_41_code 106 = .ok (.iconst 2, 1) := by decide +kernel
theorem dd_mo_mark_107 : decode prog_7_method_41_code 107 = .ok (.idiv, 1) := by decide +kernel
theorem dd_mo_mark_108 : decode prog_7_method_41_code 108 = .ok (.aload_n 0, 1) := by decide +kernel
theorem dd_mo_mark_109 : decode prog_7_method_41_code 109 = .ok (.getfield 69, 3) := by decide +kernel
theorem dd_mo_mark_112 : decode prog_7_method_41_code 112 = .ok (.idiv, 1) := by decide +kernel
theorem dd_mo_mark_113 : decode prog_7_method_41_code 113 = .ok (.iload 5, 2) := by decide +kernel
theorem dd_mo_mark_115 : decode prog_7_method_41_code 115 = .ok (.iconst 2, 1) := by decide +kernel
theorem dd_mo_mark_116 : decode prog_7_method_41_code 116 = .ok (.idiv, 1) := by decide +kernel
theorem dd_mo_mark_117 : decode prog_7_method_41_code 117 = .ok (.aload_n 0, 1) := by decide +kernel
theorem dd_mo_mark_118 : decode prog_7_method_41_code 118 = .ok (.getfield 69, 3) := by decide +kernel
theorem dd_mo_mark_121 : decode prog_7_method_41_code 121 = .ok (.irem, 1) := by decide +kernel
theorem dd_mo_mark_122 : decode prog_7_method_41_code 122 = .ok (.iload 5, 2) := by decide +kernel
theorem dd_mo_mark_124 : decode prog_7_method_41_code 124 = .ok (.iconst 2, 1) := by decide +kernel
theorem dd_mo_mark_125 : decode prog_7_method_41_code 125 = .ok (.irem, 1) := by decide +kernel
theorem dd_mo_mark_126 : decode prog_7_method_41_code 126 = .ok (.ifCond .ne 7, 3) := by decide +kernel
theorem dd_mo_mark_129 : decode prog_7_method_41_code 129 = .ok (.iconst 1, 1) := by decide +kernel
theorem dd_mo_mark_130 : decode prog_7_method_41_code 130 = .ok (.goto 4, 3) := by decide +kernel
theorem dd_mo_mark_133 : decode prog_7_method_41_code 133 = .ok (.iconst 0, 1) := by decide +kernel
theorem dd_mo_mark_134 : decode prog_7_method_41_code 134 = .ok (.invokevirtual 144, 3) := by decide +kernel
theorem dd_mo_mark_137 : decode prog_7_method_41_code 137 = .ok (.istore 6, 2) := by decide +kernel
theorem dd_mo_mark_139 : decode prog_7_method_41_code 139 = .ok (.aload_n 0, 1) := by decide +kernel
theorem dd_mo_mark_140 : decode prog_7_method_41_code 140 = .ok (.getfield 59, 3) := by decide +kernel
theorem dd_mo_mark_143 : decode prog_7_method_41_code 143 = .ok (.iload 4, 2) := by decide +kernel
theorem dd_mo_mark_145 : decode prog_7_method_41_code 145 = .ok (.aload_n 0, 1) := by decide +kernel
theorem dd_mo_mark_146 : decode prog_7_method_41_code 146 = .ok (.getfield 59, 3) := by decide +kernel
theorem dd_mo_mark_149 : decode prog_7_method_41_code 149 = .ok (.iload 4, 2) := by decide +kernel
theorem dd_mo_mark_151 : decode prog_7_method_41_code 151 = .ok (.baload, 1) := by decide +kernel
theorem dd_mo_mark_152 : decode prog_7_method_41_code 152 = .ok (.ifCond .ne 37, 3) := by decide +kernel
theorem dd_mo_mark_155 : decode prog_7_method_41_code 155 = .ok (.iload 6, 2) := by decide +kernel
theorem dd_mo_mark_157 : decode prog_7_method_41_code 157 = .ok (.ifCond .lt 36, 3) := by decide +kernel
theorem dd_mo_mark_160 : decode prog_7_method_41_code 160 = .ok (.aload_n 0, 1) := by decide +kernel
theorem dd_mo_mark_161 : decode prog_7_method_41_code 161 = .ok (.getfield 56, 3) := by decide +kernel
theorem dd_mo_mark_164 : decode prog_7_method_41_code 164 = .ok (.iload 6, 2) := by decide +kernel
theorem dd_mo_mark_166 : decode prog_7_method_41_code 166 = .ok (.iaload, 1) := by decide +kernel
theorem dd_mo_mark_167 : decode prog_7_method_41_code 167 = .ok (.aload_n 0, 1) := by decide +kernel
theorem dd_mo_mark_168 : decode prog_7_method_41_code 168 = .ok (.getfield 56, 3) := by decide +kernel
theorem dd_mo_mark_171 : decode prog_7_method_41_code 171 = .ok (.iload 4, 2) := by decide +kernel
theorem dd_mo_mark_173 : decode prog_7_method_41_code 173 = .ok (.iaload, 1) := by decide +kernel
theorem dd_mo_mark_174 : decode prog_7_method_41_code 174 = .ok (.iconst 1, 1) := by decide +kernel
theorem dd_mo_mark_175 : decode prog_7_method_41_code 175 = .ok (.iadd, 1) := by decide +kernel
theorem dd_mo_mark_176 : decode prog_7_method_41_code 176 = .ok (.if_icmp .ne 17, 3) := by decide +kernel
theorem dd_mo_mark_179 : decode prog_7_method_41_code 179 = .ok (.aload_n 0, 1) := by decide +kernel
theorem dd_mo_mark_180 : decode prog_7_method_41_code 180 = .ok (.getfield 59, 3) := by decide +kernel
theorem dd_mo_mark_183 : decode prog_7_method_41_code 183 = .ok (.iload 6, 2) := by decide +kernel
theorem dd_mo_mark_185 : decode prog_7_method_41_code 185 = .ok (.baload, 1) := by decide +kernel
theorem dd_mo_mark_186 : decode prog_7_method_41_code 186 = .ok (.ifCond .eq 7, 3) := by decide +kernel
theorem dd_mo_mark_189 : decode prog_7_method_41_code 189 = .ok (.iconst 1, 1) := by decide +kernel
theorem dd_mo_mark_190 : decode prog_7_method_41_code 190 = .ok (.goto 4, 3) := by decide +kernel
theorem dd_mo_mark_193 : decode prog_7_method_41_code 193 = .ok (.iconst 0, 1) := by decide +kernel
theorem dd_mo_mark_194 : decode prog_7_method_41_code 194 = .ok (.bastore, 1) := by decide +kernel
theorem dd_mo_mark_195 : decode prog_7_method_41_code 195 = .ok (.iinc 5 1, 3) := by decide +kernel
theorem dd_mo_mark_198 : decode prog_7_method_41_code 198 = .ok (.goto (-127), 3) := by decide +kernel
theorem dd_mo_mark_201 : decode prog_7_method_41_code 201 = .ok (.iinc 3 (-1), 3) := by decide +kernel
theorem dd_mo_mark_204 : decode prog_7_method_41_code 204 = .ok (.goto (-148), 3) := by decide +kernel
theorem dd_mo_mark_207 : decode prog_7_method_41_code 207 = .ok (.return_, 1) := by decide +kernel
end
section
/-! decode rows: printed by wip/whole/facts.py -/
theorem dd_lw_law_0 : decode code 0 = .ok (.new 8, 3) := by decide +kernel
theorem dd_lw_law_3 : decode code 3 = .ok (.dup, 1) := by decide +kernel
theorem dd_lw_law_4 : decode code 4 = .ok (.invokespecial 87, 3) := by decide +kernel
theorem dd_lw_law_7 : decode code 7 = .ok (.astore_n 1, 1) := by decide +kernel
theorem dd_lw_law_8 : decode code 8 = .ok (.new 88, 3) := by decide +kernel
theorem dd_lw_law_11 : decode code 11 = .ok (.dup, 1) := by decide +kernel
theorem dd_lw_law_12 : decode code 12 = .ok (.invokespecial 90, 3) := by decide +kernel
theorem dd_lw_law_15 : decode code 15 = .ok (.astore_n 2, 1) := by decide +kernel
theorem dd_lw_law_16 : decode code 16 = .ok (.iconst 1, 1) := by decide +kernel
theorem dd_lw_law_17 : decode code 17 = .ok (.newarray .long, 2) := by decide +kernel
theorem dd_lw_law_19 : decode code 19 = .ok (.astore_n 3, 1) := by decide +kernel
theorem dd_lw_law_20 : decode code 20 = .ok (.iconst 0, 1) := by decide +kernel
theorem dd_lw_law_21 : decode code 21 = .ok (.istore 4, 2) := by decide +kernel
theorem dd_lw_law_23 : decode code 23 = .ok (.iload 4, 2) := by decide +kernel
theorem dd_lw_law_25 : decode code 25 = .ok (.aload_n 0, 1) := by decide +kernel
theorem dd_lw_law_26 : decode code 26 = .ok (.arraylength, 1) := by decide +kernel
theorem dd_lw_law_27 : decode code 27 = .ok (.iconst 5, 1) := by decide +kernel
theorem dd_lw_law_28 : decode code 28 = .ok (.isub, 1) := by decide +kernel
theorem dd_lw_law_29 : decode code 29 = .ok (.if_icmp .gt 1512, 3) := by decide +kernel
theorem dd_lw_law_32 : decode code 32 = .ok (.aload_n 0, 1) := by decide +kernel
theorem dd_lw_law_33 : decode code 33 = .ok (.iload 4, 2) := by decide +kernel
theorem dd_lw_law_35 : decode code 35 = .ok (.iaload, 1) := by decide +kernel
theorem dd_lw_law_36 : decode code 36 = .ok (.bipush 31, 2) := by decide +kernel
theorem dd_lw_law_38 : decode code 38 = .ok (.iand, 1) := by decide +kernel
theorem dd_lw_law_39 : decode code 39 = .ok (.tableswitch 1496 0 19 #[93, 137, 181, 256, 331, 407, 499, 567, 642, 717, 804, 891, 975, 1031, 1067, 1142, 1217, 1273, 1348, 1416], 93) := by decide +kernel
theorem dd_lw_law_132 : decode code 132 = .ok (.aload_n 1, 1) := by decide +kernel
theorem dd_lw_law_133 : decode code 133 = .ok (.aload_n 3, 1) := by decide +kernel
theorem dd_lw_law_134 : decode code 134 = .ok (.invokestatic 91, 3) := by decide +kernel
theorem dd_lw_law_137 : decode code 137 = .ok (.istore 5, 2) := by decide +kernel
theorem dd_lw_law_139 : decode code 139 = .ok (.aload_n 2, 1) := by decide +kernel
theorem dd_lw_law_140 : decode code 140 = .ok (.invokevirtual 96, 3) := by decide +kernel
theorem dd_lw_law_143 : decode code 143 = .ok (.istore 6, 2) := by decide +kernel
theorem dd_lw_law_145 : decode code 145 = .ok (.aload_n 2, 1) := by decide +kernel
theorem dd_lw_law_146 : decode code 146 = .ok (.invokevirtual 97, 3) := by decide +kernel
theorem dd_lw_law_149 : decode code 149 = .ok (.iload 5, 2) := by decide +kernel
theorem dd_lw_law_151 : decode code 151 = .ok (.if_icmp .eq 5, 3) := by decide +kernel
theorem dd_lw_law_154 : decode code 154 = .ok (.iconst 0, 1) := by decide +kernel
theorem dd_lw_law_155 : decode code 155 = .ok (.ireturn, 1) := by decide +kernel
theorem dd_lw_law_156 : decode code 156 = .ok (.iload 5, 2) := by decide +kernel
theorem dd_lw_law_158 : decode code 158 = .ok (.ifCond .ne 15, 3) := by decide +kernel
theorem dd_lw_law_161 : decode code 161 = .ok (.aload_n 3, 1) := by decide +kernel
theorem dd_lw_law_162 : decode code 162 = .ok (.iconst 0, 1) := by decide +kernel
theorem dd_lw_law_163 : decode code 163 = .ok (.laload, 1) := by decide +kernel
theorem dd_lw_law_164 : decode code 164 = .ok (.iload 6, 2) := by decide +kernel
theorem dd_lw_law_166 : decode code 166 = .ok (.i2l, 1) := by decide +kernel
theorem dd_lw_law_167 : decode code 167 = .ok (.lcmp, 1) := by decide +kernel
theorem dd_lw_law_168 : decode code 168 = .ok (.ifCond .eq 5, 3) := by decide +kernel
theorem dd_lw_law_171 : decode code 171 = .ok (.iconst 0, 1) := by decide +kernel
theorem dd_lw_law_172 : decode code 172 = .ok (.ireturn, 1) := by decide +kernel
theorem dd_lw_law_173 : decode code 173 = .ok (.goto 1362, 3) := by decide +kernel
theorem dd_lw_law_176 : decode code 176 = .ok (.aload_n 1, 1) := by decide +kernel
theorem dd_lw_law_177 : decode code 177 = .ok (.aload_n 3, 1) := by decide +kernel
theorem dd_lw_law_178 : decode code 178 = .ok (.invokestatic 100, 3) := by decide +kernel
theorem dd_lw_law_181 : decode code 181 = .ok (.istore 5, 2) := by decide +kernel
theorem dd_lw_law_183 : decode code 183 = .ok (.aload_n 2, 1) := by decide +kernel
theorem dd_lw_law_184 : decode code 184 = .ok (.invokevirtual 102, 3) := by decide +kernel
theorem dd_lw_law_187 : decode code 187 = .ok (.istore 6, 2) := by decide +kernel
theorem dd_lw_law_189 : decode code 189 = .ok (.aload_n 2, 1) := by decide +kernel
theorem dd_lw_law_190 : decode code 190 = .ok (.invokevirtual 97, 3) := by decide +kernel
theorem dd_lw_law_193 : decode code 193 = .ok (.iload 5, 2) := by decide +kernel
theorem dd_lw_law_195 : decode code 195 = .ok (.if_icmp .eq 5, 3) := by decide +kernel
theorem dd_lw_law_198 : decode code 198 = .ok (.iconst 0, 1) := by decide +kernel
theorem dd_lw_law_199 : decode code 199 = .ok (.ireturn, 1) := by decide +kernel
theorem dd_lw_law_200 : decode code 200 = .ok (.iload 5, 2) := by decide +kernel
theorem dd_lw_law_202 : decode code 202 = .ok (.ifCond .ne 15, 3) := by decide +kernel
theorem dd_lw_law_205 : decode code 205 = .ok (.aload_n 3, 1) := by decide +kernel
theorem dd_lw_law_206 : decode code 206 = .ok (.iconst 0, 1) := by decide +kernel
theorem dd_lw_law_207 : decode code 207 = .ok (.laload, 1) := by decide +kernel
theorem dd_lw_law_208 : decode code 208 = .ok (.iload 6, 2) := by decide +kernel
theorem dd_lw_law_210 : decode code 210 = .ok (.i2l, 1) := by decide +kernel
theorem dd_lw_law_211 : decode code 211 = .ok (.lcmp, 1) := by decide +kernel
theorem dd_lw_law_212 : decode code 212 = .ok (.ifCond .eq 5, 3) := by decide +kernel
theorem dd_lw_law_215 : decode code 215 = .ok (.iconst 0, 1) := by decide +kernel
theorem dd_lw_law_216 : decode code 216 = .ok (.ireturn, 1) := by decide +kernel
theorem dd_lw_law_217 : decode code 217 = .ok (.goto 1318, 3) := by decide +kernel
theorem dd_lw_law_220 : decode code 220 = .ok (.aload_n 1, 1) := by decide +kernel
theorem dd_lw_law_221 : decode code 221 = .ok (.aload_n 0, 1) := by decide +kernel
theorem dd_lw_law_222 : decode code 222 = .ok (.iload 4, 2) := by decide +kernel
theorem dd_lw_law_224 : decode code 224 = .ok (.iconst 1, 1) := by decide +kernel
theorem dd_lw_law_225 : decode code 225 = .ok (.iadd, 1) := by decide +kernel
theorem dd_lw_law_226 : decode code 226 = .ok (.iaload, 1) := by decide +kernel
theorem dd_lw_law_227 : decode code 227 = .ok (.aload_n 0, 1) := by decide +kernel
theorem dd_lw_law_228 : decode code 228 = .ok (.iload 4, 2) := by decide +kernel
theorem dd_lw_law_230 : decode code 230 = .ok (.iconst 2, 1) := by decide +kernel
theorem dd_lw_law_231 : decode code 231 = .ok (.iadd, 1) := by decide +kernel
theorem dd_lw_law_232 : decode code 232 = .ok (.iaload, 1) := by decide +kernel
theorem dd_lw_law_233 : decode code 233 = .ok (.aload_n 3, 1) := by decide +kernel
theorem dd_lw_law_234 : decode code 234 = .ok (.invokestatic 103, 3) := by decide +kernel
theorem dd_lw_law_237 : decode code 237 = .ok (.istore 5, 2) := by decide +kernel
theorem dd_lw_law_239 : decode code 239 = .ok (.aload_n 2, 1) := by decide +kernel
theorem dd_lw_law_240 : decode code 240 = .ok (.aload_n 0, 1) := by decide +kernel
theorem dd_lw_law_241 : decode code 241 = .ok (.iload 4, 2) := by decide +kernel
theorem dd_lw_law_243 : decode code 243 = .ok (.iconst 1, 1) := by decide +kernel
theorem dd_lw_law_244 : decode code 244 = .ok (.iadd, 1) := by decide +kernel
theorem dd_lw_law_245 : decode code 245 = .ok (.iaload, 1) := by decide +kernel
theorem dd_lw_law_246 : decode code 246 = .ok (.aload_n 0, 1) := by decide +kernel
theorem dd_lw_law_247 : decode code 247 = .ok (.iload 4, 2) := by decide +kernel
theorem dd_lw_law_249 : decode code 249 = .ok (.iconst 2, 1) := by decide +kernel
theorem dd_lw_law_250 : decode code 250 = .ok (.iadd, 1) := by decide +kernel
theorem dd_lw_law_251 : decode code 251 = .ok (.iaload, 1) := by decide +kernel
theorem dd_lw_law_252 : decode code 252 = .ok (.invokevirtual 106, 3) := by decide +kernel
theorem dd_lw_law_255 : decode code 255 = .ok (.istore 6, 2) := by decide +kernel
theorem dd_lw_law_257 : decode code 257 = .ok (.aload_n 2, 1) := by decide +kernel
theorem dd_lw_law_258 : decode code 258 = .ok (.invokevirtual 97, 3) := by decide +kernel
theorem dd_lw_law_261 : decode code 261 = .ok (.iload 5, 2) := by decide +kernel
theorem dd_lw_law_263 : decode code 263 = .ok (.if_icmp .eq 5, 3) := by decide +kernel
theorem dd_lw_law_266 : decode code 266 = .ok (.iconst 0, 1) := by decide +kernel
theorem dd_lw_law_267 : decode code 267 = .ok (.ireturn, 1) := by decide +kernel
theorem dd_lw_law_268 : decode code 268 = .ok (.iload 5, 2) := by decide +kernel
theorem dd_lw_law_270 : decode code 270 = .ok (.ifCond .ne 22, 3) := by decide +kernel
theorem dd_lw_law_273 : decode code 273 = .ok (.aload_n 3, 1) := by decide +kernel
theorem dd_lw_law_274 : decode code 274 = .ok (.iconst 0, 1) := by decide +kernel
theorem dd_lw_law_275 : decode code 275 = .ok (.laload, 1) := by decide +kernel
theorem dd_lw_law_276 : decode code 276 = .ok (.iload 6, 2) := by decide +kernel
theorem dd_lw_law_278 : decode code 278 = .ok (.ifCond .eq 7, 3) := by decide +kernel
theorem dd_lw_law_281 : decode code 281 = .ok (.lconst 1, 1) := by decide +kernel
theorem dd_lw_law_282 : decode code 282 = .ok (.goto 4, 3) := by decide +kernel
theorem dd_lw_law_285 : decode code 285 = .ok (.lconst 0, 1) := by decide +kernel
theorem dd_lw_law_286 : decode code 286 = .ok (.lcmp, 1) := by decide +kernel
theorem dd_lw_law_287 : decode code 287 = .ok (.ifCond .eq 5, 3) := by decide +kernel
theorem dd_lw_law_290 : decode code 290 = .ok (.iconst 0, 1) := by decide +kernel
theorem dd_lw_law_291 : decode code 291 = .ok (.ireturn, 1) := by decide +kernel
theorem dd_lw_law_292 : decode code 292 = .ok (.goto 1243, 3) := by decide +kernel
theorem dd_lw_law_295 : decode code 295 = .ok (.aload_n 1, 1) := by decide +kernel
theorem dd_lw_law_296 : decode code 296 = .ok (.aload_n 0, 1) := by decide +kernel
theorem dd_lw_law_297 : decode code 297 = .ok (.iload 4, 2) := by decide +kernel
theorem dd_lw_law_299 : decode code 299 = .ok (.iconst 1, 1) := by decide +kernel
theorem dd_lw_law_300 : decode code 300 = .ok (.iadd, 1) := by decide +kernel
theorem dd_lw_law_301 : decode code 301 = .ok (.iaload, 1) := by decide +kernel
theorem dd_lw_law_302 : decode code 302 = .ok (.aload_n 0, 1) := by decide +kernel
theorem dd_lw_law_303 : decode code 303 = .ok (.iload 4, 2) := by decide +kernel
theorem dd_lw_law_305 : decode code 305 = .ok (.iconst 2, 1) := by decide +kernel
theorem dd_lw_law_306 : decode code 306 = .ok (.iadd, 1) := by decide +kernel
theorem dd_lw_law_307 : decode code 307 = .ok (.iaload, 1) := by decide +kernel
theorem dd_lw_law_308 : decode code 308 = .ok (.aload_n 3, 1) := by decide +kernel
theorem dd_lw_law_309 : decode code 309 = .ok (.invokestatic 107, 3) := by decide +kernel
theorem dd_lw_law_312 : decode code 312 = .ok (.istore 5, 2) := by decide +kernel
theorem dd_lw_law_314 : decode code 314 = .ok (.aload_n 2, 1) := by decide +kernel
theorem dd_lw_law_315 : decode code 315 = .ok (.aload_n 0, 1) := by decide +kernel
theorem dd_lw_law_316 : decode code 316 = .ok (.iload 4, 2) := by decide +kernel
theorem dd_lw_law_318 : decode code 318 = .ok (.iconst 1, 1) := by decide +kernel
theorem dd_lw_law_319 : decode code 319 = .ok (.iadd, 1) := by decide +kernel
theorem dd_lw_law_320 : decode code 320 = .ok (.iaload, 1) := by decide +kernel
theorem dd_lw_law_321 : decode code 321 = .ok (.aload_n 0, 1) := by decide +kernel
theorem dd_lw_law_322 : decode code 322 = .ok (.iload 4, 2) := by decide +kernel
theorem dd_lw_law_324 : decode code 324 = .ok (.iconst 2, 1) := by decide +kernel
theorem dd_lw_law_325 : decode code 325 = .ok (.iadd, 1) := by decide +kernel
theorem dd_lw_law_326 : decode code 326 = .ok (.iaload, 1) := by decide +kernel
theorem dd_lw_law_327 : decode code 327 = .ok (.invokevirtual 109, 3) := by decide +kernel
theorem dd_lw_law_330 : decode code 330 = .ok (.istore 6, 2) := by decide +kernel
theorem dd_lw_law_332 : decode code 332 = .ok (.aload_n 2, 1) := by decide +kernel
theorem dd_lw_law_333 : decode code 333 = .ok (.invokevirtual 97, 3) := by decide +kernel
theorem dd_lw_law_336 : decode code 336 = .ok (.iload 5, 2) := by decide +kernel
theorem dd_lw_law_338 : decode code 338 = .ok (.if_icmp .eq 5, 3) := by decide +kernel
theorem dd_lw_law_341 : decode code 341 = .ok (.iconst 0, 1) := by decide +kernel
theorem dd_lw_law_342 : decode code 342 = .ok (.ireturn, 1) := by decide +kernel
theorem dd_lw_law_343 : decode code 343 = .ok (.iload 5, 2) := by decide +kernel
theorem dd_lw_law_345 : decode code 345 = .ok (.ifCond .ne 22, 3) := by decide +kernel
theorem dd_lw_law_348 : decode code 348 = .ok (.aload_n 3, 1) := by decide +kernel
theorem dd_lw_law_349 : decode code 349 = .ok (.iconst 0, 1) := by decide +kernel
theorem dd_lw_law_350 : decode code 350 = .ok (.laload, 1) := by decide +kernel
theorem dd_lw_law_351 : decode code 351 = .ok (.iload 6, 2) := by decide +kernel
theorem dd_lw_law_353 : decode code 353 = .ok (.ifCond .eq 7, 3) := by decide +kernel
theorem dd_lw_law_356 : decode code 356 = .ok (.lconst 1, 1) := by decide +kernel
theorem dd_lw_law_357 : decode code 357 = .ok (.goto 4, 3) := by decide +kernel
theorem dd_lw_law_360 : decode code 360 = .ok (.lconst 0, 1) := by decide +kernel
theorem dd_lw_law_361 : decode code 361 = .ok (.lcmp, 1) := by decide +kernel
theorem dd_lw_law_362 : decode code 362 = .ok (.ifCond .eq 5, 3) := by decide +kernel
theorem dd_lw_law_365 : decode code 365 = .ok (.iconst 0, 1) := by decide +kernel
theorem dd_lw_law_366 : decode code 366 = .ok (.ireturn, 1) := by decide +kernel
theorem dd_lw_law_367 : decode code 367 = .ok (.goto 1168, 3) := by decide +kernel
theorem dd_lw_law_370 : decode code 370 = .ok (.aload_n 1, 1) := by decide +kernel
theorem dd_lw_law_371 : decode code 371 = .ok (.aload_n 0, 1) := by decide +kernel
theorem dd_lw_law_372 : decode code 372 = .ok (.iload 4, 2) := by decide +kernel
theorem dd_lw_law_374 : decode code 374 = .ok (.iconst 1, 1) := by decide +kernel
theorem dd_lw_law_375 : decode code 375 = .ok (.iadd, 1) := by decide +kernel
theorem dd_lw_law_376 : decode code 376 = .ok (.iaload, 1) := by decide +kernel
theorem dd_lw_law_377 : decode code 377 = .ok (.ifCond .eq 7, 3) := by decide +kernel
theorem dd_lw_law_380 : decode code 380 = .ok (.iconst 1, 1) := by decide +kernel
theorem dd_lw_law_381 : decode code 381 = .ok (.goto 4, 3) := by decide +kernel
theorem dd_lw_law_384 : decode code 384 = .ok (.iconst 0, 1) := by decide +kernel
theorem dd_lw_law_385 : decode code 385 = .ok (.aload_n 0, 1) := by decide +kernel
theorem dd_lw_law_386 : decode code 386 = .ok (.iload 4, 2) := by decide +kernel
theorem dd_lw_law_388 : decode code 388 = .ok (.iconst 2, 1) := by decide +kernel
theorem dd_lw_law_389 : decode code 389 = .ok (.iadd, 1) := by decide +kernel
theorem dd_lw_law_390 : decode code 390 = .ok (.iaload, 1) := by decide +kernel
theorem dd_lw_law_391 : decode code 391 = .ok (.aload_n 0, 1) := by decide +kernel
theorem dd_lw_law_392 : decode code 392 = .ok (.iload 4, 2) := by decide +kernel
theorem dd_lw_law_394 : decode code 394 = .ok (.iconst 3, 1) := by decide +kernel
theorem dd_lw_law_395 : decode code 395 = .ok (.iadd, 1) := by decide +kernel
theorem dd_lw_law_396 : decode code 396 = .ok (.iaload, 1) := by decide +kernel
theorem dd_lw_law_397 : decode code 397 = .ok (.invokestatic 110, 3) := by decide +kernel
theorem dd_lw_law_400 : decode code 400 = .ok (.istore 5, 2) := by decide +kernel
theorem dd_lw_law_402 : decode code 402 = .ok (.aload_n 2, 1) := by decide +kernel
theorem dd_lw_law_403 : decode code 403 = .ok (.aload_n 0, 1) := by decide +kernel
theorem dd_lw_law_404 : decode code 404 = .ok (.iload 4, 2) := by decide +kernel
theorem dd_lw_law_406 : decode code 406 = .ok (.iconst 1, 1) := by decide +kernel
theorem dd_lw_law_407 : decode code 407 = .ok (.iadd, 1) := by decide +kernel
theorem dd_lw_law_408 : decode code 408 = .ok (.iaload, 1) := by decide +kernel
theorem dd_lw_law_409 : decode code 409 = .ok (.ifCond .eq 7, 3) := by decide +kernel
theorem dd_lw_law_412 : decode code 412 = .ok (.iconst 1, 1) := by decide +kernel
theorem dd_lw_law_413 : decode code 413 = .ok (.goto 4, 3) := by decide +kernel
theorem dd_lw_law_416 : decode code 416 = .ok (.iconst 0, 1) := by decide +kernel
theorem dd_lw_law_417 : decode code 417 = .ok (.aload_n 0, 1) := by decide +kernel
theorem dd_lw_law_418 : decode code 418 = .ok (.iload 4, 2) := by decide +kernel
theorem dd_lw_law_420 : decode code 420 = .ok (.iconst 2, 1) := by decide +kernel
theorem dd_lw_law_421 : decode code 421 = .ok (.iadd, 1) := by decide +kernel
theorem dd_lw_law_422 : decode code 422 = .ok (.iaload, 1) := by decide +kernel
theorem dd_lw_law_423 : decode code 423 = .ok (.aload_n 0, 1) := by decide +kernel
theorem dd_lw_law_424 : decode code 424 = .ok (.iload 4, 2) := by decide +kernel
theorem dd_lw_law_426 : decode code 426 = .ok (.iconst 3, 1) := by decide +kernel
theorem dd_lw_law_427 : decode code 427 = .ok (.iadd, 1) := by decide +kernel
theorem dd_lw_law_428 : decode code 428 = .ok (.iaload, 1) := by decide +kernel
theorem dd_lw_law_429 : decode code 429 = .ok (.invokevirtual 113, 3) := by decide +kernel
theorem dd_lw_law_432 : decode code 432 = .ok (.aload_n 2, 1) := by decide +kernel
theorem dd_lw_law_433 : decode code 433 = .ok (.invokevirtual 97, 3) := by decide +kernel
theorem dd_lw_law_436 : decode code 436 = .ok (.iload 5, 2) := by decide +kernel
theorem dd_lw_law_438 : decode code 438 = .ok (.if_icmp .eq 5, 3) := by decide +kernel
theorem dd_lw_law_441 : decode code 441 = .ok (.iconst 0, 1) := by decide +kernel
theorem dd_lw_law_442 : decode code 442 = .ok (.ireturn, 1) := by decide +kernel
theorem dd_lw_law_443 : decode code 443 = .ok (.goto 1092, 3) := by decide +kernel
theorem dd_lw_law_446 : decode code 446 = .ok (.aload_n 1, 1) := by decide +kernel
theorem dd_lw_law_447 : decode code 447 = .ok (.aload_n 0, 1) := by decide +kernel
theorem dd_lw_law_448 : decode code 448 = .ok (.iload 4, 2) := by decide +kernel
theorem dd_lw_law_450 : decode code 450 = .ok (.iconst 1, 1) := by decide +kernel
theorem dd_lw_law_451 : decode code 451 = .ok (.iadd, 1) := by decide +kernel
theorem dd_lw_law_452 : decode code 452 = .ok (.iaload, 1) := by decide +kernel
theorem dd_lw_law_453 : decode code 453 = .ok (.aload_n 0, 1) := by decide +kernel
theorem dd_lw_law_454 : decode code 454 = .ok (.iload 4, 2) := by decide +kernel
theorem dd_lw_law_456 : decode code 456 = .ok (.iconst 2, 1) := by decide +kernel
theorem dd_lw_law_457 : decode code 457 = .ok (.iadd, 1) := by decide +kernel
theorem dd_lw_law_458 : decode code 458 = .ok (.iaload, 1) := by decide +kernel
theorem dd_lw_law_459 : decode code 459 = .ok (.aload_n 0, 1) := by decide +kernel
theorem dd_lw_law_460 : decode code 460 = .ok (.iload 4, 2) := by decide +kernel
theorem dd_lw_law_462 : decode code 462 = .ok (.iconst 3, 1) := by decide +kernel
theorem dd_lw_law_463 : decode code 463 = .ok (.iadd, 1) := by decide +kernel
theorem dd_lw_law_464 : decode code 464 = .ok (.iaload, 1) := by decide +kernel
theorem dd_lw_law_465 : decode code 465 = .ok (.aload_n 0, 1) := by decide +kernel
theorem dd_lw_law_466 : decode code 466 = .ok (.iload 4, 2) := by decide +kernel
theorem dd_lw_law_468 : decode code 468 = .ok (.iconst 4, 1) := by decide +kernel
theorem dd_lw_law_469 : decode code 469 = .ok (.iadd, 1) := by decide +kernel
theorem dd_lw_law_470 : decode code 470 = .ok (.iaload, 1) := by decide +kernel
theorem dd_lw_law_471 : decode code 471 = .ok (.aload_n 3, 1) := by decide +kernel
theorem dd_lw_law_472 : decode code 472 = .ok (.invokestatic 114, 3) := by decide +kernel
theorem dd_lw_law_475 : decode code 475 = .ok (.istore 5, 2) := by decide +kernel
theorem dd_lw_law_477 : decode code 477 = .ok (.aload_n 2, 1) := by decide +kernel
theorem dd_lw_law_478 : decode code 478 = .ok (.aload_n 0, 1) := by decide +kernel
theorem dd_lw_law_479 : decode code 479 = .ok (.iload 4, 2) := by decide +kernel
theorem dd_lw_law_481 : decode code 481 = .ok (.iconst 1, 1) := by decide +kernel
theorem dd_lw_law_482 : decode code 482 = .ok (.iadd, 1) := by decide +kernel
theorem dd_lw_law_483 : decode code 483 = .ok (.iaload, 1) := by decide +kernel
theorem dd_lw_law_484 : decode code 484 = .ok (.aload_n 0, 1) := by decide +kernel
theorem dd_lw_law_485 : decode code 485 = .ok (.iload 4, 2) := by decide +kernel
theorem dd_lw_law_487 : decode code 487 = .ok (.iconst 2, 1) := by decide +kernel
theorem dd_lw_law_488 : decode code 488 = .ok (.iadd, 1) := by decide +kernel
theorem dd_lw_law_489 : decode code 489 = .ok (.iaload, 1) := by decide +kernel
theorem dd_lw_law_490 : decode code 490 = .ok (.aload_n 0, 1) := by decide +kernel
theorem dd_lw_law_491 : decode code 491 = .ok (.iload 4, 2) := by decide +kernel
theorem dd_lw_law_493 : decode code 493 = .ok (.iconst 3, 1) := by decide +kernel
theorem dd_lw_law_494 : decode code 494 = .ok (.iadd, 1) := by decide +kernel
theorem dd_lw_law_495 : decode code 495 = .ok (.iaload, 1) := by decide +kernel
theorem dd_lw_law_496 : decode code 496 = .ok (.aload_n 0, 1) := by decide +kernel
theorem dd_lw_law_497 : decode code 497 = .ok (.iload 4, 2) := by decide +kernel
theorem dd_lw_law_499 : decode code 499 = .ok (.iconst 4, 1) := by decide +kernel
theorem dd_lw_law_500 : decode code 500 = .ok (.iadd, 1) := by decide +kernel
theorem dd_lw_law_501 : decode code 501 = .ok (.iaload, 1) := by decide +kernel
theorem dd_lw_law_502 : decode code 502 = .ok (.invokevirtual 117, 3) := by decide +kernel
theorem dd_lw_law_505 : decode code 505 = .ok (.istore 6, 2) := by decide +kernel
theorem dd_lw_law_507 : decode code 507 = .ok (.aload_n 2, 1) := by decide +kernel
theorem dd_lw_law_508 : decode code 508 = .ok (.invokevirtual 97, 3) := by decide +kernel
theorem dd_lw_law_511 : decode code 511 = .ok (.iload 5, 2) := by decide +kernel
theorem dd_lw_law_513 : decode code 513 = .ok (.if_icmp .eq 5, 3) := by decide +kernel
theorem dd_lw_law_516 : decode code 516 = .ok (.iconst 0, 1) := by decide +kernel
theorem dd_lw_law_517 : decode code 517 = .ok (.ireturn, 1) := by decide +kernel
theorem dd_lw_law_518 : decode code 518 = .ok (.iload 5, 2) := by decide +kernel
theorem dd_lw_law_520 : decode code 520 = .ok (.ifCond .ne 15, 3) := by decide +kernel
theorem dd_lw_law_523 : decode code 523 = .ok (.aload_n 3, 1) := by decide +kernel
theorem dd_lw_law_524 : decode code 524 = .ok (.iconst 0, 1) := by decide +kernel
theorem dd_lw_law_525 : decode code 525 = .ok (.laload, 1) := by decide +kernel
theorem dd_lw_law_526 : decode code 526 = .ok (.iload 6, 2) := by decide +kernel
theorem dd_lw_law_528 : decode code 528 = .ok (.i2l, 1) := by decide +kernel
theorem dd_lw_law_529 : decode code 529 = .ok (.lcmp, 1) := by decide +kernel
theorem dd_lw_law_530 : decode code 530 = .ok (.ifCond .eq 5, 3) := by decide +kernel
theorem dd_lw_law_533 : decode code 533 = .ok (.iconst 0, 1) := by decide +kernel
theorem dd_lw_law_534 : decode code 534 = .ok (.ireturn, 1) := by decide +kernel
theorem dd_lw_law_535 : decode code 535 = .ok (.goto 1000, 3) := by decide +kernel
theorem dd_lw_law_538 : decode code 538 = .ok (.aload_n 1, 1) := by decide +kernel
theorem dd_lw_law_539 : decode code 539 = .ok (.aload_n 0, 1) := by decide +kernel
theorem dd_lw_law_540 : decode code 540 = .ok (.iload 4, 2) := by decide +kernel
theorem dd_lw_law_542 : decode code 542 = .ok (.iconst 1, 1) := by decide +kernel
theorem dd_lw_law_543 : decode code 543 = .ok (.iadd, 1) := by decide +kernel
theorem dd_lw_law_544 : decode code 544 = .ok (.iaload, 1) := by decide +kernel
theorem dd_lw_law_545 : decode code 545 = .ok (.aload_n 0, 1) := by decide +kernel
theorem dd_lw_law_546 : decode code 546 = .ok (.iload 4, 2) := by decide +kernel
theorem dd_lw_law_548 : decode code 548 = .ok (.iconst 2, 1) := by decide +kernel
theorem dd_lw_law_549 : decode code 549 = .ok (.iadd, 1) := by decide +kernel
theorem dd_lw_law_550 : decode code 550 = .ok (.iaload, 1) := by decide +kernel
theorem dd_lw_law_551 : decode code 551 = .ok (.aload_n 3, 1) := by decide +kernel
theorem dd_lw_law_552 : decode code 552 = .ok (.invokestatic 118, 3) := by decide +kernel
theorem dd_lw_law_555 : decode code 555 = .ok (.istore 5, 2) := by decide +kernel
theorem dd_lw_law_557 : decode code 557 = .ok (.aload_n 2, 1) := by decide +kernel
theorem dd_lw_law_558 : decode code 558 = .ok (.aload_n 0, 1) := by decide +kernel
theorem dd_lw_law_559 : decode code 559 = .ok (.iload 4, 2) := by decide +kernel
theorem dd_lw_law_561 : decode code 561 = .ok (.iconst 1, 1) := by decide +kernel
theorem dd_lw_law_562 : decode code 562 = .ok (.iadd, 1) := by decide +kernel
theorem dd_lw_law_563 : decode code 563 = .ok (.iaload, 1) := by decide +kernel
theorem dd_lw_law_564 : decode code 564 = .ok (.aload_n 0, 1) := by decide +kernel
theorem dd_lw_law_565 : decode code 565 = .ok (.iload 4, 2) := by decide +kernel
theorem dd_lw_law_567 : decode code 567 = .ok (.iconst 2, 1) := by decide +kernel
theorem dd_lw_law_568 : decode code 568 = .ok (.iadd, 1) := by decide +kernel
theorem dd_lw_law_569 : decode code 569 = .ok (.iaload, 1) := by decide +kernel
theorem dd_lw_law_570 : decode code 570 = .ok (.invokevirtual 120, 3) := by decide +kernel
theorem dd_lw_law_573 : decode code 573 = .ok (.istore 6, 2) := by decide +kernel
theorem dd_lw_law_575 : decode code 575 = .ok (.aload_n 2, 1) := by decide +kernel
theorem dd_lw_law_576 : decode code 576 = .ok (.invokevirtual 97, 3) := by decide +kernel
theorem dd_lw_law_579 : decode code 579 = .ok (.iload 5, 2) := by decide +kernel
theorem dd_lw_law_581 : decode code 581 = .ok (.if_icmp .eq 5, 3) := by decide +kernel
theorem dd_lw_law_584 : decode code 584 = .ok (.iconst 0, 1) := by decide +kernel
theorem dd_lw_law_585 : decode code 585 = .ok (.ireturn, 1) := by decide +kernel
theorem dd_lw_law_586 : decode code 586 = .ok (.iload 5, 2) := by decide +kernel
theorem dd_lw_law_588 : decode code 588 = .ok (.ifCond .ne 15, 3) := by decide +kernel
theorem dd_lw_law_591 : decode code 591 = .ok (.aload_n 3, 1) := by decide +kernel
theorem dd_lw_law_592 : decode code 592 = .ok (.iconst 0, 1) := by decide +kernel
theorem dd_lw_law_593 : decode code 593 = .ok (.laload, 1) := by decide +kernel
theorem dd_lw_law_594 : decode code 594 = .ok (.iload 6, 2) := by decide +kernel
theorem dd_lw_law_596 : decode code 596 = .ok (.i2l, 1) := by decide +kernel
theorem dd_lw_law_597 : decode code 597 = .ok (.lcmp, 1) := by decide +kernel
theorem dd_lw_law_598 : decode code 598 = .ok (.ifCond .eq 5, 3) := by decide +kernel
theorem dd_lw_law_601 : decode code 601 = .ok (.iconst 0, 1) := by decide +kernel
theorem dd_lw_law_602 : decode code 602 = .ok (.ireturn, 1) := by decide +kernel
theorem dd_lw_law_603 : decode code 603 = .ok (.goto 932, 3) := by decide +kernel
theorem dd_lw_law_606 : decode code 606 = .ok (.aload_n 1, 1) := by decide +kernel
theorem dd_lw_law_607 : decode code 607 = .ok (.aload_n 0, 1) := by decide +kernel
theorem dd_lw_law_608 : decode code 608 = .ok (.iload 4, 2) := by decide +kernel
theorem dd_lw_law_610 : decode code 610 = .ok (.iconst 1, 1) := by decide +kernel
theorem dd_lw_law_611 : decode code 611 = .ok (.iadd, 1) := by decide +kernel
theorem dd_lw_law_612 : decode code 612 = .ok (.iaload, 1) := by decide +kernel
theorem dd_lw_law_613 : decode code 613 = .ok (.aload_n 0, 1) := by decide +kernel
theorem dd_lw_law_614 : decode code 614 = .ok (.iload 4, 2) := by decide +kernel
theorem dd_lw_law_616 : decode code 616 = .ok (.iconst 2, 1) := by decide +kernel
theorem dd_lw_law_617 : decode code 617 = .ok (.iadd, 1) := by decide +kernel
theorem dd_lw_law_618 : decode code 618 = .ok (.iaload, 1) := by decide +kernel
theorem dd_lw_law_619 : decode code 619 = .ok (.aload_n 3, 1) := by decide +kernel
theorem dd_lw_law_620 : decode code 620 = .ok (.invokestatic 121, 3) := by decide +kernel
theorem dd_lw_law_623 : decode code 623 = .ok (.istore 5, 2) := by decide +kernel
theorem dd_lw_law_625 : decode code 625 = .ok (.aload_n 2, 1) := by decide +kernel
theorem dd_lw_law_626 : decode code 626 = .ok (.aload_n 0, 1) := by decide +kernel
theorem dd_lw_law_627 : decode code 627 = .ok (.iload 4, 2) := by decide +kernel
theorem dd_lw_law_629 : decode code 629 = .ok (.iconst 1, 1) := by decide +kernel
theorem dd_lw_law_630 : decode code 630 = .ok (.iadd, 1) := by decide +kernel
theorem dd_lw_law_631 : decode code 631 = .ok (.iaload, 1) := by decide +kernel
theorem dd_lw_law_632 : decode code 632 = .ok (.aload_n 0, 1) := by decide +kernel
theorem dd_lw_law_633 : decode code 633 = .ok (.iload 4, 2) := by decide +kernel
theorem dd_lw_law_635 : decode code 635 = .ok (.iconst 2, 1) := by decide +kernel
theorem dd_lw_law_636 : decode code 636 = .ok (.iadd, 1) := by decide +kernel
theorem dd_lw_law_637 : decode code 637 = .ok (.iaload, 1) := by decide +kernel
theorem dd_lw_law_638 : decode code 638 = .ok (.invokevirtual 123, 3) := by decide +kernel
theorem dd_lw_law_641 : decode code 641 = .ok (.istore 6, 2) := by decide +kernel
theorem dd_lw_law_643 : decode code 643 = .ok (.aload_n 2, 1) := by decide +kernel
theorem dd_lw_law_644 : decode code 644 = .ok (.invokevirtual 97, 3) := by decide +kernel
theorem dd_lw_law_647 : decode code 647 = .ok (.iload 5, 2) := by decide +kernel
theorem dd_lw_law_649 : decode code 649 = .ok (.if_icmp .eq 5, 3) := by decide +kernel
theorem dd_lw_law_652 : decode code 652 = .ok (.iconst 0, 1) := by decide +kernel
theorem dd_lw_law_653 : decode code 653 = .ok (.ireturn, 1) := by decide +kernel
theorem dd_lw_law_654 : decode code 654 = .ok (.iload 5, 2) := by decide +kernel
theorem dd_lw_law_656 : decode code 656 = .ok (.ifCond .ne 22, 3) := by decide +kernel
theorem dd_lw_law_659 : decode code 659 = .ok (.aload_n 3, 1) := by decide +kernel
theorem dd_lw_law_660 : decode code 660 = .ok (.iconst 0, 1) := by decide +kernel
theorem dd_lw_law_661 : decode code 661 = .ok (.laload, 1) := by decide +kernel
theorem dd_lw_law_662 : decode code 662 = .ok (.iload 6, 2) := by decide +kernel
theorem dd_lw_law_664 : decode code 664 = .ok (.ifCond .eq 7, 3) := by decide +kernel
theorem dd_lw_law_667 : decode code 667 = .ok (.lconst 1, 1) := by decide +kernel
theorem dd_lw_law_668 : decode code 668 = .ok (.goto 4, 3) := by decide +kernel
theorem dd_lw_law_671 : decode code 671 = .ok (.lconst 0, 1) := by decide +kernel
theorem dd_lw_law_672 : decode code 672 = .ok (.lcmp, 1) := by decide +kernel
theorem dd_lw_law_673 : decode code 673 = .ok (.ifCond .eq 5, 3) := by decide +kernel
theorem dd_lw_law_676 : decode code 676 = .ok (.iconst 0, 1) := by decide +kernel
theorem dd_lw_law_677 : decode code 677 = .ok (.ireturn, 1) := by decide +kernel
theorem dd_lw_law_678 : decode code 678 = .ok (.goto 857, 3) := by decide +kernel
theorem dd_lw_law_681 : decode code 681 = .ok (.aload_n 1, 1) := by decide +kernel
theorem dd_lw_law_682 : decode code 682 = .ok (.aload_n 0, 1) := by decide +kernel
theorem dd_lw_law_683 : decode code 683 = .ok (.iload 4, 2) := by decide +kernel
theorem dd_lw_law_685 : decode code 685 = .ok (.iconst 1, 1) := by decide +kernel
theorem dd_lw_law_686 : decode code 686 = .ok (.iadd, 1) := by decide +kernel
theorem dd_lw_law_687 : decode code 687 = .ok (.iaload, 1) := by decide +kernel
theorem dd_lw_law_688 : decode code 688 = .ok (.aload_n 0, 1) := by decide +kernel
theorem dd_lw_law_689 : decode code 689 = .ok (.iload 4, 2) := by decide +kernel
theorem dd_lw_law_691 : decode code 691 = .ok (.iconst 2, 1) := by decide +kernel
theorem dd_lw_law_692 : decode code 692 = .ok (.iadd, 1) := by decide +kernel
theorem dd_lw_law_693 : decode code 693 = .ok (.iaload, 1) := by decide +kernel
theorem dd_lw_law_694 : decode code 694 = .ok (.aload_n 3, 1) := by decide +kernel
theorem dd_lw_law_695 : decode code 695 = .ok (.invokestatic 124, 3) := by decide +kernel
theorem dd_lw_law_698 : decode code 698 = .ok (.istore 5, 2) := by decide +kernel
theorem dd_lw_law_700 : decode code 700 = .ok (.aload_n 2, 1) := by decide +kernel
theorem dd_lw_law_701 : decode code 701 = .ok (.aload_n 0, 1) := by decide +kernel
theorem dd_lw_law_702 : decode code 702 = .ok (.iload 4, 2) := by decide +kernel
theorem dd_lw_law_704 : decode code 704 = .ok (.iconst 1, 1) := by decide +kernel
theorem dd_lw_law_705 : decode code 705 = .ok (.iadd, 1) := by decide +kernel
theorem dd_lw_law_706 : decode code 706 = .ok (.iaload, 1) := by decide +kernel
theorem dd_lw_law_707 : decode code 707 = .ok (.aload_n 0, 1) := by decide +kernel
theorem dd_lw_law_708 : decode code 708 = .ok (.iload 4, 2) := by decide +kernel
theorem dd_lw_law_710 : decode code 710 = .ok (.iconst 2, 1) := by decide +kernel
theorem dd_lw_law_711 : decode code 711 = .ok (.iadd, 1) := by decide +kernel
theorem dd_lw_law_712 : decode code 712 = .ok (.iaload, 1) := by decide +kernel
theorem dd_lw_law_713 : decode code 713 = .ok (.invokevirtual 126, 3) := by decide +kernel
theorem dd_lw_law_716 : decode code 716 = .ok (.istore 6, 2) := by decide +kernel
theorem dd_lw_law_718 : decode code 718 = .ok (.aload_n 2, 1) := by decide +kernel
theorem dd_lw_law_719 : decode code 719 = .ok (.invokevirtual 97, 3) := by decide +kernel
theorem dd_lw_law_722 : decode code 722 = .ok (.iload 5, 2) := by decide +kernel
theorem dd_lw_law_724 : decode code 724 = .ok (.if_icmp .eq 5, 3) := by decide +kernel
theorem dd_lw_law_727 : decode code 727 = .ok (.iconst 0, 1) := by decide +kernel
theorem dd_lw_law_728 : decode code 728 = .ok (.ireturn, 1) := by decide +kernel
theorem dd_lw_law_729 : decode code 729 = .ok (.iload 5, 2) := by decide +kernel
theorem dd_lw_law_731 : decode code 731 = .ok (.ifCond .ne 22, 3) := by decide +kernel
theorem dd_lw_law_734 : decode code 734 = .ok (.aload_n 3, 1) := by decide +kernel
theorem dd_lw_law_735 : decode code 735 = .ok (.iconst 0, 1) := by decide +kernel
theorem dd_lw_law_736 : decode code 736 = .ok (.laload, 1) := by decide +kernel
theorem dd_lw_law_737 : decode code 737 = .ok (.iload 6, 2) := by decide +kernel
theorem dd_lw_law_739 : decode code 739 = .ok (.ifCond .eq 7, 3) := by decide +kernel
theorem dd_lw_law_742 : decode code 742 = .ok (.lconst 1, 1) := by decide +kernel
theorem dd_lw_law_743 : decode code 743 = .ok (.goto 4, 3) := by decide +kernel
theorem dd_lw_law_746 : decode code 746 = .ok (.lconst 0, 1) := by decide +kernel
theorem dd_lw_law_747 : decode code 747 = .ok (.lcmp, 1) := by decide +kernel
theorem dd_lw_law_748 : decode code 748 = .ok (.ifCond .eq 5, 3) := by decide +kernel
theorem dd_lw_law_751 : decode code 751 = .ok (.iconst 0, 1) := by decide +kernel
theorem dd_lw_law_752 : decode code 752 = .ok (.ireturn, 1) := by decide +kernel
theorem dd_lw_law_753 : decode code 753 = .ok (.goto 782, 3) := by decide +kernel
theorem dd_lw_law_756 : decode code 756 = .ok (.aload_n 1, 1) := by decide +kernel
theorem dd_lw_law_757 : decode code 757 = .ok (.aload_n 0, 1) := by decide +kernel
theorem dd_lw_law_758 : decode code 758 = .ok (.iload 4, 2) := by decide +kernel
theorem dd_lw_law_760 : decode code 760 = .ok (.iconst 1, 1) := by decide +kernel
theorem dd_lw_law_761 : decode code 761 = .ok (.iadd, 1) := by decide +kernel
theorem dd_lw_law_762 : decode code 762 = .ok (.iaload, 1) := by decide +kernel
theorem dd_lw_law_763 : decode code 763 = .ok (.aload_n 0, 1) := by decide +kernel
theorem dd_lw_law_764 : decode code 764 = .ok (.iload 4, 2) := by decide +kernel
theorem dd_lw_law_766 : decode code 766 = .ok (.iconst 2, 1) := by decide +kernel
theorem dd_lw_law_767 : decode code 767 = .ok (.iadd, 1) := by decide +kernel
theorem dd_lw_law_768 : decode code 768 = .ok (.iaload, 1) := by decide +kernel
theorem dd_lw_law_769 : decode code 769 = .ok (.aload_n 0, 1) := by decide +kernel
theorem dd_lw_law_770 : decode code 770 = .ok (.iload 4, 2) := by decide +kernel
theorem dd_lw_law_772 : decode code 772 = .ok (.iconst 3, 1) := by decide +kernel
theorem dd_lw_law_773 : decode code 773 = .ok (.iadd, 1) := by decide +kernel
theorem dd_lw_law_774 : decode code 774 = .ok (.iaload, 1) := by decide +kernel
theorem dd_lw_law_775 : decode code 775 = .ok (.aload_n 3, 1) := by decide +kernel
theorem dd_lw_law_776 : decode code 776 = .ok (.invokestatic 127, 3) := by decide +kernel
theorem dd_lw_law_779 : decode code 779 = .ok (.istore 5, 2) := by decide +kernel
theorem dd_lw_law_781 : decode code 781 = .ok (.aload_n 2, 1) := by decide +kernel
theorem dd_lw_law_782 : decode code 782 = .ok (.aload_n 0, 1) := by decide +kernel
theorem dd_lw_law_783 : decode code 783 = .ok (.iload 4, 2) := by decide +kernel
theorem dd_lw_law_785 : decode code 785 = .ok (.iconst 1, 1) := by decide +kernel
theorem dd_lw_law_786 : decode code 786 = .ok (.iadd, 1) := by decide +kernel
theorem dd_lw_law_787 : decode code 787 = .ok (.iaload, 1) := by decide +kernel
theorem dd_lw_law_788 : decode code 788 = .ok (.aload_n 0, 1) := by decide +kernel
theorem dd_lw_law_789 : decode code 789 = .ok (.iload 4, 2) := by decide +kernel
theorem dd_lw_law_791 : decode code 791 = .ok (.iconst 2, 1) := by decide +kernel
theorem dd_lw_law_792 : decode code 792 = .ok (.iadd, 1) := by decide +kernel
theorem dd_lw_law_793 : decode code 793 = .ok (.iaload, 1) := by decide +kernel
theorem dd_lw_law_794 : decode code 794 = .ok (.aload_n 0, 1) := by decide +kernel
theorem dd_lw_law_795 : decode code 795 = .ok (.iload 4, 2) := by decide +kernel
theorem dd_lw_law_797 : decode code 797 = .ok (.iconst 3, 1) := by decide +kernel
theorem dd_lw_law_798 : decode code 798 = .ok (.iadd, 1) := by decide +kernel
theorem dd_lw_law_799 : decode code 799 = .ok (.iaload, 1) := by decide +kernel
theorem dd_lw_law_800 : decode code 800 = .ok (.invokevirtual 130, 3) := by decide +kernel
theorem dd_lw_law_803 : decode code 803 = .ok (.istore 6, 2) := by decide +kernel
theorem dd_lw_law_805 : decode code 805 = .ok (.aload_n 2, 1) := by decide +kernel
theorem dd_lw_law_806 : decode code 806 = .ok (.invokevirtual 97, 3) := by decide +kernel
theorem dd_lw_law_809 : decode code 809 = .ok (.iload 5, 2) := by decide +kernel
theorem dd_lw_law_811 : decode code 811 = .ok (.if_icmp .eq 5, 3) := by decide +kernel
theorem dd_lw_law_814 : decode code 814 = .ok (.iconst 0, 1) := by decide +kernel
theorem dd_lw_law_815 : decode code 815 = .ok (.ireturn, 1) := by decide +kernel
theorem dd_lw_law_816 : decode code 816 = .ok (.iload 5, 2) := by decide +kernel
theorem dd_lw_law_818 : decode code 818 = .ok (.ifCond .ne 22, 3) := by decide +kernel
theorem dd_lw_law_821 : decode code 821 = .ok (.aload_n 3, 1) := by decide +kernel
theorem dd_lw_law_822 : decode code 822 = .ok (.iconst 0, 1) := by decide +kernel
theorem dd_lw_law_823 : decode code 823 = .ok (.laload, 1) := by decide +kernel
theorem dd_lw_law_824 : decode code 824 = .ok (.iload 6, 2) := by decide +kernel
theorem dd_lw_law_826 : decode code 826 = .ok (.ifCond .eq 7, 3) := by decide +kernel
theorem dd_lw_law_829 : decode code 829 = .ok (.lconst 1, 1) := by decide +kernel
theorem dd_lw_law_830 : decode code 830 = .ok (.goto 4, 3) := by decide +kernel
theorem dd_lw_law_833 : decode code 833 = .ok (.lconst 0, 1) := by decide +kernel
theorem dd_lw_law_834 : decode code 834 = .ok (.lcmp, 1) := by decide +kernel
theorem dd_lw_law_835 : decode code 835 = .ok (.ifCond .eq 5, 3) := by decide +kernel
theorem dd_lw_law_838 : decode code 838 = .ok (.iconst 0, 1) := by decide +kernel
theorem dd_lw_law_839 : decode code 839 = .ok (.ireturn, 1) := by decide +kernel
theorem dd_lw_law_840 : decode code 840 = .ok (.goto 695, 3) := by decide +kernel
theorem dd_lw_law_843 : decode code 843 = .ok (.aload_n 1, 1) := by decide +kernel
theorem dd_lw_law_844 : decode code 844 = .ok (.aload_n 0, 1) := by decide +kernel
theorem dd_lw_law_845 : decode code 845 = .ok (.iload 4, 2) := by decide +kernel
theorem dd_lw_law_847 : decode code 847 = .ok (.iconst 1, 1) := by decide +kernel
theorem dd_lw_law_848 : decode code 848 = .ok (.iadd, 1) := by decide +kernel
theorem dd_lw_law_849 : decode code 849 = .ok (.iaload, 1) := by decide +kernel
theorem dd_lw_law_850 : decode code 850 = .ok (.aload_n 0, 1) := by decide +kernel
theorem dd_lw_law_851 : decode code 851 = .ok (.iload 4, 2) := by decide +kernel
theorem dd_lw_law_853 : decode code 853 = .ok (.iconst 2, 1) := by decide +kernel
theorem dd_lw_law_854 : decode code 854 = .ok (.iadd, 1) := by decide +kernel
theorem dd_lw_law_855 : decode code 855 = .ok (.iaload, 1) := by decide +kernel
theorem dd_lw_law_856 : decode code 856 = .ok (.aload_n 0, 1) := by decide +kernel
theorem dd_lw_law_857 : decode code 857 = .ok (.iload 4, 2) := by decide +kernel
theorem dd_lw_law_859 : decode code 859 = .ok (.iconst 3, 1) := by decide +kernel
theorem dd_lw_law_860 : decode code 860 = .ok (.iadd, 1) := by decide +kernel
theorem dd_lw_law_861 : decode code 861 = .ok (.iaload, 1) := by decide +kernel
theorem dd_lw_law_862 : decode code 862 = .ok (.aload_n 3, 1) := by decide +kernel
theorem dd_lw_law_863 : decode code 863 = .ok (.invokestatic 131, 3) := by decide +kernel
theorem dd_lw_law_866 : decode code 866 = .ok (.istore 5, 2) := by decide +kernel
theorem dd_lw_law_868 : decode code 868 = .ok (.aload_n 2, 1) := by decide +kernel
theorem dd_lw_law_869 : decode code 869 = .ok (.aload_n 0, 1) := by decide +kernel
theorem dd_lw_law_870 : decode code 870 = .ok (.iload 4, 2) := by decide +kernel
theorem dd_lw_law_872 : decode code 872 = .ok (.iconst 1, 1) := by decide +kernel
theorem dd_lw_law_873 : decode code 873 = .ok (.iadd, 1) := by decide +kernel
theorem dd_lw_law_874 : decode code 874 = .ok (.iaload, 1) := by decide +kernel
theorem dd_lw_law_875 : decode code 875 = .ok (.aload_n 0, 1) := by decide +kernel
theorem dd_lw_law_876 : decode code 876 = .ok (.iload 4, 2) := by decide +kernel
theorem dd_lw_law_878 : decode code 878 = .ok (.iconst 2, 1) := by decide +kernel
theorem dd_lw_law_879 : decode code 879 = .ok (.iadd, 1) := by decide +kernel
theorem dd_lw_law_880 : decode code 880 = .ok (.iaload, 1) := by decide +kernel
theorem dd_lw_law_881 : decode code 881 = .ok (.aload_n 0, 1) := by decide +kernel
theorem dd_lw_law_882 : decode code 882 = .ok (.iload 4, 2) := by decide +kernel
theorem dd_lw_law_884 : decode code 884 = .ok (.iconst 3, 1) := by decide +kernel
theorem dd_lw_law_885 : decode code 885 = .ok (.iadd, 1) := by decide +kernel
theorem dd_lw_law_886 : decode code 886 = .ok (.iaload, 1) := by decide +kernel
theorem dd_lw_law_887 : decode code 887 = .ok (.invokevirtual 133, 3) := by decide +kernel
theorem dd_lw_law_890 : decode code 890 = .ok (.istore 6, 2) := by decide +kernel
theorem dd_lw_law_892 : decode code 892 = .ok (.aload_n 2, 1) := by decide +kernel
theorem dd_lw_law_893 : decode code 893 = .ok (.invokevirtual 97, 3) := by decide +kernel
theorem dd_lw_law_896 : decode code 896 = .ok (.iload 5, 2) := by decide +kernel
theorem dd_lw_law_898 : decode code 898 = .ok (.if_icmp .eq 5, 3) := by decide +kernel
theorem dd_lw_law_901 : decode code 901 = .ok (.iconst 0, 1) := by decide +kernel
theorem dd_lw_law_902 : decode code 902 = .ok (.ireturn, 1) := by decide +kernel
theorem dd_lw_law_903 : decode code 903 = .ok (.iload 5, 2) := by decide +kernel
theorem dd_lw_law_905 : decode code 905 = .ok (.ifCond .ne 22, 3) := by decide +kernel
theorem dd_lw_law_908 : decode code 908 = .ok (.aload_n 3, 1) := by decide +kernel
theorem dd_lw_law_909 : decode code 909 = .ok (.iconst 0, 1) := by decide +kernel
theorem dd_lw_law_910 : decode code 910 = .ok (.laload, 1) := by decide +kernel
theorem dd_lw_law_911 : decode code 911 = .ok (.iload 6, 2) := by decide +kernel
theorem dd_lw_law_913 : decode code 913 = .ok (.ifCond .eq 7, 3) := by decide +kernel
theorem dd_lw_law_916 : decode code 916 = .ok (.lconst 1, 1) := by decide +kernel
theorem dd_lw_law_917 : decode code 917 = .ok (.goto 4, 3) := by decide +kernel
theorem dd_lw_law_920 : decode code 920 = .ok (.lconst 0, 1) := by decide +kernel
theorem dd_lw_law_921 : decode code 921 = .ok (.lcmp, 1) := by decide +kernel
theorem dd_lw_law_922 : decode code 922 = .ok (.ifCond .eq 5, 3) := by decide +kernel
theorem dd_lw_law_925 : decode code 925 = .ok (.iconst 0, 1) := by decide +kernel
theorem dd_lw_law_926 : decode code 926 = .ok (.ireturn, 1) := by decide +kernel
theorem dd_lw_law_927 : decode code 927 = .ok (.goto 608, 3) := by decide +kernel
theorem dd_lw_law_930 : decode code 930 = .ok (.aload_n 1, 1) := by decide +kernel
theorem dd_lw_law_931 : decode code 931 = .ok (.aload_n 0, 1) := by decide +kernel
theorem dd_lw_law_932 : decode code 932 = .ok (.iload 4, 2) := by decide +kernel
theorem dd_lw_law_934 : decode code 934 = .ok (.iconst 1, 1) := by decide +kernel
theorem dd_lw_law_935 : decode code 935 = .ok (.iadd, 1) := by decide +kernel
theorem dd_lw_law_936 : decode code 936 = .ok (.iaload, 1) := by decide +kernel
theorem dd_lw_law_937 : decode code 937 = .ok (.aload_n 0, 1) := by decide +kernel
theorem dd_lw_law_938 : decode code 938 = .ok (.iload 4, 2) := by decide +kernel
theorem dd_lw_law_940 : decode code 940 = .ok (.iconst 2, 1) := by decide +kernel
theorem dd_lw_law_941 : decode code 941 = .ok (.iadd, 1) := by decide +kernel
theorem dd_lw_law_942 : decode code 942 = .ok (.iaload, 1) := by decide +kernel
theorem dd_lw_law_943 : decode code 943 = .ok (.ifCond .eq 7, 3) := by decide +kernel
theorem dd_lw_law_946 : decode code 946 = .ok (.iconst 1, 1) := by decide +kernel
theorem dd_lw_law_947 : decode code 947 = .ok (.goto 4, 3) := by decide +kernel
theorem dd_lw_law_950 : decode code 950 = .ok (.iconst 0, 1) := by decide +kernel
theorem dd_lw_law_951 : decode code 951 = .ok (.aload_n 3, 1) := by decide +kernel
theorem dd_lw_law_952 : decode code 952 = .ok (.invokestatic 134, 3) := by decide +kernel
theorem dd_lw_law_955 : decode code 955 = .ok (.istore 5, 2) := by decide +kernel
theorem dd_lw_law_957 : decode code 957 = .ok (.aload_n 2, 1) := by decide +kernel
theorem dd_lw_law_958 : decode code 958 = .ok (.aload_n 0, 1) := by decide +kernel
theorem dd_lw_law_959 : decode code 959 = .ok (.iload 4, 2) := by decide +kernel
theorem dd_lw_law_961 : decode code 961 = .ok (.iconst 1, 1) := by decide +kernel
theorem dd_lw_law_962 : decode code 962 = .ok (.iadd, 1) := by decide +kernel
theorem dd_lw_law_963 : decode code 963 = .ok (.iaload, 1) := by decide +kernel
theorem dd_lw_law_964 : decode code 964 = .ok (.aload_n 0, 1) := by decide +kernel
theorem dd_lw_law_965 : decode code 965 = .ok (.iload 4, 2) := by decide +kernel
theorem dd_lw_law_967 : decode code 967 = .ok (.iconst 2, 1) := by decide +kernel
theorem dd_lw_law_968 : decode code 968 = .ok (.iadd, 1) := by decide +kernel
theorem dd_lw_law_969 : decode code 969 = .ok (.iaload, 1) := by decide +kernel
theorem dd_lw_law_970 : decode code 970 = .ok (.ifCond .eq 7, 3) := by decide +kernel
theorem dd_lw_law_973 : decode code 973 = .ok (.iconst 1, 1) := by decide +kernel
theorem dd_lw_law_974 : decode code 974 = .ok (.goto 4, 3) := by decide +kernel
theorem dd_lw_law_977 : decode code 977 = .ok (.iconst 0, 1) := by decide +kernel
theorem dd_lw_law_978 : decode code 978 = .ok (.invokevirtual 137, 3) := by decide +kernel
theorem dd_lw_law_981 : decode code 981 = .ok (.istore 6, 2) := by decide +kernel
theorem dd_lw_law_983 : decode code 983 = .ok (.aload_n 2, 1) := by decide +kernel
theorem dd_lw_law_984 : decode code 984 = .ok (.invokevirtual 97, 3) := by decide +kernel
theorem dd_lw_law_987 : decode code 987 = .ok (.iload 5, 2) := by decide +kernel
theorem dd_lw_law_989 : decode code 989 = .ok (.if_icmp .eq 5, 3) := by decide +kernel
theorem dd_lw_law_992 : decode code 992 = .ok (.iconst 0, 1) := by decide +kernel
theorem dd_lw_law_993 : decode code 993 = .ok (.ireturn, 1) := by decide +kernel
theorem dd_lw_law_994 : decode code 994 = .ok (.iload 5, 2) := by decide +kernel
theorem dd_lw_law_996 : decode code 996 = .ok (.ifCond .ne 15, 3) := by decide +kernel
theorem dd_lw_law_999 : decode code 999 = .ok (.aload_n 3, 1) := by decide +kernel
theorem dd_lw_law_1000 : decode code 1000 = .ok (.iconst 0, 1) := by decide +kernel
theorem dd_lw_law_1001 : decode code 1001 = .ok (.laload, 1) := by decide +kernel
theorem dd_lw_law_1002 : decode code 1002 = .ok (.iload 6, 2) := by decide +kernel
theorem dd_lw_law_1004 : decode code 1004 = .ok (.i2l, 1) := by decide +kernel
theorem dd_lw_law_1005 : decode code 1005 = .ok (.lcmp, 1) := by decide +kernel
theorem dd_lw_law_1006 : decode code 1006 = .ok (.ifCond .eq 5, 3) := by decide +kernel
theorem dd_lw_law_1009 : decode code 1009 = .ok (.iconst 0, 1) := by decide +kernel
theorem dd_lw_law_1010 : decode code 1010 = .ok (.ireturn, 1) := by decide +kernel
theorem dd_lw_law_1011 : decode code 1011 = .ok (.goto 524, 3) := by decide +kernel
theorem dd_lw_law_1014 : decode code 1014 = .ok (.aload_n 1, 1) := by decide +kernel
theorem dd_lw_law_1015 : decode code 1015 = .ok (.aload_n 0, 1) := by decide +kernel
theorem dd_lw_law_1016 : decode code 1016 = .ok (.iload 4, 2) := by decide +kernel
theorem dd_lw_law_1018 : decode code 1018 = .ok (.iconst 1, 1) := by decide +kernel
theorem dd_lw_law_1019 : decode code 1019 = .ok (.iadd, 1) := by decide +kernel
theorem dd_lw_law_1020 : decode code 1020 = .ok (.iaload, 1) := by decide +kernel
theorem dd_lw_law_1021 : decode code 1021 = .ok (.aload_n 3, 1) := by decide +kernel
theorem dd_lw_law_1022 : decode code 1022 = .ok (.invokestatic 138, 3) := by decide +kernel
theorem dd_lw_law_1025 : decode code 1025 = .ok (.istore 5, 2) := by decide +kernel
theorem dd_lw_law_1027 : decode code 1027 = .ok (.aload_n 2, 1) := by decide +kernel
theorem dd_lw_law_1028 : decode code 1028 = .ok (.aload_n 0, 1) := by decide +kernel
theorem dd_lw_law_1029 : decode code 1029 = .ok (.iload 4, 2) := by decide +kernel
theorem dd_lw_law_1031 : decode code 1031 = .ok (.iconst 1, 1) := by decide +kernel
theorem dd_lw_law_1032 : decode code 1032 = .ok (.iadd, 1) := by decide +kernel
theorem dd_lw_law_1033 : decode code 1033 = .ok (.iaload, 1) := by decide +kernel
theorem dd_lw_law_1034 : decode code 1034 = .ok (.invokevirtual 141, 3) := by decide +kernel
theorem dd_lw_law_1037 : decode code 1037 = .ok (.istore 6, 2) := by decide +kernel
theorem dd_lw_law_1039 : decode code 1039 = .ok (.aload_n 2, 1) := by decide +kernel
theorem dd_lw_law_1040 : decode code 1040 = .ok (.invokevirtual 97, 3) := by decide +kernel
theorem dd_lw_law_1043 : decode code 1043 = .ok (.iload 5, 2) := by decide +kernel
theorem dd_lw_law_1045 : decode code 1045 = .ok (.if_icmp .eq 5, 3) := by decide +kernel
theorem dd_lw_law_1048 : decode code 1048 = .ok (.iconst 0, 1) := by decide +kernel
theorem dd_lw_law_1049 : decode code 1049 = .ok (.ireturn, 1) := by decide +kernel
theorem dd_lw_law_1050 : decode code 1050 = .ok (.iload 5, 2) := by decide +kernel
theorem dd_lw_law_1052 : decode code 1052 = .ok (.ifCond .ne 15, 3) := by decide +kernel
theorem dd_lw_law_1055 : decode code 1055 = .ok (.aload_n 3, 1) := by decide +kernel
theorem dd_lw_law_1056 : decode code 1056 = .ok (.iconst 0, 1) := by decide +kernel
theorem dd_lw_law_1057 : decode code 1057 = .ok (.laload, 1) := by decide +kernel
theorem dd_lw_law_1058 : decode code 1058 = .ok (.iload 6, 2) := by decide +kernel
theorem dd_lw_law_1060 : decode code 1060 = .ok (.i2l, 1) := by decide +kernel
theorem dd_lw_law_1061 : decode code 1061 = .ok (.lcmp, 1) := by decide +kernel
theorem dd_lw_law_1062 : decode code 1062 = .ok (.ifCond .eq 5, 3) := by decide +kernel
theorem dd_lw_law_1065 : decode code 1065 = .ok (.iconst 0, 1) := by decide +kernel
theorem dd_lw_law_1066 : decode code 1066 = .ok (.ireturn, 1) := by decide +kernel
theorem dd_lw_law_1067 : decode code 1067 = .ok (.goto 468, 3) := by decide +kernel
theorem dd_lw_law_1070 : decode code 1070 = .ok (.aload_n 1, 1) := by decide +kernel
theorem dd_lw_law_1071 : decode code 1071 = .ok (.aload_n 0, 1) := by decide +kernel
theorem dd_lw_law_1072 : decode code 1072 = .ok (.iload 4, 2) := by decide +kernel
theorem dd_lw_law_1074 : decode code 1074 = .ok (.iconst 1, 1) := by decide +kernel
theorem dd_lw_law_1075 : decode code 1075 = .ok (.iadd, 1) := by decide +kernel
theorem dd_lw_law_1076 : decode code 1076 = .ok (.iaload, 1) := by decide +kernel
theorem dd_lw_law_1077 : decode code 1077 = .ok (.invokestatic 142, 3) := by decide +kernel
theorem dd_lw_law_1080 : decode code 1080 = .ok (.istore 5, 2) := by decide +kernel
theorem dd_lw_law_1082 : decode code 1082 = .ok (.aload_n 2, 1) := by decide +kernel
theorem dd_lw_law_1083 : decode code 1083 = .ok (.aload_n 0, 1) := by decide +kernel
theorem dd_lw_law_1084 : decode code 1084 = .ok (.iload 4, 2) := by decide +kernel
theorem dd_lw_law_1086 : decode code 1086 = .ok (.iconst 1, 1) := by decide +kernel
theorem dd_lw_law_1087 : decode code 1087 = .ok (.iadd, 1) := by decide +kernel
theorem dd_lw_law_1088 : decode code 1088 = .ok (.iaload, 1) := by decide +kernel
theorem dd_lw_law_1089 : decode code 1089 = .ok (.invokevirtual 145, 3) := by decide +kernel
theorem dd_lw_law_1092 : decode code 1092 = .ok (.aload_n 2, 1) := by decide +kernel
theorem dd_lw_law_1093 : decode code 1093 = .ok (.invokevirtual 97, 3) := by decide +kernel
theorem dd_lw_law_1096 : decode code 1096 = .ok (.iload 5, 2) := by decide +kernel
theorem dd_lw_law_1098 : decode code 1098 = .ok (.if_icmp .eq 5, 3) := by decide +kernel
theorem dd_lw_law_1101 : decode code 1101 = .ok (.iconst 0, 1) := by decide +kernel
theorem dd_lw_law_1102 : decode code 1102 = .ok (.ireturn, 1) := by decide +kernel
theorem dd_lw_law_1103 : decode code 1103 = .ok (.goto 432, 3) := by decide +kernel
theorem dd_lw_law_1106 : decode code 1106 = .ok (.aload_n 1, 1) := by decide +kernel
theorem dd_lw_law_1107 : decode code 1107 = .ok (.aload_n 0, 1) := by decide +kernel
theorem dd_lw_law_1108 : decode code 1108 = .ok (.iload 4, 2) := by decide +kernel
theorem dd_lw_law_1110 : decode code 1110 = .ok (.iconst 1, 1) := by decide +kernel
theorem dd_lw_law_1111 : decode code 1111 = .ok (.iadd, 1) := by decide +kernel
theorem dd_lw_law_1112 : decode code 1112 = .ok (.iaload, 1) := by decide +kernel
theorem dd_lw_law_1113 : decode code 1113 = .ok (.aload_n 0, 1) := by decide +kernel
theorem dd_lw_law_1114 : decode code 1114 = .ok (.iload 4, 2) := by decide +kernel
theorem dd_lw_law_1116 : decode code 1116 = .ok (.iconst 2, 1) := by decide +kernel
theorem dd_lw_law_1117 : decode code 1117 = .ok (.iadd, 1) := by decide +kernel
theorem dd_lw_law_1118 : decode code 1118 = .ok (.iaload, 1) := by decide +kernel
theorem dd_lw_law_1119 : decode code 1119 = .ok (.aload_n 3, 1) := by decide +kernel
theorem dd_lw_law_1120 : decode code 1120 = .ok (.invokestatic 146, 3) := by decide +kernel
theorem dd_lw_law_1123 : decode code 1123 = .ok (.istore 5, 2) := by decide +kernel
theorem dd_lw_law_1125 : decode code 1125 = .ok (.aload_n 2, 1) := by decide +kernel
theorem dd_lw_law_1126 : decode code 1126 = .ok (.aload_n 0, 1) := by decide +kernel
theorem dd_lw_law_1127 : decode code 1127 = .ok (.iload 4, 2) := by decide +kernel
theorem dd_lw_law_1129 : decode code 1129 = .ok (.iconst 1, 1) := by decide +kernel
theorem dd_lw_law_1130 : decode code 1130 = .ok (.iadd, 1) := by decide +kernel
theorem dd_lw_law_1131 : decode code 1131 = .ok (.iaload, 1) := by decide +kernel
theorem dd_lw_law_1132 : decode code 1132 = .ok (.aload_n 0, 1) := by decide +kernel
theorem dd_lw_law_1133 : decode code 1133 = .ok (.iload 4, 2) := by decide +kernel
theorem dd_lw_law_1135 : decode code 1135 = .ok (.iconst 2, 1) := by decide +kernel
theorem dd_lw_law_1136 : decode code 1136 = .ok (.iadd, 1) := by decide +kernel
theorem dd_lw_law_1137 : decode code 1137 = .ok (.iaload, 1) := by decide +kernel
theorem dd_lw_law_1138 : decode code 1138 = .ok (.invokevirtual 148, 3) := by decide +kernel
theorem dd_lw_law_1141 : decode code 1141 = .ok (.istore 6, 2) := by decide +kernel
theorem dd_lw_law_1143 : decode code 1143 = .ok (.aload_n 2, 1) := by decide +kernel
theorem dd_lw_law_1144 : decode code 1144 = .ok (.invokevirtual 97, 3) := by decide +kernel
theorem dd_lw_law_1147 : decode code 1147 = .ok (.iload 5, 2) := by decide +kernel
theorem dd_lw_law_1149 : decode code 1149 = .ok (.if_icmp .eq 5, 3) := by decide +kernel
theorem dd_lw_law_1152 : decode code 1152 = .ok (.iconst 0, 1) := by decide +kernel
theorem dd_lw_law_1153 : decode code 1153 = .ok (.ireturn, 1) := by decide +kernel
theorem dd_lw_law_1154 : decode code 1154 = .ok (.iload 5, 2) := by decide +kernel
theorem dd_lw_law_1156 : decode code 1156 = .ok (.ifCond .ne 22, 3) := by decide +kernel
theorem dd_lw_law_1159 : decode code 1159 = .ok (.aload_n 3, 1) := by decide +kernel
theorem dd_lw_law_1160 : decode code 1160 = .ok (.iconst 0, 1) := by decide +kernel
theorem dd_lw_law_1161 : decode code 1161 = .ok (.laload, 1) := by decide +kernel
theorem dd_lw_law_1162 : decode code 1162 = .ok (.iload 6, 2) := by decide +kernel
theorem dd_lw_law_1164 : decode code 1164 = .ok (.ifCond .eq 7, 3) := by decide +kernel
theorem dd_lw_law_1167 : decode code 1167 = .ok (.lconst 1, 1) := by decide +kernel
theorem dd_lw_law_1168 : decode code 1168 = .ok (.goto 4, 3) := by decide +kernel
theorem dd_lw_law_1171 : decode code 1171 = .ok (.lconst 0, 1) := by decide +kernel
theorem dd_lw_law_1172 : decode code 1172 = .ok (.lcmp, 1) := by decide +kernel
theorem dd_lw_law_1173 : decode code 1173 = .ok (.ifCond .eq 5, 3) := by decide +kernel
theorem dd_lw_law_1176 : decode code 1176 = .ok (.iconst 0, 1) := by decide +kernel
theorem dd_lw_law_1177 : decode code 1177 = .ok (.ireturn, 1) := by decide +kernel
theorem dd_lw_law_1178 : decode code 1178 = .ok (.goto 357, 3) := by decide +kernel
theorem dd_lw_law_1181 : decode code 1181 = .ok (.aload_n 1, 1) := by decide +kernel
theorem dd_lw_law_1182 : decode code 1182 = .ok (.aload_n 0, 1) := by decide +kernel
theorem dd_lw_law_1183 : decode code 1183 = .ok (.iload 4, 2) := by decide +kernel
theorem dd_lw_law_1185 : decode code 1185 = .ok (.iconst 1, 1) := by decide +kernel
theorem dd_lw_law_1186 : decode code 1186 = .ok (.iadd, 1) := by decide +kernel
theorem dd_lw_law_1187 : decode code 1187 = .ok (.iaload, 1) := by decide +kernel
theorem dd_lw_law_1188 : decode code 1188 = .ok (.aload_n 0, 1) := by decide +kernel
theorem dd_lw_law_1189 : decode code 1189 = .ok (.iload 4, 2) := by decide +kernel
theorem dd_lw_law_1191 : decode code 1191 = .ok (.iconst 2, 1) := by decide +kernel
theorem dd_lw_law_1192 : decode code 1192 = .ok (.iadd, 1) := by decide +kernel
theorem dd_lw_law_1193 : decode code 1193 = .ok (.iaload, 1) := by decide +kernel
theorem dd_lw_law_1194 : decode code 1194 = .ok (.aload_n 3, 1) := by decide +kernel
theorem dd_lw_law_1195 : decode code 1195 = .ok (.invokestatic 149, 3) := by decide +kernel
theorem dd_lw_law_1198 : decode code 1198 = .ok (.istore 5, 2) := by decide +kernel
theorem dd_lw_law_1200 : decode code 1200 = .ok (.aload_n 2, 1) := by decide +kernel
theorem dd_lw_law_1201 : decode code 1201 = .ok (.aload_n 0, 1) := by decide +kernel
theorem dd_lw_law_1202 : decode code 1202 = .ok (.iload 4, 2) := by decide +kernel
theorem dd_lw_law_1204 : decode code 1204 = .ok (.iconst 1, 1) := by decide +kernel
theorem dd_lw_law_1205 : decode code 1205 = .ok (.iadd, 1) := by decide +kernel
theorem dd_lw_law_1206 : decode code 1206 = .ok (.iaload, 1) := by decide +kernel
theorem dd_lw_law_1207 : decode code 1207 = .ok (.aload_n 0, 1) := by decide +kernel
theorem dd_lw_law_1208 : decode code 1208 = .ok (.iload 4, 2) := by decide +kernel
theorem dd_lw_law_1210 : decode code 1210 = .ok (.iconst 2, 1) := by decide +kernel
theorem dd_lw_law_1211 : decode code 1211 = .ok (.iadd, 1) := by decide +kernel
theorem dd_lw_law_1212 : decode code 1212 = .ok (.iaload, 1) := by decide +kernel
theorem dd_lw_law_1213 : decode code 1213 = .ok (.invokevirtual 151, 3) := by decide +kernel
theorem dd_lw_law_1216 : decode code 1216 = .ok (.istore 6, 2) := by decide +kernel
theorem dd_lw_law_1218 : decode code 1218 = .ok (.aload_n 2, 1) := by decide +kernel
theorem dd_lw_law_1219 : decode code 1219 = .ok (.invokevirtual 97, 3) := by decide +kernel
theorem dd_lw_law_1222 : decode code 1222 = .ok (.iload 5, 2) := by decide +kernel
theorem dd_lw_law_1224 : decode code 1224 = .ok (.if_icmp .eq 5, 3) := by decide +kernel
theorem dd_lw_law_1227 : decode code 1227 = .ok (.iconst 0, 1) := by decide +kernel
theorem dd_lw_law_1228 : decode code 1228 = .ok (.ireturn, 1) := by decide +kernel
theorem dd_lw_law_1229 : decode code 1229 = .ok (.iload 5, 2) := by decide +kernel
theorem dd_lw_law_1231 : decode code 1231 = .ok (.ifCond .ne 22, 3) := by decide +kernel
theorem dd_lw_law_1234 : decode code 1234 = .ok (.aload_n 3, 1) := by decide +kernel
theorem dd_lw_law_1235 : decode code 1235 = .ok (.iconst 0, 1) := by decide +kernel
theorem dd_lw_law_1236 : decode code 1236 = .ok (.laload, 1) := by decide +kernel
theorem dd_lw_law_1237 : decode code 1237 = .ok (.iload 6, 2) := by decide +kernel
theorem dd_lw_law_1239 : decode code 1239 = .ok (.ifCond .eq 7, 3) := by decide +kernel
theorem dd_lw_law_1242 : decode code 1242 = .ok (.lconst 1, 1) := by decide +kernel
theorem dd_lw_law_1243 : decode code 1243 = .ok (.goto 4, 3) := by decide +kernel
theorem dd_lw_law_1246 : decode code 1246 = .ok (.lconst 0, 1) := by decide +kernel
theorem dd_lw_law_1247 : decode code 1247 = .ok (.lcmp, 1) := by decide +kernel
theorem dd_lw_law_1248 : decode code 1248 = .ok (.ifCond .eq 5, 3) := by decide +kernel
theorem dd_lw_law_1251 : decode code 1251 = .ok (.iconst 0, 1) := by decide +kernel
theorem dd_lw_law_1252 : decode code 1252 = .ok (.ireturn, 1) := by decide +kernel
theorem dd_lw_law_1253 : decode code 1253 = .ok (.goto 282, 3) := by decide +kernel
theorem dd_lw_law_1256 : decode code 1256 = .ok (.aload_n 1, 1) := by decide +kernel
theorem dd_lw_law_1257 : decode code 1257 = .ok (.aload_n 0, 1) := by decide +kernel
theorem dd_lw_law_1258 : decode code 1258 = .ok (.iload 4, 2) := by decide +kernel
theorem dd_lw_law_1260 : decode code 1260 = .ok (.iconst 1, 1) := by decide +kernel
theorem dd_lw_law_1261 : decode code 1261 = .ok (.iadd, 1) := by decide +kernel
theorem dd_lw_law_1262 : decode code 1262 = .ok (.iaload, 1) := by decide +kernel
theorem dd_lw_law_1263 : decode code 1263 = .ok (.aload_n 3, 1) := by decide +kernel
theorem dd_lw_law_1264 : decode code 1264 = .ok (.invokestatic 152, 3) := by decide +kernel
theorem dd_lw_law_1267 : decode code 1267 = .ok (.istore 5, 2) := by decide +kernel
theorem dd_lw_law_1269 : decode code 1269 = .ok (.aload_n 2, 1) := by decide +kernel
theorem dd_lw_law_1270 : decode code 1270 = .ok (.aload_n 0, 1) := by decide +kernel
theorem dd_lw_law_1271 : decode code 1271 = .ok (.iload 4, 2) := by decide +kernel
theorem dd_lw_law_1273 : decode code 1273 = .ok (.iconst 1, 1) := by decide +kernel
theorem dd_lw_law_1274 : decode code 1274 = .ok (.iadd, 1) := by decide +kernel
theorem dd_lw_law_1275 : decode code 1275 = .ok (.iaload, 1) := by decide +kernel
theorem dd_lw_law_1276 : decode code 1276 = .ok (.invokevirtual 154, 3) := by decide +kernel
theorem dd_lw_law_1279 : decode code 1279 = .ok (.istore 6, 2) := by decide +kernel
theorem dd_lw_law_1281 : decode code 1281 = .ok (.aload_n 2, 1) := by decide +kernel
theorem dd_lw_law_1282 : decode code 1282 = .ok (.invokevirtual 97, 3) := by decide +kernel
theorem dd_lw_law_1285 : decode code 1285 = .ok (.iload 5, 2) := by decide +kernel
theorem dd_lw_law_1287 : decode code 1287 = .ok (.if_icmp .eq 5, 3) := by decide +kernel
theorem dd_lw_law_1290 : decode code 1290 = .ok (.iconst 0, 1) := by decide +kernel
theorem dd_lw_law_1291 : decode code 1291 = .ok (.ireturn, 1) := by decide +kernel
theorem dd_lw_law_1292 : decode code 1292 = .ok (.iload 5, 2) := by decide +kernel
theorem dd_lw_law_1294 : decode code 1294 = .ok (.ifCond .ne 15, 3) := by decide +kernel
theorem dd_lw_law_1297 : decode code 1297 = .ok (.aload_n 3, 1) := by decide +kernel
theorem dd_lw_law_1298 : decode code 1298 = .ok (.iconst 0, 1) := by decide +kernel
theorem dd_lw_law_1299 : decode code 1299 = .ok (.laload, 1) := by decide +kernel
theorem dd_lw_law_1300 : decode code 1300 = .ok (.iload 6, 2) := by decide +kernel
theorem dd_lw_law_1302 : decode code 1302 = .ok (.i2l, 1) := by decide +kernel
theorem dd_lw_law_1303 : decode code 1303 = .ok (.lcmp, 1) := by decide +kernel
theorem dd_lw_law_1304 : decode code 1304 = .ok (.ifCond .eq 5, 3) := by decide +kernel
theorem dd_lw_law_1307 : decode code 1307 = .ok (.iconst 0, 1) := by decide +kernel
theorem dd_lw_law_1308 : decode code 1308 = .ok (.ireturn, 1) := by decide +kernel
theorem dd_lw_law_1309 : decode code 1309 = .ok (.goto 226, 3) := by decide +kernel
theorem dd_lw_law_1312 : decode code 1312 = .ok (.aload_n 1, 1) := by decide +kernel
theorem dd_lw_law_1313 : decode code 1313 = .ok (.aload_n 0, 1) := by decide +kernel
theorem dd_lw_law_1314 : decode code 1314 = .ok (.iload 4, 2) := by decide +kernel
theorem dd_lw_law_1316 : decode code 1316 = .ok (.iconst 1, 1) := by decide +kernel
theorem dd_lw_law_1317 : decode code 1317 = .ok (.iadd, 1) := by decide +kernel
theorem dd_lw_law_1318 : decode code 1318 = .ok (.iaload, 1) := by decide +kernel
theorem dd_lw_law_1319 : decode code 1319 = .ok (.aload_n 0, 1) := by decide +kernel
theorem dd_lw_law_1320 : decode code 1320 = .ok (.iload 4, 2) := by decide +kernel
theorem dd_lw_law_1322 : decode code 1322 = .ok (.iconst 2, 1) := by decide +kernel
theorem dd_lw_law_1323 : decode code 1323 = .ok (.iadd, 1) := by decide +kernel
theorem dd_lw_law_1324 : decode code 1324 = .ok (.iaload, 1) := by decide +kernel
theorem dd_lw_law_1325 : decode code 1325 = .ok (.aload_n 3, 1) := by decide +kernel
theorem dd_lw_law_1326 : decode code 1326 = .ok (.invokestatic 155, 3) := by decide +kernel
theorem dd_lw_law_1329 : decode code 1329 = .ok (.istore 5, 2) := by decide +kernel
theorem dd_lw_law_1331 : decode code 1331 = .ok (.aload_n 2, 1) := by decide +kernel
theorem dd_lw_law_1332 : decode code 1332 = .ok (.aload_n 0, 1) := by decide +kernel
theorem dd_lw_law_1333 : decode code 1333 = .ok (.iload 4, 2) := by decide +kernel
theorem dd_lw_law_1335 : decode code 1335 = .ok (.iconst 1, 1) := by decide +kernel
theorem dd_lw_law_1336 : decode code 1336 = .ok (.iadd, 1) := by decide +kernel
theorem dd_lw_law_1337 : decode code 1337 = .ok (.iaload, 1) := by decide +kernel
theorem dd_lw_law_1338 : decode code 1338 = .ok (.aload_n 0, 1) := by decide +kernel
theorem dd_lw_law_1339 : decode code 1339 = .ok (.iload 4, 2) := by decide +kernel
theorem dd_lw_law_1341 : decode code 1341 = .ok (.iconst 2, 1) := by decide +kernel
theorem dd_lw_law_1342 : decode code 1342 = .ok (.iadd, 1) := by decide +kernel
theorem dd_lw_law_1343 : decode code 1343 = .ok (.iaload, 1) := by decide +kernel
theorem dd_lw_law_1344 : decode code 1344 = .ok (.invokevirtual 157, 3) := by decide +kernel
theorem dd_lw_law_1347 : decode code 1347 = .ok (.istore 6, 2) := by decide +kernel
theorem dd_lw_law_1349 : decode code 1349 = .ok (.aload_n 2, 1) := by decide +kernel
theorem dd_lw_law_1350 : decode code 1350 = .ok (.invokevirtual 97, 3) := by decide +kernel
theorem dd_lw_law_1353 : decode code 1353 = .ok (.iload 5, 2) := by decide +kernel
theorem dd_lw_law_1355 : decode code 1355 = .ok (.if_icmp .eq 5, 3) := by decide +kernel
theorem dd_lw_law_1358 : decode code 1358 = .ok (.iconst 0, 1) := by decide +kernel
theorem dd_lw_law_1359 : decode code 1359 = .ok (.ireturn, 1) := by decide +kernel
theorem dd_lw_law_1360 : decode code 1360 = .ok (.iload 5, 2) := by decide +kernel
theorem dd_lw_law_1362 : decode code 1362 = .ok (.ifCond .ne 22, 3) := by decide +kernel
theorem dd_lw_law_1365 : decode code 1365 = .ok (.aload_n 3, 1) := by decide +kernel
theorem dd_lw_law_1366 : decode code 1366 = .ok (.iconst 0, 1) := by decide +kernel
theorem dd_lw_law_1367 : decode code 1367 = .ok (.laload, 1) := by decide +kernel
theorem dd_lw_law_1368 : decode code 1368 = .ok (.iload 6, 2) := by decide +kernel
theorem dd_lw_law_1370 : decode code 1370 = .ok (.ifCond .eq 7, 3) := by decide +kernel
theorem dd_lw_law_1373 : decode code 1373 = .ok (.lconst 1, 1) := by decide +kernel
theorem dd_lw_law_1374 : decode code 1374 = .ok (.goto 4, 3) := by decide +kernel
theorem dd_lw_law_1377 : decode code 1377 = .ok (.lconst 0, 1) := by decide +kernel
theorem dd_lw_law_1378 : decode code 1378 = .ok (.lcmp, 1) := by decide +kernel
theorem dd_lw_law_1379 : decode code 1379 = .ok (.ifCond .eq 5, 3) := by decide +kernel
theorem dd_lw_law_1382 : decode code 1382 = .ok (.iconst 0, 1) := by decide +kernel
theorem dd_lw_law_1383 : decode code 1383 = .ok (.ireturn, 1) := by decide +kernel
theorem dd_lw_law_1384 : decode code 1384 = .ok (.goto 151, 3) := by decide +kernel
theorem dd_lw_law_1387 : decode code 1387 = .ok (.aload_n 1, 1) := by decide +kernel
theorem dd_lw_law_1388 : decode code 1388 = .ok (.aload_n 0, 1) := by decide +kernel
theorem dd_lw_law_1389 : decode code 1389 = .ok (.iload 4, 2) := by decide +kernel
theorem dd_lw_law_1391 : decode code 1391 = .ok (.iconst 1, 1) := by decide +kernel
theorem dd_lw_law_1392 : decode code 1392 = .ok (.iadd, 1) := by decide +kernel
theorem dd_lw_law_1393 : decode code 1393 = .ok (.iaload, 1) := by decide +kernel
theorem dd_lw_law_1394 : decode code 1394 = .ok (.aload_n 0, 1) := by decide +kernel
theorem dd_lw_law_1395 : decode code 1395 = .ok (.iload 4, 2) := by decide +kernel
theorem dd_lw_law_1397 : decode code 1397 = .ok (.iconst 2, 1) := by decide +kernel
theorem dd_lw_law_1398 : decode code 1398 = .ok (.iadd, 1) := by decide +kernel
theorem dd_lw_law_1399 : decode code 1399 = .ok (.iaload, 1) := by decide +kernel
theorem dd_lw_law_1400 : decode code 1400 = .ok (.aload_n 3, 1) := by decide +kernel
theorem dd_lw_law_1401 : decode code 1401 = .ok (.invokestatic 158, 3) := by decide +kernel
theorem dd_lw_law_1404 : decode code 1404 = .ok (.istore 5, 2) := by decide +kernel
theorem dd_lw_law_1406 : decode code 1406 = .ok (.aload_n 2, 1) := by decide +kernel
theorem dd_lw_law_1407 : decode code 1407 = .ok (.aload_n 0, 1) := by decide +kernel
theorem dd_lw_law_1408 : decode code 1408 = .ok (.iload 4, 2) := by decide +kernel
theorem dd_lw_law_1410 : decode code 1410 = .ok (.iconst 1, 1) := by decide +kernel
theorem dd_lw_law_1411 : decode code 1411 = .ok (.iadd, 1) := by decide +kernel
theorem dd_lw_law_1412 : decode code 1412 = .ok (.iaload, 1) := by decide +kernel
theorem dd_lw_law_1413 : decode code 1413 = .ok (.aload_n 0, 1) := by decide +kernel
theorem dd_lw_law_1414 : decode code 1414 = .ok (.iload 4, 2) := by decide +kernel
theorem dd_lw_law_1416 : decode code 1416 = .ok (.iconst 2, 1) := by decide +kernel
theorem dd_lw_law_1417 : decode code 1417 = .ok (.iadd, 1) := by decide +kernel
theorem dd_lw_law_1418 : decode code 1418 = .ok (.iaload, 1) := by decide +kernel
theorem dd_lw_law_1419 : decode code 1419 = .ok (.invokevirtual 160, 3) := by decide +kernel
theorem dd_lw_law_1422 : decode code 1422 = .ok (.istore 6, 2) := by decide +kernel
theorem dd_lw_law_1424 : decode code 1424 = .ok (.aload_n 2, 1) := by decide +kernel
theorem dd_lw_law_1425 : decode code 1425 = .ok (.invokevirtual 97, 3) := by decide +kernel
theorem dd_lw_law_1428 : decode code 1428 = .ok (.iload 5, 2) := by decide +kernel
theorem dd_lw_law_1430 : decode code 1430 = .ok (.if_icmp .eq 5, 3) := by decide +kernel
theorem dd_lw_law_1433 : decode code 1433 = .ok (.iconst 0, 1) := by decide +kernel
theorem dd_lw_law_1434 : decode code 1434 = .ok (.ireturn, 1) := by decide +kernel
theorem dd_lw_law_1435 : decode code 1435 = .ok (.iload 5, 2) := by decide +kernel
theorem dd_lw_law_1437 : decode code 1437 = .ok (.ifCond .ne 15, 3) := by decide +kernel
theorem dd_lw_law_1440 : decode code 1440 = .ok (.aload_n 3, 1) := by decide +kernel
theorem dd_lw_law_1441 : decode code 1441 = .ok (.iconst 0, 1) := by decide +kernel
theorem dd_lw_law_1442 : decode code 1442 = .ok (.laload, 1) := by decide +kernel
theorem dd_lw_law_1443 : decode code 1443 = .ok (.iload 6, 2) := by decide +kernel
theorem dd_lw_law_1445 : decode code 1445 = .ok (.i2l, 1) := by decide +kernel
theorem dd_lw_law_1446 : decode code 1446 = .ok (.lcmp, 1) := by decide +kernel
theorem dd_lw_law_1447 : decode code 1447 = .ok (.ifCond .eq 5, 3) := by decide +kernel
theorem dd_lw_law_1450 : decode code 1450 = .ok (.iconst 0, 1) := by decide +kernel
theorem dd_lw_law_1451 : decode code 1451 = .ok (.ireturn, 1) := by decide +kernel
theorem dd_lw_law_1452 : decode code 1452 = .ok (.goto 83, 3) := by decide +kernel
theorem dd_lw_law_1455 : decode code 1455 = .ok (.aload_n 1, 1) := by decide +kernel
theorem dd_lw_law_1456 : decode code 1456 = .ok (.aload_n 0, 1) := by decide +kernel
theorem dd_lw_law_1457 : decode code 1457 = .ok (.iload 4, 2) := by decide +kernel
theorem dd_lw_law_1459 : decode code 1459 = .ok (.iconst 1, 1) := by decide +kernel
theorem dd_lw_law_1460 : decode code 1460 = .ok (.iadd, 1) := by decide +kernel
theorem dd_lw_law_1461 : decode code 1461 = .ok (.iaload, 1) := by decide +kernel
theorem dd_lw_law_1462 : decode code 1462 = .ok (.aload_n 0, 1) := by decide +kernel
theorem dd_lw_law_1463 : decode code 1463 = .ok (.iload 4, 2) := by decide +kernel
theorem dd_lw_law_1465 : decode code 1465 = .ok (.iconst 2, 1) := by decide +kernel
theorem dd_lw_law_1466 : decode code 1466 = .ok (.iadd, 1) := by decide +kernel
theorem dd_lw_law_1467 : decode code 1467 = .ok (.iaload, 1) := by decide +kernel
theorem dd_lw_law_1468 : decode code 1468 = .ok (.aload_n 0, 1) := by decide +kernel
theorem dd_lw_law_1469 : decode code 1469 = .ok (.iload 4, 2) := by decide +kernel
theorem dd_lw_law_1471 : decode code 1471 = .ok (.iconst 3, 1) := by decide +kernel
theorem dd_lw_law_1472 : decode code 1472 = .ok (.iadd, 1) := by decide +kernel
theorem dd_lw_law_1473 : decode code 1473 = .ok (.iaload, 1) := by decide +kernel
theorem dd_lw_law_1474 : decode code 1474 = .ok (.aload_n 3, 1) := by decide +kernel
theorem dd_lw_law_1475 : decode code 1475 = .ok (.invokestatic 161, 3) := by decide +kernel
theorem dd_lw_law_1478 : decode code 1478 = .ok (.istore 5, 2) := by decide +kernel
theorem dd_lw_law_1480 : decode code 1480 = .ok (.aload_n 2, 1) := by decide +kernel
theorem dd_lw_law_1481 : decode code 1481 = .ok (.aload_n 0, 1) := by decide +kernel
theorem dd_lw_law_1482 : decode code 1482 = .ok (.iload 4, 2) := by decide +kernel
theorem dd_lw_law_1484 : decode code 1484 = .ok (.iconst 1, 1) := by decide +kernel
theorem dd_lw_law_1485 : decode code 1485 = .ok (.iadd, 1) := by decide +kernel
theorem dd_lw_law_1486 : decode code 1486 = .ok (.iaload, 1) := by decide +kernel
theorem dd_lw_law_1487 : decode code 1487 = .ok (.aload_n 0, 1) := by decide +kernel
theorem dd_lw_law_1488 : decode code 1488 = .ok (.iload 4, 2) := by decide +kernel
theorem dd_lw_law_1490 : decode code 1490 = .ok (.iconst 2, 1) := by decide +kernel
theorem dd_lw_law_1491 : decode code 1491 = .ok (.iadd, 1) := by decide +kernel
theorem dd_lw_law_1492 : decode code 1492 = .ok (.iaload, 1) := by decide +kernel
theorem dd_lw_law_1493 : decode code 1493 = .ok (.aload_n 0, 1) := by decide +kernel
theorem dd_lw_law_1494 : decode code 1494 = .ok (.iload 4, 2) := by decide +kernel
theorem dd_lw_law_1496 : decode code 1496 = .ok (.iconst 3, 1) := by decide +kernel
theorem dd_lw_law_1497 : decode code 1497 = .ok (.iadd, 1) := by decide +kernel
theorem dd_lw_law_1498 : decode code 1498 = .ok (.iaload, 1) := by decide +kernel
theorem dd_lw_law_1499 : decode code 1499 = .ok (.invokevirtual 163, 3) := by decide +kernel
theorem dd_lw_law_1502 : decode code 1502 = .ok (.istore 6, 2) := by decide +kernel
theorem dd_lw_law_1504 : decode code 1504 = .ok (.aload_n 2, 1) := by decide +kernel
theorem dd_lw_law_1505 : decode code 1505 = .ok (.invokevirtual 97, 3) := by decide +kernel
theorem dd_lw_law_1508 : decode code 1508 = .ok (.iload 5, 2) := by decide +kernel
theorem dd_lw_law_1510 : decode code 1510 = .ok (.if_icmp .eq 5, 3) := by decide +kernel
theorem dd_lw_law_1513 : decode code 1513 = .ok (.iconst 0, 1) := by decide +kernel
theorem dd_lw_law_1514 : decode code 1514 = .ok (.ireturn, 1) := by decide +kernel
theorem dd_lw_law_1515 : decode code 1515 = .ok (.iload 5, 2) := by decide +kernel
theorem dd_lw_law_1517 : decode code 1517 = .ok (.ifCond .ne 15, 3) := by decide +kernel
theorem dd_lw_law_1520 : decode code 1520 = .ok (.aload_n 3, 1) := by decide +kernel
theorem dd_lw_law_1521 : decode code 1521 = .ok (.iconst 0, 1) := by decide +kernel
theorem dd_lw_law_1522 : decode code 1522 = .ok (.laload, 1) := by decide +kernel
theorem dd_lw_law_1523 : decode code 1523 = .ok (.iload 6, 2) := by decide +kernel
theorem dd_lw_law_1525 : decode code 1525 = .ok (.i2l, 1) := by decide +kernel
theorem dd_lw_law_1526 : decode code 1526 = .ok (.lcmp, 1) := by decide +kernel
theorem dd_lw_law_1527 : decode code 1527 = .ok (.ifCond .eq 5, 3) := by decide +kernel
theorem dd_lw_law_1530 : decode code 1530 = .ok (.iconst 0, 1) := by decide +kernel
theorem dd_lw_law_1531 : decode code 1531 = .ok (.ireturn, 1) := by decide +kernel
theorem dd_lw_law_1532 : decode code 1532 = .ok (.goto 3, 3) := by decide +kernel
theorem dd_lw_law_1535 : decode code 1535 = .ok (.iinc 4 5, 3) := by decide +kernel
theorem dd_lw_law_1538 : decode code 1538 = .ok (.goto (-1515), 3) := by decide +kernel
theorem dd_lw_law_1541 : decode code 1541 = .ok (.iconst 1, 1) := by decide +kernel
theorem dd_lw_law_1542 : decode code 1542 = .ok (.ireturn, 1) := by decide +kernel
end
section
-- ===== PART A: goes FIRST, ahead of the names: the tables' words, and 'selects' of the private methods out of them =====
/-- a private method of a class that the tables say can be made, by its rows of tables_1 -/
def lw_okq (q : MethodName × Nat) : Prop := (q.1.cls ≠ "java/lang/invoke/MethodHandle" ∧ q.1.cls ≠ "java/lang/invoke/VarHandle") ∧ Cond.instantiable q.1.cls q.2 ∈ tables_1 ∧ Cond.privateMethod q.1 ∈ tables_1 ∧ Cond.instanceMethod q.1 ∈ tables_1
theorem lw_p0 : lw_okq (⟨"java/lang/Throwable", "fillInStackTrace", "(I)Ljava/lang/Throwable;"⟩, 6) := ⟨⟨by decide +kernel, by decide +kernel⟩, List.mem_of_getElem? (i := 183) (by decide +kernel), List.mem_of_getElem? (i := 181) (by decide +kernel), List.mem_of_getElem? (i := 182) (by decide +kernel)⟩
theorem lw_p1 : lw_okq (⟨"RoleAnalyser", "checkRole", "(I)V"⟩, 7) := ⟨⟨by decide +kernel, by decide +kernel⟩, List.mem_of_getElem? (i := 25) (by decide +kernel), List.mem_of_getElem? (i := 230) (by decide +kernel), List.mem_of_getElem? (i := 231) (by decide +kernel)⟩
theorem lw_p2 : lw_okq (⟨"RoleAnalyser", "authorizedRoles", "(I)I"⟩, 7) := ⟨⟨by decide +kernel, by decide +kernel⟩, List.mem_of_getElem? (i := 25) (by decide +kernel), List.mem_of_getElem? (i := 273) (by decide +kernel), List.mem_of_getElem? (i := 274) (by decide +kernel)⟩
theorem lw_p3 : lw_okq (⟨"RoleAnalyser", "checkStaticLimits", "(I)V"⟩, 7) := ⟨⟨by decide +kernel, by decide +kernel⟩, List.mem_of_getElem? (i := 25) (by decide +kernel), List.mem_of_getElem? (i := 281) (by decide +kernel), List.mem_of_getElem? (i := 282) (by decide +kernel)⟩
theorem lw_p4 : lw_okq (⟨"RoleAnalyser", "isKeptBySessions", "(LRoleAnalyser$Limit;)Z"⟩, 7) := ⟨⟨by decide +kernel, by decide +kernel⟩, List.mem_of_getElem? (i := 25) (by decide +kernel), List.mem_of_getElem? (i := 360) (by decide +kernel), List.mem_of_getElem? (i := 361) (by decide +kernel)⟩
theorem lw_p5 : lw_okq (⟨"RoleAnalyser", "isKeptByUsers", "(LRoleAnalyser$Limit;)Z"⟩, 7) := ⟨⟨by decide +kernel, by decide +kernel⟩, List.mem_of_getElem? (i := 25) (by decide +kernel), List.mem_of_getElem? (i := 364) (by decide +kernel), List.mem_of_getElem? (i := 365) (by decide +kernel)⟩
theorem lw_p6 : lw_okq (⟨"java/util/ArrayList", "add", "(Ljava/lang/Object;[Ljava/lang/Object;I)V"⟩, 3) := ⟨⟨by decide +kernel, by decide +kernel⟩, List.mem_of_getElem? (i := 39) (by decide +kernel), List.mem_of_getElem? (i := 373) (by decide +kernel), List.mem_of_getElem? (i := 374) (by decide +kernel)⟩
theorem lw_p7 : lw_okq (⟨"java/util/ArrayList", "grow", "()[Ljava/lang/Object;"⟩, 3) := ⟨⟨by decide +kernel, by decide +kernel⟩, List.mem_of_getElem? (i := 39) (by decide +kernel), List.mem_of_getElem? (i := 377) (by decide +kernel), List.mem_of_getElem? (i := 378) (by decide +kernel)⟩
theorem lw_p8 : lw_okq (⟨"java/util/ArrayList", "grow", "(I)[Ljava/lang/Object;"⟩, 3) := ⟨⟨by decide +kernel, by decide +kernel⟩, List.mem_of_getElem? (i := 39) (by decide +kernel), List.mem_of_getElem? (i := 381) (by decide +kernel), List.mem_of_getElem? (i := 382) (by decide +kernel)⟩
theorem lw_p9 : lw_okq (⟨"RoleAnalyser", "checkRoomForRule", "()V"⟩, 7) := ⟨⟨by decide +kernel, by decide +kernel⟩, List.mem_of_getElem? (i := 25) (by decide +kernel), List.mem_of_getElem? (i := 434) (by decide +kernel), List.mem_of_getElem? (i := 435) (by decide +kernel)⟩
theorem lw_p10 : lw_okq (⟨"RoleAnalyser", "checkUser", "(I)V"⟩, 7) := ⟨⟨by decide +kernel, by decide +kernel⟩, List.mem_of_getElem? (i := 25) (by decide +kernel), List.mem_of_getElem? (i := 481) (by decide +kernel), List.mem_of_getElem? (i := 482) (by decide +kernel)⟩
theorem lw_p11 : lw_okq (⟨"RoleAnalyser", "addAssignment", "(II)Z"⟩, 7) := ⟨⟨by decide +kernel, by decide +kernel⟩, List.mem_of_getElem? (i := 25) (by decide +kernel), List.mem_of_getElem? (i := 486) (by decide +kernel), List.mem_of_getElem? (i := 487) (by decide +kernel)⟩
theorem lw_p12 : lw_okq (⟨"RoleAnalyser", "dropAssignment", "(II)Z"⟩, 7) := ⟨⟨by decide +kernel, by decide +kernel⟩, List.mem_of_getElem? (i := 25) (by decide +kernel), List.mem_of_getElem? (i := 497) (by decide +kernel), List.mem_of_getElem? (i := 498) (by decide +kernel)⟩
theorem lw_p13 : lw_okq (⟨"RoleAnalyser", "checkLeave", "(ZIII)V"⟩, 7) := ⟨⟨by decide +kernel, by decide +kernel⟩, List.mem_of_getElem? (i := 25) (by decide +kernel), List.mem_of_getElem? (i := 509) (by decide +kernel), List.mem_of_getElem? (i := 510) (by decide +kernel)⟩
theorem lw_p14 : lw_okq (⟨"RoleAnalyser", "checkSession", "(I)V"⟩, 7) := ⟨⟨by decide +kernel, by decide +kernel⟩, List.mem_of_getElem? (i := 25) (by decide +kernel), List.mem_of_getElem? (i := 573) (by decide +kernel), List.mem_of_getElem? (i := 574) (by decide +kernel)⟩
theorem lw_p15 : lw_okq (⟨"RoleAnalyser", "checkQuestion", "(II)V"⟩, 7) := ⟨⟨by decide +kernel, by decide +kernel⟩, List.mem_of_getElem? (i := 25) (by decide +kernel), List.mem_of_getElem? (i := 615) (by decide +kernel), List.mem_of_getElem? (i := 616) (by decide +kernel)⟩
def lw_privs_1 : List (MethodName × Nat) := [(⟨"java/lang/Throwable", "fillInStackTrace", "(I)Ljava/lang/Throwable;"⟩, 6), (⟨"RoleAnalyser", "checkRole", "(I)V"⟩, 7), (⟨"RoleAnalyser", "authorizedRoles", "(I)I"⟩, 7), (⟨"RoleAnalyser", "checkStaticLimits", "(I)V"⟩, 7), (⟨"RoleAnalyser", "isKeptBySessions", "(LRoleAnalyser$Limit;)Z"⟩, 7), (⟨"RoleAnalyser", "isKeptByUsers", "(LRoleAnalyser$Limit;)Z"⟩, 7), (⟨"java/util/ArrayList", "add", "(Ljava/lang/Object;[Ljava/lang/Object;I)V"⟩, 3), (⟨"java/util/ArrayList", "grow", "()[Ljava/lang/Object;"⟩, 3), (⟨"java/util/ArrayList", "grow", "(I)[Ljava/lang/Object;"⟩, 3), (⟨"RoleAnalyser", "checkRoomForRule", "()V"⟩, 7), (⟨"RoleAnalyser", "checkUser", "(I)V"⟩, 7), (⟨"RoleAnalyser", "addAssignment", "(II)Z"⟩, 7), (⟨"RoleAnalyser", "dropAssignment", "(II)Z"⟩, 7), (⟨"RoleAnalyser", "checkLeave", "(ZIII)V"⟩, 7), (⟨"RoleAnalyser", "checkSession", "(I)V"⟩, 7), (⟨"RoleAnalyser", "checkQuestion", "(II)V"⟩, 7)]
theorem lw_r1 : ∀ q ∈ lw_privs_1, lw_okq q := List.forall_mem_cons.mpr ⟨lw_p0, List.forall_mem_cons.mpr ⟨lw_p1, List.forall_mem_cons.mpr ⟨lw_p2, List.forall_mem_cons.mpr ⟨lw_p3, List.forall_mem_cons.mpr ⟨lw_p4, List.forall_mem_cons.mpr ⟨lw_p5, List.forall_mem_cons.mpr ⟨lw_p6, List.forall_mem_cons.mpr ⟨lw_p7, List.forall_mem_cons.mpr ⟨lw_p8, List.forall_mem_cons.mpr ⟨lw_p9, List.forall_mem_cons.mpr ⟨lw_p10, List.forall_mem_cons.mpr ⟨lw_p11, List.forall_mem_cons.mpr ⟨lw_p12, List.forall_mem_cons.mpr ⟨lw_p13, List.forall_mem_cons.mpr ⟨lw_p14, List.forall_mem_cons.mpr ⟨lw_p15, fun _ h => absurd h List.not_mem_nil⟩⟩⟩⟩⟩⟩⟩⟩⟩⟩⟩⟩⟩⟩⟩⟩
theorem lw_p16 : lw_okq (⟨"RoleAnalyser$Search", "begin", "([I)V"⟩, 5) := ⟨⟨by decide +kernel, by decide +kernel⟩, List.mem_of_getElem? (i := 89) (by decide +kernel), List.mem_of_getElem? (i := 624) (by decide +kernel), List.mem_of_getElem? (i := 625) (by decide +kernel)⟩
theorem lw_p17 : lw_okq (⟨"RoleAnalyser$Search", "pairBit", "(II)I"⟩, 5) := ⟨⟨by decide +kernel, by decide +kernel⟩, List.mem_of_getElem? (i := 89) (by decide +kernel), List.mem_of_getElem? (i := 628) (by decide +kernel), List.mem_of_getElem? (i := 629) (by decide +kernel)⟩
theorem lw_p18 : lw_okq (⟨"RoleAnalyser$Search", "reach", "(II)V"⟩, 5) := ⟨⟨by decide +kernel, by decide +kernel⟩, List.mem_of_getElem? (i := 89) (by decide +kernel), List.mem_of_getElem? (i := 633) (by decide +kernel), List.mem_of_getElem? (i := 634) (by decide +kernel)⟩
theorem lw_p19 : lw_okq (⟨"RoleAnalyser$Search", "authorizedIn", "(II)I"⟩, 5) := ⟨⟨by decide +kernel, by decide +kernel⟩, List.mem_of_getElem? (i := 89) (by decide +kernel), List.mem_of_getElem? (i := 637) (by decide +kernel), List.mem_of_getElem? (i := 638) (by decide +kernel)⟩
theorem lw_p20 : lw_okq (⟨"RoleAnalyser$Search", "assignedIn", "(II)I"⟩, 5) := ⟨⟨by decide +kernel, by decide +kernel⟩, List.mem_of_getElem? (i := 89) (by decide +kernel), List.mem_of_getElem? (i := 641) (by decide +kernel), List.mem_of_getElem? (i := 642) (by decide +kernel)⟩
theorem lw_p21 : lw_okq (⟨"RoleAnalyser$Search", "takeSteps", "(I)V"⟩, 5) := ⟨⟨by decide +kernel, by decide +kernel⟩, List.mem_of_getElem? (i := 89) (by decide +kernel), List.mem_of_getElem? (i := 646) (by decide +kernel), List.mem_of_getElem? (i := 647) (by decide +kernel)⟩
theorem lw_p22 : lw_okq (⟨"RoleAnalyser$Search", "authorizedOfAll", "(I)I"⟩, 5) := ⟨⟨by decide +kernel, by decide +kernel⟩, List.mem_of_getElem? (i := 89) (by decide +kernel), List.mem_of_getElem? (i := 650) (by decide +kernel), List.mem_of_getElem? (i := 651) (by decide +kernel)⟩
theorem lw_p23 : lw_okq (⟨"RoleAnalyser$Search", "isStep", "(III)Z"⟩, 5) := ⟨⟨by decide +kernel, by decide +kernel⟩, List.mem_of_getElem? (i := 89) (by decide +kernel), List.mem_of_getElem? (i := 654) (by decide +kernel), List.mem_of_getElem? (i := 655) (by decide +kernel)⟩
theorem lw_p24 : lw_okq (⟨"RoleAnalyser$Search", "stateBefore", "(I)I"⟩, 5) := ⟨⟨by decide +kernel, by decide +kernel⟩, List.mem_of_getElem? (i := 89) (by decide +kernel), List.mem_of_getElem? (i := 664) (by decide +kernel), List.mem_of_getElem? (i := 665) (by decide +kernel)⟩
theorem lw_p25 : lw_okq (⟨"RoleAnalyserModel", "when", "(ZI)Z"⟩, 24) := ⟨⟨by decide +kernel, by decide +kernel⟩, List.mem_of_getElem? (i := 681) (by decide +kernel), List.mem_of_getElem? (i := 769) (by decide +kernel), List.mem_of_getElem? (i := 770) (by decide +kernel)⟩
theorem lw_p26 : lw_okq (⟨"RoleAnalyserModel", "isRole", "(I)Z"⟩, 24) := ⟨⟨by decide +kernel, by decide +kernel⟩, List.mem_of_getElem? (i := 681) (by decide +kernel), List.mem_of_getElem? (i := 781) (by decide +kernel), List.mem_of_getElem? (i := 782) (by decide +kernel)⟩
theorem lw_p27 : lw_okq (⟨"RoleAnalyserModel", "allStaticKept", "()Z"⟩, 24) := ⟨⟨by decide +kernel, by decide +kernel⟩, List.mem_of_getElem? (i := 681) (by decide +kernel), List.mem_of_getElem? (i := 785) (by decide +kernel), List.mem_of_getElem? (i := 786) (by decide +kernel)⟩
theorem lw_p28 : lw_okq (⟨"RoleAnalyserModel", "staticKept", "(I)Z"⟩, 24) := ⟨⟨by decide +kernel, by decide +kernel⟩, List.mem_of_getElem? (i := 681) (by decide +kernel), List.mem_of_getElem? (i := 789) (by decide +kernel), List.mem_of_getElem? (i := 790) (by decide +kernel)⟩
theorem lw_p29 : lw_okq (⟨"RoleAnalyserModel", "closed", "(I)I"⟩, 24) := ⟨⟨by decide +kernel, by decide +kernel⟩, List.mem_of_getElem? (i := 681) (by decide +kernel), List.mem_of_getElem? (i := 793) (by decide +kernel), List.mem_of_getElem? (i := 794) (by decide +kernel)⟩
theorem lw_p30 : lw_okq (⟨"RoleAnalyserModel", "dynamicKept", "(I)Z"⟩, 24) := ⟨⟨by decide +kernel, by decide +kernel⟩, List.mem_of_getElem? (i := 681) (by decide +kernel), List.mem_of_getElem? (i := 808) (by decide +kernel), List.mem_of_getElem? (i := 809) (by decide +kernel)⟩
theorem lw_p31 : lw_okq (⟨"RoleAnalyserModel", "addRule", "(ZIIII)I"⟩, 24) := ⟨⟨by decide +kernel, by decide +kernel⟩, List.mem_of_getElem? (i := 681) (by decide +kernel), List.mem_of_getElem? (i := 819) (by decide +kernel), List.mem_of_getElem? (i := 820) (by decide +kernel)⟩
def lw_privs_2 : List (MethodName × Nat) := [(⟨"RoleAnalyser$Search", "begin", "([I)V"⟩, 5), (⟨"RoleAnalyser$Search", "pairBit", "(II)I"⟩, 5), (⟨"RoleAnalyser$Search", "reach", "(II)V"⟩, 5), (⟨"RoleAnalyser$Search", "authorizedIn", "(II)I"⟩, 5), (⟨"RoleAnalyser$Search", "assignedIn", "(II)I"⟩, 5), (⟨"RoleAnalyser$Search", "takeSteps", "(I)V"⟩, 5), (⟨"RoleAnalyser$Search", "authorizedOfAll", "(I)I"⟩, 5), (⟨"RoleAnalyser$Search", "isStep", "(III)Z"⟩, 5), (⟨"RoleAnalyser$Search", "stateBefore", "(I)I"⟩, 5), (⟨"RoleAnalyserModel", "when", "(ZI)Z"⟩, 24), (⟨"RoleAnalyserModel", "isRole", "(I)Z"⟩, 24), (⟨"RoleAnalyserModel", "allStaticKept", "()Z"⟩, 24), (⟨"RoleAnalyserModel", "staticKept", "(I)Z"⟩, 24), (⟨"RoleAnalyserModel", "closed", "(I)I"⟩, 24), (⟨"RoleAnalyserModel", "dynamicKept", "(I)Z"⟩, 24), (⟨"RoleAnalyserModel", "addRule", "(ZIIII)I"⟩, 24)]
theorem lw_r2 : ∀ q ∈ lw_privs_2, lw_okq q := List.forall_mem_cons.mpr ⟨lw_p16, List.forall_mem_cons.mpr ⟨lw_p17, List.forall_mem_cons.mpr ⟨lw_p18, List.forall_mem_cons.mpr ⟨lw_p19, List.forall_mem_cons.mpr ⟨lw_p20, List.forall_mem_cons.mpr ⟨lw_p21, List.forall_mem_cons.mpr ⟨lw_p22, List.forall_mem_cons.mpr ⟨lw_p23, List.forall_mem_cons.mpr ⟨lw_p24, List.forall_mem_cons.mpr ⟨lw_p25, List.forall_mem_cons.mpr ⟨lw_p26, List.forall_mem_cons.mpr ⟨lw_p27, List.forall_mem_cons.mpr ⟨lw_p28, List.forall_mem_cons.mpr ⟨lw_p29, List.forall_mem_cons.mpr ⟨lw_p30, List.forall_mem_cons.mpr ⟨lw_p31, fun _ h => absurd h List.not_mem_nil⟩⟩⟩⟩⟩⟩⟩⟩⟩⟩⟩⟩⟩⟩⟩⟩
theorem lw_p32 : lw_okq (⟨"RoleAnalyserModel", "isUser", "(I)Z"⟩, 24) := ⟨⟨by decide +kernel, by decide +kernel⟩, List.mem_of_getElem? (i := 681) (by decide +kernel), List.mem_of_getElem? (i := 831) (by decide +kernel), List.mem_of_getElem? (i := 832) (by decide +kernel)⟩
theorem lw_p33 : lw_okq (⟨"RoleAnalyserModel", "put", "(III)Z"⟩, 24) := ⟨⟨by decide +kernel, by decide +kernel⟩, List.mem_of_getElem? (i := 681) (by decide +kernel), List.mem_of_getElem? (i := 835) (by decide +kernel), List.mem_of_getElem? (i := 836) (by decide +kernel)⟩
theorem lw_p34 : lw_okq (⟨"RoleAnalyserModel", "drop", "(II)Z"⟩, 24) := ⟨⟨by decide +kernel, by decide +kernel⟩, List.mem_of_getElem? (i := 681) (by decide +kernel), List.mem_of_getElem? (i := 843) (by decide +kernel), List.mem_of_getElem? (i := 844) (by decide +kernel)⟩
theorem lw_p35 : lw_okq (⟨"RoleAnalyserModel", "cutSessions", "()V"⟩, 24) := ⟨⟨by decide +kernel, by decide +kernel⟩, List.mem_of_getElem? (i := 681) (by decide +kernel), List.mem_of_getElem? (i := 847) (by decide +kernel), List.mem_of_getElem? (i := 848) (by decide +kernel)⟩
theorem lw_p36 : lw_okq (⟨"RoleAnalyserModel", "lets", "(ZIII)Z"⟩, 24) := ⟨⟨by decide +kernel, by decide +kernel⟩, List.mem_of_getElem? (i := 681) (by decide +kernel), List.mem_of_getElem? (i := 855) (by decide +kernel), List.mem_of_getElem? (i := 856) (by decide +kernel)⟩
theorem lw_p37 : lw_okq (⟨"RoleAnalyserModel", "isSession", "(I)Z"⟩, 24) := ⟨⟨by decide +kernel, by decide +kernel⟩, List.mem_of_getElem? (i := 681) (by decide +kernel), List.mem_of_getElem? (i := 875) (by decide +kernel), List.mem_of_getElem? (i := 876) (by decide +kernel)⟩
theorem lw_p38 : lw_okq (⟨"RoleAnalyserModel", "search", "(II)V"⟩, 24) := ⟨⟨by decide +kernel, by decide +kernel⟩, List.mem_of_getElem? (i := 681) (by decide +kernel), List.mem_of_getElem? (i := 899) (by decide +kernel), List.mem_of_getElem? (i := 900) (by decide +kernel)⟩
theorem lw_p39 : lw_okq (⟨"RoleAnalyserModel", "has", "(III)Z"⟩, 24) := ⟨⟨by decide +kernel, by decide +kernel⟩, List.mem_of_getElem? (i := 681) (by decide +kernel), List.mem_of_getElem? (i := 903) (by decide +kernel), List.mem_of_getElem? (i := 904) (by decide +kernel)⟩
theorem lw_p40 : lw_okq (⟨"RoleAnalyserModel", "rolesIn", "(II)I"⟩, 24) := ⟨⟨by decide +kernel, by decide +kernel⟩, List.mem_of_getElem? (i := 681) (by decide +kernel), List.mem_of_getElem? (i := 907) (by decide +kernel), List.mem_of_getElem? (i := 908) (by decide +kernel)⟩
theorem lw_p41 : lw_okq (⟨"RoleAnalyserModel", "stepTo", "(IIIZ)I"⟩, 24) := ⟨⟨by decide +kernel, by decide +kernel⟩, List.mem_of_getElem? (i := 681) (by decide +kernel), List.mem_of_getElem? (i := 911) (by decide +kernel), List.mem_of_getElem? (i := 912) (by decide +kernel)⟩
theorem lw_p42 : lw_okq (⟨"RoleAnalyserModel", "mark", "(II)V"⟩, 24) := ⟨⟨by decide +kernel, by decide +kernel⟩, List.mem_of_getElem? (i := 681) (by decide +kernel), List.mem_of_getElem? (i := 919) (by decide +kernel), List.mem_of_getElem? (i := 920) (by decide +kernel)⟩
def lw_privs_3 : List (MethodName × Nat) := [(⟨"RoleAnalyserModel", "isUser", "(I)Z"⟩, 24), (⟨"RoleAnalyserModel", "put", "(III)Z"⟩, 24), (⟨"RoleAnalyserModel", "drop", "(II)Z"⟩, 24), (⟨"RoleAnalyserModel", "cutSessions", "()V"⟩, 24), (⟨"RoleAnalyserModel", "lets", "(ZIII)Z"⟩, 24), (⟨"RoleAnalyserModel", "isSession", "(I)Z"⟩, 24), (⟨"RoleAnalyserModel", "search", "(II)V"⟩, 24), (⟨"RoleAnalyserModel", "has", "(III)Z"⟩, 24), (⟨"RoleAnalyserModel", "rolesIn", "(II)I"⟩, 24), (⟨"RoleAnalyserModel", "stepTo", "(IIIZ)I"⟩, 24), (⟨"RoleAnalyserModel", "mark", "(II)V"⟩, 24)]
theorem lw_r3 : ∀ q ∈ lw_privs_3, lw_okq q := List.forall_mem_cons.mpr ⟨lw_p32, List.forall_mem_cons.mpr ⟨lw_p33, List.forall_mem_cons.mpr ⟨lw_p34, List.forall_mem_cons.mpr ⟨lw_p35, List.forall_mem_cons.mpr ⟨lw_p36, List.forall_mem_cons.mpr ⟨lw_p37, List.forall_mem_cons.mpr ⟨lw_p38, List.forall_mem_cons.mpr ⟨lw_p39, List.forall_mem_cons.mpr ⟨lw_p40, List.forall_mem_cons.mpr ⟨lw_p41, List.forall_mem_cons.mpr ⟨lw_p42, fun _ h => absurd h List.not_mem_nil⟩⟩⟩⟩⟩⟩⟩⟩⟩⟩⟩
def lw_privs : List (MethodName × Nat) := lw_privs_1 ++ (lw_privs_2 ++ (lw_privs_3))
def lw_tbl : List Cond := k2_sels lw_privs ++ tables_1
theorem lw_privs_ok : ∀ q ∈ lw_privs, lw_okq q := by
  show ∀ q ∈ lw_privs_1 ++ (lw_privs_2 ++ (lw_privs_3)), lw_okq q
  exact List.forall_mem_append.mpr ⟨lw_r1, List.forall_mem_append.mpr ⟨lw_r2, lw_r3⟩⟩
end
section
/-! ===== names: printed by wip/whole/names.py out of the tables and of javap's listing ===== -/
def aw_T : List Cond := lw_tbl.filter goodWord
theorem aw_good : ∀ w ∈ aw_T, (w.onTables && w.keeps) = true ∨ ∃ ty, w = .arrayClass ty := fun w hw => good_of_word (List.mem_filter.mp hw).2
theorem aw_m1 {w : Cond} (i : Nat) (h : tables_1_1[i]? = some w) (hg : goodWord w = true) : w ∈ aw_T := List.mem_filter.mpr ⟨List.mem_append_right _ (List.mem_append_left _ (List.mem_of_getElem? h)), hg⟩
theorem aw_m2 {w : Cond} (i : Nat) (h : tables_1_2[i]? = some w) (hg : goodWord w = true) : w ∈ aw_T := List.mem_filter.mpr ⟨List.mem_append_right _ (List.mem_append_right _ (List.mem_append_left _ (List.mem_of_getElem? h))), hg⟩
theorem aw_m3 {w : Cond} (i : Nat) (h : tables_1_3[i]? = some w) (hg : goodWord w = true) : w ∈ aw_T := List.mem_filter.mpr ⟨List.mem_append_right _ (List.mem_append_right _ (List.mem_append_right _ (List.mem_append_left _ (List.mem_of_getElem? h)))), hg⟩
theorem aw_m4 {w : Cond} (i : Nat) (h : tables_1_4[i]? = some w) (hg : goodWord w = true) : w ∈ aw_T := List.mem_filter.mpr ⟨List.mem_append_right _ (List.mem_append_right _ (List.mem_append_right _ (List.mem_append_right _ (List.mem_of_getElem? h)))), hg⟩
theorem aw_ms {w : Cond} (i : Nat) (h : (k2_sels lw_privs)[i]? = some w) (hg : goodWord w = true) : w ∈ aw_T := List.mem_filter.mpr ⟨List.mem_append_left _ (List.mem_of_getElem? h), hg⟩
def aw_N : List Cond := [(Cond.castable "java/lang/IllegalStateException" "java/lang/IllegalStateException"), (Cond.declares ({ cls := "java/lang/RuntimeException", name := "<init>", desc := "()V" } : MethodName)), (Cond.declares ({ cls := "java/lang/RuntimeException", name := "<init>", desc := "(Ljava/lang/String;)V" } : MethodName)), (Cond.declares ({ cls := "java/lang/Exception", name := "<init>", desc := "()V" } : MethodName)), (Cond.declares ({ cls := "java/lang/Exception", name := "<init>", desc := "(Ljava/lang/String;)V" } : MethodName)), (Cond.declares ({ cls := "java/lang/Throwable", name := "<init>", desc := "()V" } : MethodName)), (Cond.declares ({ cls := "java/lang/Throwable", name := "<init>", desc := "(Ljava/lang/String;)V" } : MethodName)), (Cond.castable "java/lang/IndexOutOfBoundsException" "java/lang/IndexOutOfBoundsException"), (Cond.methodLinkNest "RoleAnalyser$Policy" (28 : Nat) ({ cls := "RoleAnalyser", name := "has", desc := "(II)Z" } : MethodName) "RoleAnalyser"), (Cond.castable "java/lang/IllegalArgumentException" "java/lang/IllegalArgumentException"), (Cond.methodLinkNest "RoleAnalyser$Rule" (26 : Nat) ({ cls := "RoleAnalyser", name := "has", desc := "(II)Z" } : MethodName) "RoleAnalyser"), (Cond.castable "java/lang/UnsupportedOperationException" "java/lang/UnsupportedOperationException"), (Cond.methodLinkNest "RoleAnalyser$Search" (37 : Nat) ({ cls := "RoleAnalyser", name := "has", desc := "(II)Z" } : MethodName) "RoleAnalyser"), (Cond.methodLinkNest "RoleAnalyser$Search" (91 : Nat) ({ cls := "RoleAnalyser", name := "areKept", desc := "(Ljava/util/ArrayList;I)Z" } : MethodName) "RoleAnalyser"), (Cond.castable "RoleAnalyser$Limit" "RoleAnalyser$Limit"), (Cond.castable "RoleAnalyser$Rule" "RoleAnalyser$Rule"), (Cond.declares ({ cls := "java/lang/Object", name := "getClass", desc := "()Ljava/lang/Class;" } : MethodName)), (Cond.castable "RoleAnalyser" "java/lang/Object"), (Cond.castable "RoleAnalyser$Policy" "java/lang/Object"), (Cond.castable "RoleAnalyser$Search" "java/lang/Object"), (Cond.castable "RoleAnalyserModel" "java/lang/Object"), (Cond.castable "RoleAnalyser$Limit" "java/lang/Object"), (Cond.castable "RoleAnalyser$Rule" "java/lang/Object"), (Cond.castable "java/lang/String" "java/lang/Object")]
theorem aw_Nwarm (w : Cond) (hw : w ∈ aw_N) {s U : State} (hW : s.WarmedH U.vm) (h : va_Nw w s) : va_Nw w U := by
  simp only [aw_N, List.mem_cons, List.not_mem_nil, or_false] at hw
  rcases hw with rfl | rfl | rfl | rfl | rfl | rfl | rfl | rfl | rfl | rfl | rfl | rfl | rfl | rfl | rfl | rfl | rfl | rfl | rfl | rfl | rfl | rfl | rfl | rfl
  all_goals first | exact va_Nw.warmC hW h | exact va_Nw.warmM hW h | exact va_Nw.warmD hW h
def aw_NC : List (String × String) := [("java/lang/IndexOutOfBoundsException", "java/lang/IllegalStateException"), ("java/lang/IllegalArgumentException", "java/lang/IllegalStateException"), ("java/lang/UnsupportedOperationException", "java/lang/IllegalStateException"), ("java/lang/IllegalStateException", "java/lang/IndexOutOfBoundsException"), ("java/lang/IllegalArgumentException", "java/lang/IndexOutOfBoundsException"), ("java/lang/UnsupportedOperationException", "java/lang/IndexOutOfBoundsException"), ("java/lang/IllegalStateException", "java/lang/IllegalArgumentException"), ("java/lang/IndexOutOfBoundsException", "java/lang/IllegalArgumentException"), ("java/lang/UnsupportedOperationException", "java/lang/IllegalArgumentException"), ("java/lang/IllegalStateException", "java/lang/UnsupportedOperationException"), ("java/lang/IndexOutOfBoundsException", "java/lang/UnsupportedOperationException"), ("java/lang/IllegalArgumentException", "java/lang/UnsupportedOperationException")]
def aw_SR : List (String × Nat × String) := [("RoleAnalyser", 50, "there are 6 roles"), ("RoleAnalyser", 58, "there are 5 users"), ("RoleAnalyser", 197, "no such role"), ("RoleAnalyser", 70, "a role would stand above itself"), ("RoleAnalyser", 211, "a static limit would not be kept"), ("RoleAnalyser", 219, "no such permission"), ("RoleAnalyser", 94, "the number of a limit is below 2"), ("RoleAnalyser", 221, "a set of roles is not 0 .. 63"), ("RoleAnalyser", 112, "there are 4 limits of the kind"), ("RoleAnalyser", 125, "the limit is not kept"), ("RoleAnalyser", 209, "there are 8 rules"), ("RoleAnalyser", 200, "no such user"), ("RoleAnalyser", 217, "no rule allows it"), ("RoleAnalyser", 156, "4 sessions are open"), ("RoleAnalyser", 202, "no such session is open"), ("RoleAnalyser", 163, "the user is not authorized for the role"), ("RoleAnalyser", 170, "a dynamic limit would not be kept"), ("RoleAnalyser", 204, "there are more than 12 pairs"), ("RoleAnalyser", 185, "no steps lead there")]
def ct_ra : u_T := fun k => match k with
  | 0 => ("RoleAnalyser", "policy", "LRoleAnalyser$Policy;", true)
  | 1 => ("RoleAnalyser", "search", "LRoleAnalyser$Search;", true)
  | 2 => ("RoleAnalyser", "assigned", "[I", true)
  | 3 => ("RoleAnalyser", "granted", "[I", true)
  | 4 => ("RoleAnalyser", "sessionUser", "[I", true)
  | 5 => ("RoleAnalyser", "sessionActive", "[I", true)
  | _ => ("RoleAnalyser", "userCount", "I", false)
def cy_ra : Nat → FieldType := fun k => match k with
  | 0 => .object "RoleAnalyser$Policy"
  | 1 => .object "RoleAnalyser$Search"
  | 2 => .array .int
  | 3 => .array .int
  | 4 => .array .int
  | 5 => .array .int
  | _ => .int
def ct_po : u_T := fun k => match k with
  | 0 => ("RoleAnalyser$Policy", "roleCount", "I", false)
  | 1 => ("RoleAnalyser$Policy", "authorizedBy", "[I", true)
  | 2 => ("RoleAnalyser$Policy", "staticLimits", "Ljava/util/ArrayList;", true)
  | 3 => ("RoleAnalyser$Policy", "dynamicLimits", "Ljava/util/ArrayList;", true)
  | _ => ("RoleAnalyser$Policy", "rules", "Ljava/util/ArrayList;", true)
def cy_po : Nat → FieldType := fun k => match k with
  | 0 => .int
  | 1 => .array .int
  | 2 => .object "java/util/ArrayList"
  | 3 => .object "java/util/ArrayList"
  | _ => .object "java/util/ArrayList"
def ct_se : u_T := fun k => match k with
  | 0 => ("RoleAnalyser$Search", "policy", "LRoleAnalyser$Policy;", true)
  | 1 => ("RoleAnalyser$Search", "found", "[I", true)
  | 2 => ("RoleAnalyser$Search", "lastStep", "[I", true)
  | 3 => ("RoleAnalyser$Search", "foundCount", "I", false)
  | _ => ("RoleAnalyser$Search", "users", "I", false)
def cy_se : Nat → FieldType := fun k => match k with
  | 0 => .object "RoleAnalyser$Policy"
  | 1 => .array .int
  | 2 => .array .int
  | 3 => .int
  | _ => .int
def ct_li : u_T := fun k => match k with
  | 0 => ("RoleAnalyser$Limit", "set", "I", true)
  | _ => ("RoleAnalyser$Limit", "number", "I", true)
def cy_li : Nat → FieldType := fun k => match k with
  | 0 => .int
  | _ => .int
def ct_ru : u_T := fun k => match k with
  | 0 => ("RoleAnalyser$Rule", "gives", "Z", true)
  | 1 => ("RoleAnalyser$Rule", "administratorRole", "I", true)
  | 2 => ("RoleAnalyser$Rule", "needed", "I", true)
  | 3 => ("RoleAnalyser$Rule", "unwanted", "I", true)
  | _ => ("RoleAnalyser$Rule", "movedRole", "I", true)
def cy_ru : Nat → FieldType := fun k => match k with
  | 0 => .boolean
  | 1 => .int
  | 2 => .int
  | 3 => .int
  | _ => .int
def ct_mo : u_T := fun k => match k with
  | 0 => ("RoleAnalyserModel", "fault", "I", false)
  | 1 => ("RoleAnalyserModel", "roleCount", "I", false)
  | 2 => ("RoleAnalyserModel", "userCount", "I", false)
  | 3 => ("RoleAnalyserModel", "below", "[I", true)
  | 4 => ("RoleAnalyserModel", "granted", "[I", true)
  | 5 => ("RoleAnalyserModel", "trial", "[I", true)
  | 6 => ("RoleAnalyserModel", "assigned", "[I", true)
  | 7 => ("RoleAnalyserModel", "limits", "[I", true)
  | 8 => ("RoleAnalyserModel", "limitSet", "[I", true)
  | 9 => ("RoleAnalyserModel", "limitMany", "[I", true)
  | 10 => ("RoleAnalyserModel", "isOpen", "[Z", true)
  | 11 => ("RoleAnalyserModel", "owner", "[I", true)
  | 12 => ("RoleAnalyserModel", "activeIn", "[I", true)
  | 13 => ("RoleAnalyserModel", "rules", "I", false)
  | 14 => ("RoleAnalyserModel", "gives", "[Z", true)
  | 15 => ("RoleAnalyserModel", "admin", "[I", true)
  | 16 => ("RoleAnalyserModel", "needed", "[I", true)
  | 17 => ("RoleAnalyserModel", "unwanted", "[I", true)
  | 18 => ("RoleAnalyserModel", "about", "[I", true)
  | 19 => ("RoleAnalyserModel", "reached", "[I", true)
  | 20 => ("RoleAnalyserModel", "leads", "[Z", true)
  | 21 => ("RoleAnalyserModel", "queue", "[I", true)
  | 22 => ("RoleAnalyserModel", "queued", "I", false)
  | _ => ("RoleAnalyserModel", "nearest", "I", false)
def cy_mo : Nat → FieldType := fun k => match k with
  | 0 => .int
  | 1 => .int
  | 2 => .int
  | 3 => .array .int
  | 4 => .array .int
  | 5 => .array .int
  | 6 => .array .int
  | 7 => .array .int
  | 8 => .array .int
  | 9 => .array .int
  | 10 => .array .boolean
  | 11 => .array .int
  | 12 => .array .int
  | 13 => .int
  | 14 => .array .boolean
  | 15 => .array .int
  | 16 => .array .int
  | 17 => .array .int
  | 18 => .array .int
  | 19 => .array .int
  | 20 => .array .boolean
  | 21 => .array .int
  | 22 => .int
  | _ => .int
def ct_al : u_T := fun k => match k with
  | 0 => ("java/util/AbstractList", "modCount", "I", false)
  | 1 => ("java/util/ArrayList", "elementData", "[Ljava/lang/Object;", false)
  | _ => ("java/util/ArrayList", "size", "I", false)
def cy_al : Nat → FieldType := fun k => match k with
  | 0 => .int
  | 1 => .array (.object "java/lang/Object")
  | _ => .int
def am_cl : List vw_C := [("RoleAnalyser", ct_ra, 7), ("RoleAnalyser$Policy", ct_po, 5), ("RoleAnalyser$Search", ct_se, 5), ("RoleAnalyser$Limit", ct_li, 2), ("RoleAnalyser$Rule", ct_ru, 5), ("RoleAnalyserModel", ct_mo, 24), ("java/util/ArrayList", ct_al, 3), ("java/lang/IllegalStateException", fun _ => ("", "", "", false), 0), ("java/lang/IndexOutOfBoundsException", fun _ => ("", "", "", false), 0), ("java/lang/IllegalArgumentException", fun _ => ("", "", "", false), 0), ("java/lang/UnsupportedOperationException", fun _ => ("", "", "", false), 0)]
def am_ty (ci k : Nat) : FieldType := match ci with
  | 0 => cy_ra k
  | 1 => cy_po k
  | 2 => cy_se k
  | 3 => cy_li k
  | 4 => cy_ru k
  | 5 => cy_mo k
  | 6 => cy_al k
  | _ => .int
theorem ok_ra : (∀ w ∈ u_ws "RoleAnalyser" ct_ra 7, w ∈ aw_T) ∧ (∀ k, k < 7 → parseFieldDescriptor (ct_ra k).2.2.1 = some (cy_ra k)) ∧ (∀ a, a < 7 → ∀ b, b < 7 → a ≠ b → (ct_ra a).2.1 ≠ (ct_ra b).2.1) := by
  refine ⟨?_, by decide +kernel, by decide +kernel⟩
  show ∀ w ∈ [(Cond.laysFinal "RoleAnalyser" "RoleAnalyser" "policy" "LRoleAnalyser$Policy;"), (Cond.laysFinal "RoleAnalyser" "RoleAnalyser" "search" "LRoleAnalyser$Search;"), (Cond.laysFinal "RoleAnalyser" "RoleAnalyser" "assigned" "[I"), (Cond.laysFinal "RoleAnalyser" "RoleAnalyser" "granted" "[I"), (Cond.laysFinal "RoleAnalyser" "RoleAnalyser" "sessionUser" "[I"), (Cond.laysFinal "RoleAnalyser" "RoleAnalyser" "sessionActive" "[I"), (Cond.lays "RoleAnalyser" "RoleAnalyser" "userCount" "I")], w ∈ aw_T
  intro w hw
  simp only [List.mem_cons, List.not_mem_nil, or_false] at hw
  rcases hw with rfl | rfl | rfl | rfl | rfl | rfl | rfl
  · exact aw_m1 120 rfl rfl
  · exact aw_m1 122 rfl rfl
  · exact aw_m1 124 rfl rfl
  · exact aw_m1 126 rfl rfl
  · exact aw_m1 128 rfl rfl
  · exact aw_m1 130 rfl rfl
  · exact aw_m1 132 rfl rfl
theorem ok_po : (∀ w ∈ u_ws "RoleAnalyser$Policy" ct_po 5, w ∈ aw_T) ∧ (∀ k, k < 5 → parseFieldDescriptor (ct_po k).2.2.1 = some (cy_po k)) ∧ (∀ a, a < 5 → ∀ b, b < 5 → a ≠ b → (ct_po a).2.1 ≠ (ct_po b).2.1) := by
  refine ⟨?_, by decide +kernel, by decide +kernel⟩
  show ∀ w ∈ [(Cond.lays "RoleAnalyser$Policy" "RoleAnalyser$Policy" "roleCount" "I"), (Cond.laysFinal "RoleAnalyser$Policy" "RoleAnalyser$Policy" "authorizedBy" "[I"), (Cond.laysFinal "RoleAnalyser$Policy" "RoleAnalyser$Policy" "staticLimits" "Ljava/util/ArrayList;"), (Cond.laysFinal "RoleAnalyser$Policy" "RoleAnalyser$Policy" "dynamicLimits" "Ljava/util/ArrayList;"), (Cond.laysFinal "RoleAnalyser$Policy" "RoleAnalyser$Policy" "rules" "Ljava/util/ArrayList;")], w ∈ aw_T
  intro w hw
  simp only [List.mem_cons, List.not_mem_nil, or_false] at hw
  rcases hw with rfl | rfl | rfl | rfl | rfl
  · exact aw_m1 77 rfl rfl
  · exact aw_m1 79 rfl rfl
  · exact aw_m1 81 rfl rfl
  · exact aw_m1 83 rfl rfl
  · exact aw_m1 85 rfl rfl
theorem ok_se : (∀ w ∈ u_ws "RoleAnalyser$Search" ct_se 5, w ∈ aw_T) ∧ (∀ k, k < 5 → parseFieldDescriptor (ct_se k).2.2.1 = some (cy_se k)) ∧ (∀ a, a < 5 → ∀ b, b < 5 → a ≠ b → (ct_se a).2.1 ≠ (ct_se b).2.1) := by
  refine ⟨?_, by decide +kernel, by decide +kernel⟩
  show ∀ w ∈ [(Cond.laysFinal "RoleAnalyser$Search" "RoleAnalyser$Search" "policy" "LRoleAnalyser$Policy;"), (Cond.laysFinal "RoleAnalyser$Search" "RoleAnalyser$Search" "found" "[I"), (Cond.laysFinal "RoleAnalyser$Search" "RoleAnalyser$Search" "lastStep" "[I"), (Cond.lays "RoleAnalyser$Search" "RoleAnalyser$Search" "foundCount" "I"), (Cond.lays "RoleAnalyser$Search" "RoleAnalyser$Search" "users" "I")], w ∈ aw_T
  intro w hw
  simp only [List.mem_cons, List.not_mem_nil, or_false] at hw
  rcases hw with rfl | rfl | rfl | rfl | rfl
  · exact aw_m1 99 rfl rfl
  · exact aw_m1 101 rfl rfl
  · exact aw_m1 103 rfl rfl
  · exact aw_m1 105 rfl rfl
  · exact aw_m1 107 rfl rfl
theorem ok_li : (∀ w ∈ u_ws "RoleAnalyser$Limit" ct_li 2, w ∈ aw_T) ∧ (∀ k, k < 2 → parseFieldDescriptor (ct_li k).2.2.1 = some (cy_li k)) ∧ (∀ a, a < 2 → ∀ b, b < 2 → a ≠ b → (ct_li a).2.1 ≠ (ct_li b).2.1) := by
  refine ⟨?_, by decide +kernel, by decide +kernel⟩
  show ∀ w ∈ [(Cond.laysFinal "RoleAnalyser$Limit" "RoleAnalyser$Limit" "set" "I"), (Cond.laysFinal "RoleAnalyser$Limit" "RoleAnalyser$Limit" "number" "I")], w ∈ aw_T
  intro w hw
  simp only [List.mem_cons, List.not_mem_nil, or_false] at hw
  rcases hw with rfl | rfl
  · exact aw_m2 114 rfl rfl
  · exact aw_m2 116 rfl rfl
theorem ok_ru : (∀ w ∈ u_ws "RoleAnalyser$Rule" ct_ru 5, w ∈ aw_T) ∧ (∀ k, k < 5 → parseFieldDescriptor (ct_ru k).2.2.1 = some (cy_ru k)) ∧ (∀ a, a < 5 → ∀ b, b < 5 → a ≠ b → (ct_ru a).2.1 ≠ (ct_ru b).2.1) := by
  refine ⟨?_, by decide +kernel, by decide +kernel⟩
  show ∀ w ∈ [(Cond.laysFinal "RoleAnalyser$Rule" "RoleAnalyser$Rule" "gives" "Z"), (Cond.laysFinal "RoleAnalyser$Rule" "RoleAnalyser$Rule" "administratorRole" "I"), (Cond.laysFinal "RoleAnalyser$Rule" "RoleAnalyser$Rule" "needed" "I"), (Cond.laysFinal "RoleAnalyser$Rule" "RoleAnalyser$Rule" "unwanted" "I"), (Cond.laysFinal "RoleAnalyser$Rule" "RoleAnalyser$Rule" "movedRole" "I")], w ∈ aw_T
  intro w hw
  simp only [List.mem_cons, List.not_mem_nil, or_false] at hw
  rcases hw with rfl | rfl | rfl | rfl | rfl
  · exact aw_m2 209 rfl rfl
  · exact aw_m2 211 rfl rfl
  · exact aw_m2 213 rfl rfl
  · exact aw_m2 215 rfl rfl
  · exact aw_m2 217 rfl rfl
theorem ok_mo : (∀ w ∈ u_ws "RoleAnalyserModel" ct_mo 24, w ∈ aw_T) ∧ (∀ k, k < 24 → parseFieldDescriptor (ct_mo k).2.2.1 = some (cy_mo k)) ∧ (∀ a, a < 24 → ∀ b, b < 24 → a ≠ b → (ct_mo a).2.1 ≠ (ct_mo b).2.1) := by
  refine ⟨?_, by decide +kernel, by decide +kernel⟩
  show ∀ w ∈ [(Cond.lays "RoleAnalyserModel" "RoleAnalyserModel" "fault" "I"), (Cond.lays "RoleAnalyserModel" "RoleAnalyserModel" "roleCount" "I"), (Cond.lays "RoleAnalyserModel" "RoleAnalyserModel" "userCount" "I"), (Cond.laysFinal "RoleAnalyserModel" "RoleAnalyserModel" "below" "[I"), (Cond.laysFinal "RoleAnalyserModel" "RoleAnalyserModel" "granted" "[I"), (Cond.laysFinal "RoleAnalyserModel" "RoleAnalyserModel" "trial" "[I"), (Cond.laysFinal "RoleAnalyserModel" "RoleAnalyserModel" "assigned" "[I"), (Cond.laysFinal "RoleAnalyserModel" "RoleAnalyserModel" "limits" "[I"), (Cond.laysFinal "RoleAnalyserModel" "RoleAnalyserModel" "limitSet" "[I"), (Cond.laysFinal "RoleAnalyserModel" "RoleAnalyserModel" "limitMany" "[I"), (Cond.laysFinal "RoleAnalyserModel" "RoleAnalyserModel" "isOpen" "[Z"), (Cond.laysFinal "RoleAnalyserModel" "RoleAnalyserModel" "owner" "[I"), (Cond.laysFinal "RoleAnalyserModel" "RoleAnalyserModel" "activeIn" "[I"), (Cond.lays "RoleAnalyserModel" "RoleAnalyserModel" "rules" "I"), (Cond.laysFinal "RoleAnalyserModel" "RoleAnalyserModel" "gives" "[Z"), (Cond.laysFinal "RoleAnalyserModel" "RoleAnalyserModel" "admin" "[I"), (Cond.laysFinal "RoleAnalyserModel" "RoleAnalyserModel" "needed" "[I"), (Cond.laysFinal "RoleAnalyserModel" "RoleAnalyserModel" "unwanted" "[I"), (Cond.laysFinal "RoleAnalyserModel" "RoleAnalyserModel" "about" "[I"), (Cond.laysFinal "RoleAnalyserModel" "RoleAnalyserModel" "reached" "[I"), (Cond.laysFinal "RoleAnalyserModel" "RoleAnalyserModel" "leads" "[Z"), (Cond.laysFinal "RoleAnalyserModel" "RoleAnalyserModel" "queue" "[I"), (Cond.lays "RoleAnalyserModel" "RoleAnalyserModel" "queued" "I"), (Cond.lays "RoleAnalyserModel" "RoleAnalyserModel" "nearest" "I")], w ∈ aw_T
  intro w hw
  simp only [List.mem_cons, List.not_mem_nil, or_false] at hw
  rcases hw with rfl | rfl | rfl | rfl | rfl | rfl | rfl | rfl | rfl | rfl | rfl | rfl | rfl | rfl | rfl | rfl | rfl | rfl | rfl | rfl | rfl | rfl | rfl | rfl
  · exact aw_m3 230 rfl rfl
  · exact aw_m3 232 rfl rfl
  · exact aw_m3 234 rfl rfl
  · exact aw_m3 236 rfl rfl
  · exact aw_m3 238 rfl rfl
  · exact aw_m4 0 rfl rfl
  · exact aw_m4 2 rfl rfl
  · exact aw_m4 4 rfl rfl
  · exact aw_m4 6 rfl rfl
  · exact aw_m4 8 rfl rfl
  · exact aw_m4 10 rfl rfl
  · exact aw_m4 12 rfl rfl
  · exact aw_m4 14 rfl rfl
  · exact aw_m4 16 rfl rfl
  · exact aw_m4 18 rfl rfl
  · exact aw_m4 20 rfl rfl
  · exact aw_m4 22 rfl rfl
  · exact aw_m4 24 rfl rfl
  · exact aw_m4 26 rfl rfl
  · exact aw_m4 28 rfl rfl
  · exact aw_m4 30 rfl rfl
  · exact aw_m4 32 rfl rfl
  · exact aw_m4 34 rfl rfl
  · exact aw_m4 36 rfl rfl
theorem ok_al : (∀ w ∈ u_ws "java/util/ArrayList" ct_al 3, w ∈ aw_T) ∧ (∀ k, k < 3 → parseFieldDescriptor (ct_al k).2.2.1 = some (cy_al k)) ∧ (∀ a, a < 3 → ∀ b, b < 3 → a ≠ b → (ct_al a).2.1 ≠ (ct_al b).2.1) := by
  refine ⟨?_, by decide +kernel, by decide +kernel⟩
  show ∀ w ∈ [(Cond.lays "java/util/ArrayList" "java/util/AbstractList" "modCount" "I"), (Cond.lays "java/util/ArrayList" "java/util/ArrayList" "elementData" "[Ljava/lang/Object;"), (Cond.lays "java/util/ArrayList" "java/util/ArrayList" "size" "I")], w ∈ aw_T
  intro w hw
  simp only [List.mem_cons, List.not_mem_nil, or_false] at hw
  rcases hw with rfl | rfl | rfl
  · exact aw_m1 61 rfl rfl
  · exact aw_m1 57 rfl rfl
  · exact aw_m1 59 rfl rfl
theorem am_ok : ∀ (ci : Nat) (r : vw_C), am_cl[ci]? = some r → (∀ w ∈ u_ws r.1 r.2.1 r.2.2, w ∈ aw_T) ∧ (∀ k, k < r.2.2 → parseFieldDescriptor (r.2.1 k).2.2.1 = some (am_ty ci k)) ∧ (∀ a, a < r.2.2 → ∀ b, b < r.2.2 → a ≠ b → (r.2.1 a).2.1 ≠ (r.2.1 b).2.1)
  | 0, _, h => by cases h; exact ok_ra
  | 1, _, h => by cases h; exact ok_po
  | 2, _, h => by cases h; exact ok_se
  | 3, _, h => by cases h; exact ok_li
  | 4, _, h => by cases h; exact ok_ru
  | 5, _, h => by cases h; exact ok_mo
  | 6, _, h => by cases h; exact ok_al
  | 7, _, h => by cases h; exact ⟨fun w hw => absurd hw List.not_mem_nil, fun k hk => absurd hk (Nat.not_lt_zero k), fun a ha => absurd ha (Nat.not_lt_zero a)⟩
  | 8, _, h => by cases h; exact ⟨fun w hw => absurd hw List.not_mem_nil, fun k hk => absurd hk (Nat.not_lt_zero k), fun a ha => absurd ha (Nat.not_lt_zero a)⟩
  | 9, _, h => by cases h; exact ⟨fun w hw => absurd hw List.not_mem_nil, fun k hk => absurd hk (Nat.not_lt_zero k), fun a ha => absurd ha (Nat.not_lt_zero a)⟩
  | 10, _, h => by cases h; exact ⟨fun w hw => absurd hw List.not_mem_nil, fun k hk => absurd hk (Nat.not_lt_zero k), fun a ha => absurd ha (Nat.not_lt_zero a)⟩
  | n + 11, _, h => by cases h
end
section
/-! ===== the abstract heap: a list of cells, the k-th of them at the address G.1 + k; all that the run has made since its start ===== -/
abbrev ag_T : Type := Nat × va_G × (Nat → ClassId) × (Nat × Nat × (Nat → Int32)) × Nat
def ah_ws (G : ag_T) : Nat → List va_E → va_W
  | _, [] => []
  | k, e :: t => (G.1 + k, e) :: ah_ws G (k + 1) t
theorem ah_get (G : ag_T) : ∀ (h : List va_E) (k i : Nat), (ah_ws G k h)[i]? = (h[i]?).map (fun e => (G.1 + (k + i), e))
  | [], k, i => by simp [ah_ws]
  | e :: t, k, 0 => by simp [ah_ws]
  | e :: t, k, i + 1 => by
    have h1 := ah_get G t (k + 1) i
    rw [show k + 1 + i = k + (i + 1) by omega] at h1
    simpa [ah_ws] using h1
theorem ah_at {G : ag_T} {h : List va_E} {i : Nat} {e : va_E} (hi : h[i]? = some e) : (ah_ws G 0 h)[i]? = some (G.1 + i, e) := by
  rw [ah_get, hi]
  simp
theorem ah_len (G : ag_T) : ∀ (h : List va_E) (k : Nat), (ah_ws G k h).length = h.length
  | [], _ => rfl
  | _ :: t, k => by simp [ah_ws, ah_len G t (k + 1)]
theorem ah_set (G : ag_T) : ∀ (h : List va_E) (k i : Nat) (e : va_E), (ah_ws G k h).set i (G.1 + (k + i), e) = ah_ws G k (h.set i e)
  | [], _, _, _ => by simp [ah_ws]
  | a :: t, k, 0, e => by simp [ah_ws]
  | a :: t, k, i + 1, e => by
    have h1 := ah_set G t (k + 1) i e
    rw [show k + 1 + i = k + (i + 1) by omega] at h1
    simp [ah_ws, h1]
theorem ah_set0 (G : ag_T) (h : List va_E) (i : Nat) (e : va_E) : (ah_ws G 0 h).set i (G.1 + i, e) = ah_ws G 0 (h.set i e) := by
  have h1 := ah_set G h 0 i e
  rw [Nat.zero_add] at h1
  exact h1
theorem ah_app (G : ag_T) : ∀ (h : List va_E) (k : Nat) (e : va_E), ah_ws G k (h ++ [e]) = ah_ws G k h ++ [(G.1 + (k + h.length), e)]
  | [], k, e => by simp [ah_ws]
  | a :: t, k, e => by
    have h1 := ah_app G t (k + 1) e
    rw [show k + 1 + t.length = k + (t.length + 1) by omega] at h1
    simp [ah_ws, h1]
theorem ah_app0 (G : ag_T) (h : List va_E) (e : va_E) : ah_ws G 0 (h ++ [e]) = ah_ws G 0 h ++ [(G.1 + h.length, e)] := by
  have h1 := ah_app G h 0 e
  rw [Nat.zero_add] at h1
  exact h1
/-- what a method may change: what was made since the start -/
def aw_A (G : ag_T) : Nat → Prop := fun q => G.1 ≤ q
theorem ah_D (G : ag_T) (h : List va_E) : va_D (aw_A G) (ah_ws G 0 h) := by
  have key : ∀ (k : Nat) (q : Nat × va_E), (ah_ws G 0 h)[k]? = some q → q.1 = G.1 + k := by
    intro k q hk
    rw [ah_get] at hk
    cases he : h[k]? with
    | none => rw [he] at hk; cases hk
    | some e =>
      rw [he] at hk
      rw [← Option.some.inj hk]
      simp
  refine ⟨fun i j x y hi hj hxy => ?_, fun k q hk => ?_⟩
  · have h1 := key i x hi
    have h2 := key j y hj
    omega
  · rw [key k q hk]
    exact Nat.le_add_right _ _
/-- the heap H holds the list h -/
def ah_R (G : ag_T) (h : List va_E) (H : Heap) : Prop := va_P G.2.1 am_cl (ah_ws G 0 h) H ∧ H.size = G.1 + h.length
theorem ah_R.cell {G : ag_T} {h : List va_E} {H : Heap} (r : ah_R G h H) {i : Nat} {e : va_E} (hi : h[i]? = some e) : va_at G.2.1 am_cl (G.1 + i, e) H := r.1 i _ (ah_at hi)
theorem ah_R.set {G : ag_T} {h : List va_E} {H H1 : Heap} (r : ah_R G h H) {i : Nat} {e0 e : va_E} (hi : h[i]? = some e0) (hz : H1.size = H.size) (ho : ∀ q : Nat, q ≠ G.1 + i → H1[q]? = H[q]?) (he : va_at G.2.1 am_cl (G.1 + i, e) H1) : ah_R G (h.set i e) H1 := by
  refine ⟨?_, by rw [hz, r.2, List.length_set]⟩
  rw [← ah_set0]
  exact va_P.set r.1 (ah_D G h) (ah_at hi) he ho
theorem ah_R.push {G : ag_T} {h : List va_E} {H H1 : Heap} (r : ah_R G h H) {e : va_E} (hz : H1.size = H.size + 1) (ho : ∀ q : Nat, q < H.size → H1[q]? = H[q]?) (he : va_at G.2.1 am_cl (G.1 + h.length, e) H1) : ah_R G (h ++ [e]) H1 := by
  refine ⟨?_, by rw [hz, r.2, List.length_append]; rfl⟩
  rw [ah_app0]
  refine va_P.app (r.1.kept fun k q hk => ho _ (r.1 k q hk).lt) (fun k q hk => ?_)
  have hk1 : k < 1 := (List.getElem?_eq_some_iff.mp hk).1
  rw [show k = 0 by omega] at hk
  rw [← Option.some.inj hk]
  exact he
end
section
/-! ===== what stood before the run and stays: the script, the statics of Throwable and of ArrayList ===== -/
/-- a static field that holds null or a reference, its statics' cell in H -/
def ax_S (C n d : String) (A : Nat → Prop) (U : State) (H : Heap) : Prop :=
  ∃ (c : ClassId) (k : Class) (i : Nat) (f : Field) (a : Nat) (cell : Cell) (v : Value), U.vm.findClass C = some c ∧ U.fieldFound? C n d = some (c, k, i, f) ∧ f.isStatic = true ∧ k.statics = some a ∧ k.staticTypes[f.slot]? = some f.type ∧ H[a]? = some cell ∧ cell.vm.isStatics = true ∧ cell.cls = c ∧ f.slot < cell.slots.size ∧ cell.slots[f.slot]? = some v ∧ v.isRef = true ∧ ¬ A a
theorem ax_S.moved {C n d : String} {A : Nat → Prop} {u U : State} {H : Heap} (hvm : u.vm.Alike U.vm) (h : ax_S C n d A u H) : ax_S C n d A U H := by
  obtain ⟨c, k, i, f, a, cell, v, h1, h2, h3, h4, h5, h6⟩ := h
  obtain ⟨k', hi', he⟩ := State.fieldFound?_setVm hvm h2
  exact ⟨c, k', i, f, a, cell, v, by rw [hvm.findClass]; exact h1, hi', h3, by rw [he]; exact h4, by rw [he]; exact h5, h6⟩
theorem ax_S.kept {C n d : String} {A : Nat → Prop} {U : State} {H H1 : Heap} (h : ax_S C n d A U H) (hq : ∀ a : Nat, a < H.size → ¬ A a → H1[a]? = H[a]?) : ax_S C n d A U H1 := by
  obtain ⟨c, k, i, f, a, cell, v, h1, h2, h3, h4, h5, h6, h7, h8, h9, h10, h11, h12⟩ := h
  exact ⟨c, k, i, f, a, cell, v, h1, h2, h3, h4, h5, by rw [hq a (Array.getElem?_eq_some_iff.mp h6).1 h12]; exact h6, h7, h8, h9, h10, h11, h12⟩
theorem ax_S.lays {C n d : String} {A : Nat → Prop} {s : State} {args : Array Value} (h : ax_S C n d A s s.heap) : (Cond.laysStatic C n d).before args s = true := by
  obtain ⟨c, k, i, f, a, cell, v, h1, h2, h3, h4, h5, h6, h7, h8, h9, h10, h11, h12⟩ := h
  exact Cond.laysStatic_of h1 h2 h3 h4 h6 h7 h8 h9 h5
theorem ax_S.ref {C n d : String} {A : Nat → Prop} {s : State} {args : Array Value} (h : ax_S C n d A s s.heap) : (Cond.isRef (.static C n d)).before args s = true := by
  obtain ⟨c, k, i, f, a, cell, v, h1, h2, h3, h4, h5, h6, h7, h8, h9, h10, h11, h12⟩ := h
  have he : (Term.static C n d).eval args s none [] s = some v := by
    simp [Term.eval, State.fieldNamed?, h2, h3, h4, h6, h7, h10]
  simp only [Cond.before, Cond.holds, Cond.value, he]
  cases v <;> simp_all [Value.isRef]
theorem ax_S.of {C n d : String} {A : Nat → Prop} {s : State} {args : Array Value} (hl : (Cond.laysStatic C n d).before args s = true) (hr : (Cond.isRef (.static C n d)).before args s = true) (hA : ∀ a : Nat, a < s.heap.size → ¬ A a) : ax_S C n d A s s.heap := by
  obtain ⟨c, k, i, f, a, cell, h1, h2, h3, h4, h6, h7, h8, h9, h5⟩ := Cond.laysStatic_spec hl
  obtain ⟨v, hv⟩ : ∃ v, cell.slots[f.slot]? = some v := ⟨_, Array.getElem?_eq_getElem h9⟩
  have he : (Term.static C n d).eval args s none [] s = some v := by
    simp [Term.eval, State.fieldNamed?, h2, h3, h4, h6, h7, hv]
  refine ⟨c, k, i, f, a, cell, v, h1, h2, h3, h4, h5, h6, h7, h8, h9, hv, ?_, hA a (Array.getElem?_eq_some_iff.mp h6).1⟩
  simp only [Cond.before, Cond.holds, Cond.value, he] at hr
  cases v <;> simp_all [Value.isRef]
/-- an empty array of references that stood before -/
def ax_E (e0 : Nat) (A : Nat → Prop) (U : State) (H : Heap) : Prop := ∃ (cell : Cell) (ty : FieldType), H[e0]? = some cell ∧ U.isArrayOf cell ty ∧ cell.slots.size = 0 ∧ ¬ A e0
def aw_O (G : ag_T) (U : State) (H : Heap) : Prop :=
  va_X G.2.2.2.1.1 G.2.2.2.1.2.1 G.2.2.2.1.2.2 U H ∧ G.2.2.2.1.1 < G.1 ∧ ax_S Bundle.tN "UNASSIGNED_STACK" Bundle.steD (aw_A G) U H ∧ ax_S Bundle.tN "SUPPRESSED_SENTINEL" Bundle.listD (aw_A G) U H ∧
    va_Z "java/util/ArrayList" "DEFAULTCAPACITY_EMPTY_ELEMENTDATA" "[Ljava/lang/Object;" (.ref G.2.2.2.2) (aw_A G) U H ∧ ax_E G.2.2.2.2 (aw_A G) U H
theorem aw_O.moved {G : ag_T} {u U : State} {H : Heap} (hW : u.WarmedH U.vm) (h : aw_O G u H) : aw_O G U H := by
  obtain ⟨h1, h2, h3, h4, h5, cell, ty, e1, e2, e3⟩ := h
  exact ⟨h1.moved hW.alike, h2, h3.moved hW.alike, h4.moved hW.alike, h5.moved hW.alike, cell, ty, e1, State.isArrayOf_alike hW.alike e2, e3⟩
theorem aw_O.kept {G : ag_T} {U : State} {H H1 : Heap} (h : aw_O G U H) (hq : ∀ a : Nat, a < H.size → ¬ aw_A G a → H1[a]? = H[a]?) : aw_O G U H1 := by
  obtain ⟨h1, h2, h3, h4, h5, cell, ty, e1, e2, e3, e4⟩ := h
  obtain ⟨scr, g1, g2⟩ := id h1
  exact ⟨h1.kept (hq _ (Array.getElem?_eq_some_iff.mp g1).1 (Nat.not_le.mpr h2)), h2, h3.kept hq, h4.kept hq, h5.kept hq, cell, ty, by rw [hq _ (Array.getElem?_eq_some_iff.mp e1).1 e4]; exact e1, e2, e3, e4⟩
end
section
/-! ===== the abstract walk: aw_w says of a method's frame at pc, with known locals lv, stack st, over the abstract heap h, that it comes to the method's end with Q ===== -/
abbrev am_M : Type := String × MethodName × ByteArray × Nat × Option FieldType × List (Nat × Nat × Nat × Nat)
abbrev aq_T : Type := (Option Value ⊕ Nat) → List va_E → Prop
def ag_ty (G : ag_T) : List (ClassId × FieldType) := [(G.2.2.1 0, .int), (G.2.2.1 1, .boolean), (G.2.2.1 2, .long), (G.2.2.1 3, .object "java/lang/Object")]
def aw_rm (fr lo kc ks : Nat) : Room := { frames := fr, cells := kc, slots := ks, locals := lo }
/-- the tables as the walk needs them -/
def aw_K (G : ag_T) (U : State) : Prop := va_K G.2.1 am_cl (ag_ty G) U ∧ (∀ w ∈ aw_N, va_Nw w U) ∧ (∀ q ∈ aw_NC, va_Nc q.1 q.2 U) ∧ (∀ q ∈ aw_SR, ∃ a, vk_R q.1 q.2.1 q.2.2 a U) ∧ va_AO "java/lang/Object" U
theorem aw_K.moved {G : ag_T} {u U : State} (hW : u.WarmedH U.vm) (h : aw_K G u) : aw_K G U :=
  ⟨va_K.moved hW.alike h.1, fun w hw => aw_Nwarm w hw hW (h.2.1 w hw), fun q hq => (h.2.2.1 q hq).moved hW.alike, fun q hq => by obtain ⟨a, ha⟩ := h.2.2.2.1 q hq; exact ⟨a, vk_R.warm hW ha⟩, va_AO.moved hW.alike h.2.2.2.2⟩
/-- what stands around a method's frame -/
def aw_C (G : ag_T) (M : am_M) (fr lo : Nat) (p : Program) (l : Launch) (R : Room) (s : State) (m : MethodId) (args : Array Value) (meth : Method) (c : Code) : Prop :=
  p.tables.exec = Jvm.exec ∧ c.code = M.2.2.1 ∧ c.maxLocals = M.2.2.2.1 ∧ s.vm.findClass M.1 = some m.cls ∧ (∀ w ∈ aw_T, w.before args s = true) ∧ meth.sig.returnType = M.2.2.2.2.1 ∧ c.exceptionTable.toList = tableOf M.2.2.2.2.2 ∧ meth.locks = false ∧ meth.name = M.2.1.name ∧ l.stackTraces = false ∧ aw_K G s ∧ fr ≤ R.frames ∧ lo ≤ R.locals
/-- how a method ends: with a value, or with an exception of the class numbered ci -/
def aw_E (G : ag_T) (Q : aq_T) (mc ms : Nat) (s : State) (o : Outcome) (t : State) : Prop :=
  ∃ (h' : List va_E) (L : List Loc), ah_R G h' t.heap ∧ s.WarmedH t.vm ∧ s.sameButNew ({ t with vm := s.vm } : State) L mc ms ∧ va_S (aw_A G) s.heap t.heap L ∧
    ((∃ v, o = .returned v ∧ Q (.inl v) h') ∨ ∃ (k ci : Nat), o = .threw (G.1 + k) ∧ h'[k]? = some (.inr (ci, [])) ∧ Q (.inr ci) h')
def aw_Z (G : ag_T) (Q : aq_T) (below : List Frame) (mc ms : Nat) (s : State) : State → Prop := fun t => ∃ o, t.status = .running ∧ Ended t below o ∧ aw_E G Q mc ms s o t
def aw_w (G : ag_T) (M : am_M) (fr lo kc ks pc : Nat) (lv : List (Nat × Value)) (st : List Value) (h : List va_E) (Q : aq_T) : Prop :=
  ∀ (p : Program) (l : Launch) (e : Env) (R : Room) (s : State) (m : MethodId) (args : Array Value) (below : List Frame) (meth : Method) (c : Code) (H : Heap) (locs : List Loc) (cells slots mc ms : Nat) (ls : Array Slot),
    aw_C G M fr lo p l R s m args meth c → lv_has ls M.2.2.2.1 lv → ah_R G h H → aw_O G s s.heap → va_S (aw_A G) s.heap H locs → G.1 ≤ s.heap.size → cells + kc ≤ mc → slots + ks ≤ ms → mc ≤ R.cells → ms ≤ R.slots →
    W p l e R s m args below meth c H locs cells slots (aw_Z G Q below mc ms s) (F0 m pc ls st)
section AWP
variable {G : ag_T} {M : am_M} {fr lo kc ks pc : Nat} {lv : List (Nat × Value)} {st : List Value} {h : List va_E} {Q : aq_T}
theorem aw_step {pc' : Nat} {st' : List Value} (hs : ∀ (p : Program) (l : Launch) (e : Env) (R : Room) (s : State) (m : MethodId) (args : Array Value) (below : List Frame) (meth : Method) (c : Code) (H : Heap) (locs : List Loc) (cells slots : Nat) (Z : State → Prop) (ls : Array Slot), p.tables.exec = Jvm.exec → c.code = M.2.2.1 → lv_has ls M.2.2.2.1 lv →
      W p l e R s m args below meth c H locs cells slots Z (F0 m pc' ls st') → W p l e R s m args below meth c H locs cells slots Z (F0 m pc ls st)) (k : aw_w G M fr lo kc ks pc' lv st' h Q) : aw_w G M fr lo kc ks pc lv st h Q := by
  intro p l e R s m args below meth c H locs cells slots mc ms ls C hl hR hO hS hG h1 h2 h3 h4
  exact hs p l e R s m args below meth c H locs cells slots _ ls C.1 C.2.1 hl (k p l e R s m args below meth c H locs cells slots mc ms ls C hl hR hO hS hG h1 h2 h3 h4)
theorem aw_stepS {pc' : Nat} {lv' : List (Nat × Value)} {st' : List Value} (hs : ∀ (p : Program) (l : Launch) (e : Env) (R : Room) (s : State) (m : MethodId) (args : Array Value) (below : List Frame) (meth : Method) (c : Code) (H : Heap) (locs : List Loc) (cells slots : Nat) (Z : State → Prop) (ls : Array Slot), p.tables.exec = Jvm.exec → c.code = M.2.2.1 → lv_has ls M.2.2.2.1 lv →
      (∀ ls' : Array Slot, lv_has ls' M.2.2.2.1 lv' → W p l e R s m args below meth c H locs cells slots Z (F0 m pc' ls' st')) → W p l e R s m args below meth c H locs cells slots Z (F0 m pc ls st)) (k : aw_w G M fr lo kc ks pc' lv' st' h Q) : aw_w G M fr lo kc ks pc lv st h Q := by
  intro p l e R s m args below meth c H locs cells slots mc ms ls C hl hR hO hS hG h1 h2 h3 h4
  exact hs p l e R s m args below meth c H locs cells slots _ ls C.1 C.2.1 hl fun ls' hl' => k p l e R s m args below meth c H locs cells slots mc ms ls' C hl' hR hO hS hG h1 h2 h3 h4
theorem aw_stepB {P : Prop} {pc1 pc2 : Nat} {st' : List Value} (hs : ∀ (p : Program) (l : Launch) (e : Env) (R : Room) (s : State) (m : MethodId) (args : Array Value) (below : List Frame) (meth : Method) (c : Code) (H : Heap) (locs : List Loc) (cells slots : Nat) (Z : State → Prop) (ls : Array Slot), p.tables.exec = Jvm.exec → c.code = M.2.2.1 →
      (P → W p l e R s m args below meth c H locs cells slots Z (F0 m pc1 ls st')) → (¬ P → W p l e R s m args below meth c H locs cells slots Z (F0 m pc2 ls st')) → W p l e R s m args below meth c H locs cells slots Z (F0 m pc ls st))
    (k1 : P → aw_w G M fr lo kc ks pc1 lv st' h Q) (k2 : ¬ P → aw_w G M fr lo kc ks pc2 lv st' h Q) : aw_w G M fr lo kc ks pc lv st h Q := by
  intro p l e R s m args below meth c H locs cells slots mc ms ls C hl hR hO hS hG h1 h2 h3 h4
  exact hs p l e R s m args below meth c H locs cells slots _ ls C.1 C.2.1 (fun z => k1 z p l e R s m args below meth c H locs cells slots mc ms ls C hl hR hO hS hG h1 h2 h3 h4) (fun z => k2 z p l e R s m args below meth c H locs cells slots mc ms ls C hl hR hO hS hG h1 h2 h3 h4)
/-- fewer locals known -/
theorem aw_lv (ks' : List Nat) {lv' : List (Nat × Value)} (hk : lv_pick lv ks' = lv') (k : aw_w G M fr lo kc ks pc lv' st h Q) : aw_w G M fr lo kc ks pc lv st h Q := by
  intro p l e R s m args below meth c H locs cells slots mc ms ls C hl hR hO hS hG h1 h2 h3 h4
  exact k p l e R s m args below meth c H locs cells slots mc ms ls C (lv_sub hl ks' hk) hR hO hS hG h1 h2 h3 h4
/-- another end that follows -/
theorem aw_mono {Q' : aq_T} (hq : ∀ o h', Q' o h' → Q o h') (k : aw_w G M fr lo kc ks pc lv st h Q') : aw_w G M fr lo kc ks pc lv st h Q := by
  intro p l e R s m args below meth c H locs cells slots mc ms ls C hl hR hO hS hG h1 h2 h3 h4 T hT X
  obtain ⟨t, a1, o, b1, b2, h', L, c1, c2, c3, c4, c5⟩ := k p l e R s m args below meth c H locs cells slots mc ms ls C hl hR hO hS hG h1 h2 h3 h4 T hT X
  refine ⟨t, a1, o, b1, b2, h', L, c1, c2, c3, c4, ?_⟩
  rcases c5 with ⟨v, e1, e2⟩ | ⟨k9, ci, e1, e2, e3⟩
  · exact Or.inl ⟨v, e1, hq _ _ e2⟩
  · exact Or.inr ⟨k9, ci, e1, e2, hq _ _ e3⟩
/-- more room than needed -/
theorem aw_room {fr' lo' kc' ks' : Nat} (hf9 : fr' ≤ fr) (hl9 : lo' ≤ lo) (hc : kc' ≤ kc) (hs : ks' ≤ ks) (k : aw_w G M fr' lo' kc' ks' pc lv st h Q) : aw_w G M fr lo kc ks pc lv st h Q := by
  intro p l e R s m args below meth c H locs cells slots mc ms ls C hl hR hO hS hG h1 h2 h3 h4
  obtain ⟨x1, x2, x3, x4, x5, x6, x7, x8, x9, x10, x11, x12, x13⟩ := C
  exact k p l e R s m args below meth c H locs cells slots mc ms ls ⟨x1, x2, x3, x4, x5, x6, x7, x8, x9, x10, x11, Nat.le_trans hf9 x12, Nat.le_trans hl9 x13⟩ hl hR hO hS hG (by omega) (by omega) h3 h4
theorem aw_iconst {n : Int} {v : Int32} (hd : decode M.2.2.1 pc = .ok (.iconst n, 1)) (hv : Int32.ofInt n = v) (k : aw_w G M fr lo kc ks (pc + 1) lv (.int v :: st) h Q) : aw_w G M fr lo kc ks pc lv (st) h Q := aw_step (fun p l e R s m args below meth c H locs cells slots Z ls hx hb hl w => lv_iconst hx hb hd hv w) k
theorem aw_bipush {n : Int} {v : Int32} (hd : decode M.2.2.1 pc = .ok (.bipush n, 2)) (hv : (Int8.ofInt n).toInt32 = v) (k : aw_w G M fr lo kc ks (pc + 2) lv (.int v :: st) h Q) : aw_w G M fr lo kc ks pc lv (st) h Q := aw_step (fun p l e R s m args below meth c H locs cells slots Z ls hx hb hl w => lv_bipush hx hb hd hv w) k
theorem aw_sipush {n : Int} {v : Int32} (hd : decode M.2.2.1 pc = .ok (.sipush n, 3)) (hv : (Int16.ofInt n).toInt32 = v) (k : aw_w G M fr lo kc ks (pc + 3) lv (.int v :: st) h Q) : aw_w G M fr lo kc ks pc lv (st) h Q := aw_step (fun p l e R s m args below meth c H locs cells slots Z ls hx hb hl w => lv_sipush hx hb hd hv w) k
theorem aw_lconst {n : Fin 2} {v : Int64} (hd : decode M.2.2.1 pc = .ok (.lconst n, 1)) (hv : Int64.ofNat (n : Nat) = v) (k : aw_w G M fr lo kc ks (pc + 1) lv (.long v :: st) h Q) : aw_w G M fr lo kc ks pc lv (st) h Q := aw_step (fun p l e R s m args below meth c H locs cells slots Z ls hx hb hl w => lv_lconst hx hb hd hv w) k
theorem aw_null (hd : decode M.2.2.1 pc = .ok (.aconst_null, 1)) (k : aw_w G M fr lo kc ks (pc + 1) lv (.null :: st) h Q) : aw_w G M fr lo kc ks pc lv (st) h Q := aw_step (fun p l e R s m args below meth c H locs cells slots Z ls hx hb hl w => lv_null hx hb hd w) k
theorem aw_iload_n {n : Fin 4} {i : Nat} {x : Int32} (hd : decode M.2.2.1 pc = .ok (.iload_n n, 1)) (hi : (n : Nat) = i) (j : Nat) (hj : lv[j]? = some (i, .int x)) (k : aw_w G M fr lo kc ks (pc + 1) lv (.int x :: st) h Q) : aw_w G M fr lo kc ks pc lv (st) h Q := aw_step (fun p l e R s m args below meth c H locs cells slots Z ls hx hb hl w => lv_iload_n hx hb hd hi (lv_at hl j hj) w) k
theorem aw_iload {i : Nat} {x : Int32} (hd : decode M.2.2.1 pc = .ok (.iload i, 2)) (j : Nat) (hj : lv[j]? = some (i, .int x)) (k : aw_w G M fr lo kc ks (pc + 2) lv (.int x :: st) h Q) : aw_w G M fr lo kc ks pc lv (st) h Q := aw_step (fun p l e R s m args below meth c H locs cells slots Z ls hx hb hl w => lv_iload hx hb hd (lv_at hl j hj) w) k
theorem aw_lload_n {n : Fin 4} {i : Nat} {x : Int64} (hd : decode M.2.2.1 pc = .ok (.lload_n n, 1)) (hi : (n : Nat) = i) (j : Nat) (hj : lv[j]? = some (i, .long x)) (k : aw_w G M fr lo kc ks (pc + 1) lv (.long x :: st) h Q) : aw_w G M fr lo kc ks pc lv (st) h Q := aw_step (fun p l e R s m args below meth c H locs cells slots Z ls hx hb hl w => lv_lload_n hx hb hd hi (lv_at hl j hj) w) k
theorem aw_lload {i : Nat} {x : Int64} (hd : decode M.2.2.1 pc = .ok (.lload i, 2)) (j : Nat) (hj : lv[j]? = some (i, .long x)) (k : aw_w G M fr lo kc ks (pc + 2) lv (.long x :: st) h Q) : aw_w G M fr lo kc ks pc lv (st) h Q := aw_step (fun p l e R s m args below meth c H locs cells slots Z ls hx hb hl w => lv_lload hx hb hd (lv_at hl j hj) w) k
theorem aw_aload_n {n : Fin 4} {i : Nat} {x : Nat} (hd : decode M.2.2.1 pc = .ok (.aload_n n, 1)) (hi : (n : Nat) = i) (j : Nat) (hj : lv[j]? = some (i, .ref x)) (k : aw_w G M fr lo kc ks (pc + 1) lv (.ref x :: st) h Q) : aw_w G M fr lo kc ks pc lv (st) h Q := aw_step (fun p l e R s m args below meth c H locs cells slots Z ls hx hb hl w => lv_aload_n hx hb hd hi (lv_at hl j hj) w) k
theorem aw_aload {i : Nat} {x : Nat} (hd : decode M.2.2.1 pc = .ok (.aload i, 2)) (j : Nat) (hj : lv[j]? = some (i, .ref x)) (k : aw_w G M fr lo kc ks (pc + 2) lv (.ref x :: st) h Q) : aw_w G M fr lo kc ks pc lv (st) h Q := aw_step (fun p l e R s m args below meth c H locs cells slots Z ls hx hb hl w => lv_aload hx hb hd (lv_at hl j hj) w) k
theorem aw_istore_n {n : Fin 4} {i : Nat} {x : Int32} {lv' : List (Nat × Value)} (hd : decode M.2.2.1 pc = .ok (.istore_n n, 1)) (hi : (n : Nat) = i) (hn : i < M.2.2.2.1) (hl9 : (i, Value.int x) :: lv.filter (fun q => !(q.1 == i) && !(q.1 + 1 == i && q.2.category == 2)) = lv') (k : aw_w G M fr lo kc ks (pc + 1) lv' st h Q) : aw_w G M fr lo kc ks pc lv (.int x :: st) h Q := aw_stepS (fun p l e R s m args below meth c H locs cells slots Z ls hx hb hl w => lv_istore_n hx hb hd hi hl hn hl9 w) k
theorem aw_istore {i : Nat} {x : Int32} {lv' : List (Nat × Value)} (hd : decode M.2.2.1 pc = .ok (.istore i, 2)) (hn : i < M.2.2.2.1) (hl9 : (i, Value.int x) :: lv.filter (fun q => !(q.1 == i) && !(q.1 + 1 == i && q.2.category == 2)) = lv') (k : aw_w G M fr lo kc ks (pc + 2) lv' st h Q) : aw_w G M fr lo kc ks pc lv (.int x :: st) h Q := aw_stepS (fun p l e R s m args below meth c H locs cells slots Z ls hx hb hl w => lv_istore hx hb hd hl hn hl9 w) k
theorem aw_astore_n {n : Fin 4} {i : Nat} {x : Nat} {lv' : List (Nat × Value)} (hd : decode M.2.2.1 pc = .ok (.astore_n n, 1)) (hi : (n : Nat) = i) (hn : i < M.2.2.2.1) (hl9 : (i, Value.ref x) :: lv.filter (fun q => !(q.1 == i) && !(q.1 + 1 == i && q.2.category == 2)) = lv') (k : aw_w G M fr lo kc ks (pc + 1) lv' st h Q) : aw_w G M fr lo kc ks pc lv (.ref x :: st) h Q := aw_stepS (fun p l e R s m args below meth c H locs cells slots Z ls hx hb hl w => lv_astore_n hx hb hd hi hl hn hl9 w) k
theorem aw_astore {i : Nat} {x : Nat} {lv' : List (Nat × Value)} (hd : decode M.2.2.1 pc = .ok (.astore i, 2)) (hn : i < M.2.2.2.1) (hl9 : (i, Value.ref x) :: lv.filter (fun q => !(q.1 == i) && !(q.1 + 1 == i && q.2.category == 2)) = lv') (k : aw_w G M fr lo kc ks (pc + 2) lv' st h Q) : aw_w G M fr lo kc ks pc lv (.ref x :: st) h Q := aw_stepS (fun p l e R s m args below meth c H locs cells slots Z ls hx hb hl w => lv_astore hx hb hd hl hn hl9 w) k
theorem aw_iinc {i : Nat} {n : Int} {x v : Int32} {lv' : List (Nat × Value)} (hd : decode M.2.2.1 pc = .ok (.iinc i n, 3)) (j : Nat) (hj : lv[j]? = some (i, .int x)) (hv : x + Int32.ofInt n = v) (hn : i < M.2.2.2.1) (hl9 : (i, Value.int v) :: lv.filter (fun q => !(q.1 == i) && !(q.1 + 1 == i && q.2.category == 2)) = lv') (k : aw_w G M fr lo kc ks (pc + 3) lv' st h Q) : aw_w G M fr lo kc ks pc lv st h Q := aw_stepS (fun p l e R s m args below meth c H locs cells slots Z ls hx hb hl w => lv_iinc hx hb hd hl hj hv hn hl9 w) k
theorem aw_iadd {x y : Int32} (hd : decode M.2.2.1 pc = .ok (.iadd, 1)) (k : aw_w G M fr lo kc ks (pc + 1) lv (.int (x + y) :: st) h Q) : aw_w G M fr lo kc ks pc lv (.int y :: .int x :: st) h Q := aw_step (fun p l e R s m args below meth c H locs cells slots Z ls hx hb hl w => lv_iadd hx hb hd w) k
theorem aw_isub {x y : Int32} (hd : decode M.2.2.1 pc = .ok (.isub, 1)) (k : aw_w G M fr lo kc ks (pc + 1) lv (.int (x - y) :: st) h Q) : aw_w G M fr lo kc ks pc lv (.int y :: .int x :: st) h Q := aw_step (fun p l e R s m args below meth c H locs cells slots Z ls hx hb hl w => lv_isub hx hb hd w) k
theorem aw_imul {x y : Int32} (hd : decode M.2.2.1 pc = .ok (.imul, 1)) (k : aw_w G M fr lo kc ks (pc + 1) lv (.int (x * y) :: st) h Q) : aw_w G M fr lo kc ks pc lv (.int y :: .int x :: st) h Q := aw_step (fun p l e R s m args below meth c H locs cells slots Z ls hx hb hl w => lv_imul hx hb hd w) k
theorem aw_iand {x y : Int32} (hd : decode M.2.2.1 pc = .ok (.iand, 1)) (k : aw_w G M fr lo kc ks (pc + 1) lv (.int (x &&& y) :: st) h Q) : aw_w G M fr lo kc ks pc lv (.int y :: .int x :: st) h Q := aw_step (fun p l e R s m args below meth c H locs cells slots Z ls hx hb hl w => lv_iand hx hb hd w) k
theorem aw_ior {x y : Int32} (hd : decode M.2.2.1 pc = .ok (.ior, 1)) (k : aw_w G M fr lo kc ks (pc + 1) lv (.int (x ||| y) :: st) h Q) : aw_w G M fr lo kc ks pc lv (.int y :: .int x :: st) h Q := aw_step (fun p l e R s m args below meth c H locs cells slots Z ls hx hb hl w => lv_ior hx hb hd w) k
theorem aw_ixor {x y : Int32} (hd : decode M.2.2.1 pc = .ok (.ixor, 1)) (k : aw_w G M fr lo kc ks (pc + 1) lv (.int (x ^^^ y) :: st) h Q) : aw_w G M fr lo kc ks pc lv (.int y :: .int x :: st) h Q := aw_step (fun p l e R s m args below meth c H locs cells slots Z ls hx hb hl w => lv_ixor hx hb hd w) k
theorem aw_ishl {x y : Int32} (hd : decode M.2.2.1 pc = .ok (.ishl, 1)) (k : aw_w G M fr lo kc ks (pc + 1) lv (.int (x <<< (y &&& 31)) :: st) h Q) : aw_w G M fr lo kc ks pc lv (.int y :: .int x :: st) h Q := aw_step (fun p l e R s m args below meth c H locs cells slots Z ls hx hb hl w => lv_ishl hx hb hd w) k
theorem aw_ishr {x y : Int32} (hd : decode M.2.2.1 pc = .ok (.ishr, 1)) (k : aw_w G M fr lo kc ks (pc + 1) lv (.int (x >>> (y &&& 31)) :: st) h Q) : aw_w G M fr lo kc ks pc lv (.int y :: .int x :: st) h Q := aw_step (fun p l e R s m args below meth c H locs cells slots Z ls hx hb hl w => lv_ishr hx hb hd w) k
theorem aw_iushr {x y v : Int32} (hd : decode M.2.2.1 pc = .ok (.iushr, 1)) (hv : (x.toUInt32 >>> (y.toUInt32 &&& Int32.toUInt32 31)).toInt32 = v) (k : aw_w G M fr lo kc ks (pc + 1) lv (.int v :: st) h Q) : aw_w G M fr lo kc ks pc lv (.int y :: .int x :: st) h Q := aw_step (fun p l e R s m args below meth c H locs cells slots Z ls hx hb hl w => lv_iushr hx hb hd hv w) k
theorem aw_idiv {x y : Int32} (hd : decode M.2.2.1 pc = .ok (.idiv, 1)) (hne : ¬ y = 0) (k : aw_w G M fr lo kc ks (pc + 1) lv (.int (x / y) :: st) h Q) : aw_w G M fr lo kc ks pc lv (.int y :: .int x :: st) h Q := aw_step (fun p l e R s m args below meth c H locs cells slots Z ls hx hb hl w => lv_idiv hx hb hd hne w) k
theorem aw_irem {x y : Int32} (hd : decode M.2.2.1 pc = .ok (.irem, 1)) (hne : ¬ y = 0) (k : aw_w G M fr lo kc ks (pc + 1) lv (.int (x - x / y * y) :: st) h Q) : aw_w G M fr lo kc ks pc lv (.int y :: .int x :: st) h Q := aw_step (fun p l e R s m args below meth c H locs cells slots Z ls hx hb hl w => lv_irem hx hb hd hne w) k
theorem aw_i2l {x : Int32} {v : Int64} (hd : decode M.2.2.1 pc = .ok (.i2l, 1)) (hv : x.toInt64 = v) (k : aw_w G M fr lo kc ks (pc + 1) lv (.long v :: st) h Q) : aw_w G M fr lo kc ks pc lv (.int x :: st) h Q := aw_step (fun p l e R s m args below meth c H locs cells slots Z ls hx hb hl w => lv_i2l hx hb hd hv w) k
theorem aw_dup {va : Value} (hd : decode M.2.2.1 pc = .ok (.dup, 1)) (hva : va.category = 1) (k : aw_w G M fr lo kc ks (pc + 1) lv (va :: va :: st) h Q) : aw_w G M fr lo kc ks pc lv (va :: st) h Q := aw_step (fun p l e R s m args below meth c H locs cells slots Z ls hx hb hl w => lv_dup hx hb hd hva w) k
theorem aw_pop {va : Value} (hd : decode M.2.2.1 pc = .ok (.pop, 1)) (hva : va.category = 1) (k : aw_w G M fr lo kc ks (pc + 1) lv (st) h Q) : aw_w G M fr lo kc ks pc lv (va :: st) h Q := aw_step (fun p l e R s m args below meth c H locs cells slots Z ls hx hb hl w => lv_pop hx hb hd hva w) k
theorem aw_dup_x1 {va vb : Value} (hd : decode M.2.2.1 pc = .ok (.dup_x1, 1)) (hva : va.category = 1) (hvb : vb.category = 1) (k : aw_w G M fr lo kc ks (pc + 1) lv (va :: vb :: va :: st) h Q) : aw_w G M fr lo kc ks pc lv (va :: vb :: st) h Q := aw_step (fun p l e R s m args below meth c H locs cells slots Z ls hx hb hl w => lv_dup_x1 hx hb hd hva hvb w) k
theorem aw_dup_x2 {va vb vd : Value} (hd : decode M.2.2.1 pc = .ok (.dup_x2, 1)) (hva : va.category = 1) (hvb : vb.category = 1) (hvd : vd.category = 1) (k : aw_w G M fr lo kc ks (pc + 1) lv (va :: vb :: vd :: va :: st) h Q) : aw_w G M fr lo kc ks pc lv (va :: vb :: vd :: st) h Q := aw_step (fun p l e R s m args below meth c H locs cells slots Z ls hx hb hl w => lv_dup_x2 hx hb hd hva hvb hvd w) k
theorem aw_dup2 {va vb : Value} (hd : decode M.2.2.1 pc = .ok (.dup2, 1)) (hva : va.category = 1) (hvb : vb.category = 1) (k : aw_w G M fr lo kc ks (pc + 1) lv (va :: vb :: va :: vb :: st) h Q) : aw_w G M fr lo kc ks pc lv (va :: vb :: st) h Q := aw_step (fun p l e R s m args below meth c H locs cells slots Z ls hx hb hl w => lv_dup2_11 hx hb hd hva hvb w) k
theorem aw_goto {off : Int} {tgt : Nat} (hd : decode M.2.2.1 pc = .ok (.goto off, 3)) (ht : (pc : Int) + off = (tgt : Int)) (k : aw_w G M fr lo kc ks tgt lv st h Q) : aw_w G M fr lo kc ks pc lv st h Q := aw_step (fun p l e R s m args below meth c H locs cells slots Z ls hx hb hl w => lv_goto hx hb hd ht w) k
theorem aw_if_ne {x : Int32} {off : Int} {tgt : Nat} (hd : decode M.2.2.1 pc = .ok (.ifCond .ne off, 3)) (ht : (pc : Int) + off = (tgt : Int)) (k1 : ¬ x = 0 → aw_w G M fr lo kc ks tgt lv st h Q) (k2 : x = 0 → aw_w G M fr lo kc ks (pc + 3) lv st h Q) : aw_w G M fr lo kc ks pc lv (.int x :: st) h Q := aw_stepB (P := x = 0) (fun p l e R s m args below meth c H locs cells slots Z ls hx hb w1 w2 => lv_if_ne hx hb hd ht w2 w1) k2 k1
theorem aw_icmp_ne {x y : Int32} {off : Int} {tgt : Nat} (hd : decode M.2.2.1 pc = .ok (.if_icmp .ne off, 3)) (ht : (pc : Int) + off = (tgt : Int)) (k1 : ¬ x = y → aw_w G M fr lo kc ks tgt lv st h Q) (k2 : x = y → aw_w G M fr lo kc ks (pc + 3) lv st h Q) : aw_w G M fr lo kc ks pc lv (.int y :: .int x :: st) h Q := aw_stepB (P := x = y) (fun p l e R s m args below meth c H locs cells slots Z ls hx hb w1 w2 => lv_icmp_ne hx hb hd ht w2 w1) k2 k1
theorem aw_acmp_eq {rx ry : Option Nat} {off : Int} {tgt : Nat} (hd : decode M.2.2.1 pc = .ok (.if_acmp .eq off, 3)) (ht : (pc : Int) + off = (tgt : Int)) (k1 : rx = ry → aw_w G M fr lo kc ks tgt lv st h Q) (k2 : ¬ rx = ry → aw_w G M fr lo kc ks (pc + 3) lv st h Q) : aw_w G M fr lo kc ks pc lv (va_rf ry :: va_rf rx :: st) h Q := aw_stepB (fun p l e R s m args below meth c H locs cells slots Z ls hx hb w1 w2 => lv_acmp_eq hx hb hd ht w1 w2) k1 k2
theorem aw_acmp_ne {rx ry : Option Nat} {off : Int} {tgt : Nat} (hd : decode M.2.2.1 pc = .ok (.if_acmp .ne off, 3)) (ht : (pc : Int) + off = (tgt : Int)) (k1 : ¬ rx = ry → aw_w G M fr lo kc ks tgt lv st h Q) (k2 : rx = ry → aw_w G M fr lo kc ks (pc + 3) lv st h Q) : aw_w G M fr lo kc ks pc lv (va_rf ry :: va_rf rx :: st) h Q := aw_stepB (P := rx = ry) (fun p l e R s m args below meth c H locs cells slots Z ls hx hb w1 w2 => lv_acmp_ne hx hb hd ht w2 w1) k2 k1
theorem aw_lcmp {x y : Int64} (hd : decode M.2.2.1 pc = .ok (.lcmp, 1)) (k : aw_w G M fr lo kc ks (pc + 1) lv (.int (lg_cmp x y) :: st) h Q) : aw_w G M fr lo kc ks pc lv (.long y :: .long x :: st) h Q := aw_step (fun p l e R s m args below meth c H locs cells slots Z ls hx hb hl w => W.lcmp hx hb hd w) k
theorem aw_if_eq {x : Int32} {off : Int} {tgt : Nat} (hd : decode M.2.2.1 pc = .ok (.ifCond .eq off, 3)) (ht : (pc : Int) + off = (tgt : Int)) (k1 : (x = 0) → aw_w G M fr lo kc ks tgt lv st h Q) (k2 : ¬ (x = 0) → aw_w G M fr lo kc ks (pc + 3) lv st h Q) : aw_w G M fr lo kc ks pc lv (.int x :: st) h Q := aw_stepB (fun p l e R s m args below meth c H locs cells slots Z ls hx hb w1 w2 => lv_if_eq hx hb hd ht w1 w2) k1 k2
theorem aw_icmp_eq {x y : Int32} {off : Int} {tgt : Nat} (hd : decode M.2.2.1 pc = .ok (.if_icmp .eq off, 3)) (ht : (pc : Int) + off = (tgt : Int)) (k1 : (x = y) → aw_w G M fr lo kc ks tgt lv st h Q) (k2 : ¬ (x = y) → aw_w G M fr lo kc ks (pc + 3) lv st h Q) : aw_w G M fr lo kc ks pc lv (.int y :: .int x :: st) h Q := aw_stepB (fun p l e R s m args below meth c H locs cells slots Z ls hx hb w1 w2 => lv_icmp_eq hx hb hd ht w1 w2) k1 k2
theorem aw_if_lt {x : Int32} {off : Int} {tgt : Nat} (hd : decode M.2.2.1 pc = .ok (.ifCond .lt off, 3)) (ht : (pc : Int) + off = (tgt : Int)) (k1 : (x < 0) → aw_w G M fr lo kc ks tgt lv st h Q) (k2 : ¬ (x < 0) → aw_w G M fr lo kc ks (pc + 3) lv st h Q) : aw_w G M fr lo kc ks pc lv (.int x :: st) h Q := aw_stepB (fun p l e R s m args below meth c H locs cells slots Z ls hx hb w1 w2 => lv_if_lt hx hb hd ht w1 w2) k1 k2
theorem aw_icmp_lt {x y : Int32} {off : Int} {tgt : Nat} (hd : decode M.2.2.1 pc = .ok (.if_icmp .lt off, 3)) (ht : (pc : Int) + off = (tgt : Int)) (k1 : (x < y) → aw_w G M fr lo kc ks tgt lv st h Q) (k2 : ¬ (x < y) → aw_w G M fr lo kc ks (pc + 3) lv st h Q) : aw_w G M fr lo kc ks pc lv (.int y :: .int x :: st) h Q := aw_stepB (fun p l e R s m args below meth c H locs cells slots Z ls hx hb w1 w2 => lv_icmp_lt hx hb hd ht w1 w2) k1 k2
theorem aw_if_ge {x : Int32} {off : Int} {tgt : Nat} (hd : decode M.2.2.1 pc = .ok (.ifCond .ge off, 3)) (ht : (pc : Int) + off = (tgt : Int)) (k1 : (0 ≤ x) → aw_w G M fr lo kc ks tgt lv st h Q) (k2 : ¬ (0 ≤ x) → aw_w G M fr lo kc ks (pc + 3) lv st h Q) : aw_w G M fr lo kc ks pc lv (.int x :: st) h Q := aw_stepB (fun p l e R s m args below meth c H locs cells slots Z ls hx hb w1 w2 => lv_if_ge hx hb hd ht w1 w2) k1 k2
theorem aw_icmp_ge {x y : Int32} {off : Int} {tgt : Nat} (hd : decode M.2.2.1 pc = .ok (.if_icmp .ge off, 3)) (ht : (pc : Int) + off = (tgt : Int)) (k1 : (y ≤ x) → aw_w G M fr lo kc ks tgt lv st h Q) (k2 : ¬ (y ≤ x) → aw_w G M fr lo kc ks (pc + 3) lv st h Q) : aw_w G M fr lo kc ks pc lv (.int y :: .int x :: st) h Q := aw_stepB (fun p l e R s m args below meth c H locs cells slots Z ls hx hb w1 w2 => lv_icmp_ge hx hb hd ht w1 w2) k1 k2
theorem aw_if_gt {x : Int32} {off : Int} {tgt : Nat} (hd : decode M.2.2.1 pc = .ok (.ifCond .gt off, 3)) (ht : (pc : Int) + off = (tgt : Int)) (k1 : (0 < x) → aw_w G M fr lo kc ks tgt lv st h Q) (k2 : ¬ (0 < x) → aw_w G M fr lo kc ks (pc + 3) lv st h Q) : aw_w G M fr lo kc ks pc lv (.int x :: st) h Q := aw_stepB (fun p l e R s m args below meth c H locs cells slots Z ls hx hb w1 w2 => lv_if_gt hx hb hd ht w1 w2) k1 k2
theorem aw_icmp_gt {x y : Int32} {off : Int} {tgt : Nat} (hd : decode M.2.2.1 pc = .ok (.if_icmp .gt off, 3)) (ht : (pc : Int) + off = (tgt : Int)) (k1 : (y < x) → aw_w G M fr lo kc ks tgt lv st h Q) (k2 : ¬ (y < x) → aw_w G M fr lo kc ks (pc + 3) lv st h Q) : aw_w G M fr lo kc ks pc lv (.int y :: .int x :: st) h Q := aw_stepB (fun p l e R s m args below meth c H locs cells slots Z ls hx hb w1 w2 => lv_icmp_gt hx hb hd ht w1 w2) k1 k2
theorem aw_if_le {x : Int32} {off : Int} {tgt : Nat} (hd : decode M.2.2.1 pc = .ok (.ifCond .le off, 3)) (ht : (pc : Int) + off = (tgt : Int)) (k1 : (x ≤ 0) → aw_w G M fr lo kc ks tgt lv st h Q) (k2 : ¬ (x ≤ 0) → aw_w G M fr lo kc ks (pc + 3) lv st h Q) : aw_w G M fr lo kc ks pc lv (.int x :: st) h Q := aw_stepB (fun p l e R s m args below meth c H locs cells slots Z ls hx hb w1 w2 => lv_if_le hx hb hd ht w1 w2) k1 k2
theorem aw_icmp_le {x y : Int32} {off : Int} {tgt : Nat} (hd : decode M.2.2.1 pc = .ok (.if_icmp .le off, 3)) (ht : (pc : Int) + off = (tgt : Int)) (k1 : (x ≤ y) → aw_w G M fr lo kc ks tgt lv st h Q) (k2 : ¬ (x ≤ y) → aw_w G M fr lo kc ks (pc + 3) lv st h Q) : aw_w G M fr lo kc ks pc lv (.int y :: .int x :: st) h Q := aw_stepB (fun p l e R s m args below meth c H locs cells slots Z ls hx hb w1 w2 => lv_icmp_le hx hb hd ht w1 w2) k1 k2
theorem aw_ifnull {x : Nat} {off : Int} (hd : decode M.2.2.1 pc = .ok (.ifnull off, 3)) (k : aw_w G M fr lo kc ks (pc + 3) lv st h Q) : aw_w G M fr lo kc ks pc lv (.ref x :: st) h Q := aw_step (fun p l e R s m args below meth c H locs cells slots Z ls hx hb hl w => lv_ifnull hx hb hd w) k
theorem aw_ifnonnull {x : Nat} {off : Int} {tgt : Nat} (hd : decode M.2.2.1 pc = .ok (.ifnonnull off, 3)) (ht : (pc : Int) + off = (tgt : Int)) (k : aw_w G M fr lo kc ks tgt lv st h Q) : aw_w G M fr lo kc ks pc lv (.ref x :: st) h Q := aw_step (fun p l e R s m args below meth c H locs cells slots Z ls hx hb hl w => lv_ifnonnull hx hb hd ht w) k
theorem aw_tableIn {dflt lw9 hi : Int} {offs : Array Int} {len : Nat} {x : Int32} {off : Int} {tgt : Nat} (hd : decode M.2.2.1 pc = .ok (.tableswitch dflt lw9 hi offs, len)) (h1 : ¬ x.toInt < lw9) (h2 : ¬ hi < x.toInt) (ho : offs[(x.toInt - lw9).toNat]? = some off) (ht : (pc : Int) + off = (tgt : Int)) (k : aw_w G M fr lo kc ks tgt lv st h Q) : aw_w G M fr lo kc ks pc lv (.int x :: st) h Q := aw_step (fun p l e R s m args below meth c H locs cells slots Z ls hx hb hl w => lv_tableIn hx hb hd h1 h2 ho ht w) k
theorem aw_tableOut {dflt lw9 hi : Int} {offs : Array Int} {len : Nat} {x : Int32} {tgt : Nat} (hd : decode M.2.2.1 pc = .ok (.tableswitch dflt lw9 hi offs, len)) (h9 : x.toInt < lw9 ∨ hi < x.toInt) (ht : (pc : Int) + dflt = (tgt : Int)) (k : aw_w G M fr lo kc ks tgt lv st h Q) : aw_w G M fr lo kc ks pc lv (.int x :: st) h Q := aw_step (fun p l e R s m args below meth c H locs cells slots Z ls hx hb hl w => lv_tableOut hx hb hd h9 ht w) k
theorem aw_topi {x : Int32} (k : ∀ y : Int32, y = x → aw_w G M fr lo kc ks pc lv (.int y :: st) h Q) : aw_w G M fr lo kc ks pc lv (.int x :: st) h Q := k x rfl
theorem aw_top {x y : Int32} (e : x = y) (k : aw_w G M fr lo kc ks pc lv (.int y :: st) h Q) : aw_w G M fr lo kc ks pc lv (.int x :: st) h Q := e ▸ k
theorem aw_h {h' : List va_E} (e : h = h') (k : aw_w G M fr lo kc ks pc lv st h' Q) : aw_w G M fr lo kc ks pc lv st h Q := e ▸ k
end AWP
end
section
/-! ===== the abstract walk: fields, arrays, new cells, returns ===== -/
def aw_fl (own : String) (idx ci fi : Nat) : Prop := ∃ (r : vw_C) (ref : String), am_cl[ci]? = some r ∧ fi < r.2.2 ∧ Cond.fieldLink own idx ref (r.2.1 fi).2.1 (r.2.1 fi).2.2.1 ∈ aw_T ∧ (ref = (r.2.1 fi).1 ∨ Cond.sameField ref (r.2.1 fi).1 (r.2.1 fi).2.1 (r.2.1 fi).2.2.1 ∈ aw_T)
def aw_nf (ci fi : Nat) : Prop := ∀ r, am_cl[ci]? = some r → (r.2.1 fi).2.2.2 = false
def aw_ff (own : String) (ci fi : Nat) : Prop := ∀ r, am_cl[ci]? = some r → (r.2.1 fi).2.2.2 = true ∧ (r.2.1 fi).1 = own
def aw_nl (own : String) (idx ci N : Nat) : Prop := ∃ r : vw_C, am_cl[ci]? = some r ∧ r.2.2 = N ∧ Cond.classLink own idx r.1 ∈ aw_T ∧ Cond.instantiable r.1 r.2.2 ∈ aw_T ∧ Cond.initialized r.1 ∈ aw_T
theorem aw_Sp {A : Nat → Prop} {H0 H H1 : Heap} {locs : List Loc} (hS : va_S A H0 H locs) (hz : H.size ≤ H1.size) (ho : ∀ q : Nat, q < H.size → H1[q]? = H[q]?) : va_S A H0 H1 locs :=
  ⟨Nat.le_trans hS.1 hz, fun x a b => (ho x (Nat.lt_of_lt_of_le a hS.1)).trans (hS.2.1 x a b), hS.2.2⟩
section AWH
variable {G : ag_T} {M : am_M} {fr lo kc ks pc : Nat} {lv : List (Nat × Value)} {st : List Value} {h : List va_E} {Q : aq_T}
theorem aw_getf (i ci fi : Nat) {idx : Nat} {fs : List Value} {v : Value} (hd : decode M.2.2.1 pc = .ok (.getfield idx, 3)) (hF : aw_fl M.1 idx ci fi) (hh : h[i]? = some (.inr (ci, fs))) (hv : fs[fi]? = some v)
    (k : aw_w G M fr lo kc ks (pc + 3) lv (v :: st) h Q) : aw_w G M fr lo kc ks pc lv (.ref (G.1 + i) :: st) h Q := by
  intro p l e R s m args below meth c H locs cells slots mc ms ls C hl hR hO hS hG h1 h2 h3 h4
  obtain ⟨hx, hb, hml, hown, hts, hret, htab, hlk, hnm, hst9, hK, hfr, hlo⟩ := id C
  obtain ⟨⟨C0, T0, N0⟩, ref, hc, hk, hlink, hsame⟩ := hF
  refine va_get (D := G.2.1) (cl := am_cl) (tys := ag_ty G) (ws := ah_ws G 0 h) (C := C0) (T := T0) (N := N0) hx hb hts (am_ok ci _ hc).1 hown hK.1 hR.1 i (ah_at hh) hc fi hk (hts _ hlink) (fun x9 h9 => ?_) hv hd
    (k p l e R s m args below meth c H locs cells slots mc ms ls C hl hR hO hS hG h1 h2 h3 h4)
  rcases hsame with e9 | e9
  · rw [e9]; exact h9
  · exact u_same (hts _ e9) x9 h9
theorem aw_putf (i ci fi : Nat) {idx : Nat} {fs : List Value} {v : Value} (hd : decode M.2.2.1 pc = .ok (.putfield idx, 3)) (hF : aw_fl M.1 idx ci fi) (hfin : aw_nf ci fi) (hh : h[i]? = some (.inr (ci, fs))) (hn : narrow (am_ty ci fi) v = v) (hfit : fits (am_ty ci fi) v = true) (hl9 : fi < fs.length)
    (k : aw_w G M fr lo kc ks (pc + 3) lv st (h.set i (.inr (ci, fs.set fi v))) Q) : aw_w G M fr lo kc ks pc lv (v :: .ref (G.1 + i) :: st) h Q := by
  intro p l e R s m args below meth c H locs cells slots mc ms ls C hl hR hO hS hG h1 h2 h3 h4
  obtain ⟨hx, hb, hml, hown, hts, hret, htab, hlk, hnm, hst9, hK, hfr, hlo⟩ := id C
  obtain ⟨⟨C0, T0, N0⟩, ref, hc, hk, hlink, hsame⟩ := hF
  obtain ⟨ok1, ok2, ok3⟩ := am_ok ci _ hc
  have hap := va_apart (own := M.1) hts ok1 (am_ty ci) ok2 ok3 hK.1 hc
  obtain ⟨r, e1, cell, q1, q2, q3, q4⟩ := hR.cell hh
  have hr : r = (C0, T0, N0) := Option.some.inj (e1.symm.trans hc)
  subst hr
  obtain ⟨hS1, hfc, kC, hkC, hkind⟩ := hK.1.1 ci _ hc
  obtain ⟨cf, kf, fi9, f, hi, hsl⟩ := hS1 fi hk
  have hlay := hts _ (ok1 _ (u_in_lay hk))
  unfold u_lay at hlay
  rw [if_neg (by rw [hfin _ hc]; decide)] at hlay
  have hst0 := (u_facts hfc hkC (u_lays hts ok1 hk) hi).1
  have h6 := u_store hfc hkC hkind hlay hi (ok2 fi hk) hn hfit
  have hsm : s.fieldFound? ref (T0 fi).2.1 (T0 fi).2.2.1 = some (cf, kf, fi9, f) := by
    rcases hsame with e9 | e9
    · rw [e9]; exact hi
    · exact u_same (hts _ e9) _ hi
  refine W.putK hx hb (f := f) ⟨hown, hts _ hlink, ⟨_, _, _, hsm⟩, hst0⟩ (by rw [q2]; exact h6) q1 q3 (by rw [hsl]; exact k2_hasslot (q4 fi hk)) rfl rfl hd fun H' e1 e2 e3 => ?_
  rw [hsl] at e1 ⊢
  exact k p l e R s m args below meth c H' _ cells slots mc ms ls C hl (hR.set hh e2 e3 ⟨_, hc, t_OB.to (V := updV (vp_V fs) fi v) ⟨_, e1, q2, q3, t_set q4 hap hk v⟩ (fun j _ => vp_updV_set hl9 v j)⟩) hO (hS.put e2 e3 (Nat.le_add_right _ _)) hG h1 h2 h3 h4
theorem aw_putF (i ci fi : Nat) {idx : Nat} {fs : List Value} {v : Value} (hd : decode M.2.2.1 pc = .ok (.putfield idx, 3)) (hF : aw_fl M.1 idx ci fi) (hfin : aw_ff M.1 ci fi) (hin : M.2.1.name = "<init>") (hh : h[i]? = some (.inr (ci, fs))) (hn : narrow (am_ty ci fi) v = v) (hfit : fits (am_ty ci fi) v = true) (hl9 : fi < fs.length)
    (k : aw_w G M fr lo kc ks (pc + 3) lv st (h.set i (.inr (ci, fs.set fi v))) Q) : aw_w G M fr lo kc ks pc lv (v :: .ref (G.1 + i) :: st) h Q := by
  intro p l e R s m args below meth c H locs cells slots mc ms ls C hl hR hO hS hG h1 h2 h3 h4
  obtain ⟨hx, hb, hml, hown, hts, hret, htab, hlk, hnm, hst9, hK, hfr, hlo⟩ := id C
  obtain ⟨⟨C0, T0, N0⟩, ref, hc, hk, hlink, hsame⟩ := hF
  obtain ⟨ok1, ok2, ok3⟩ := am_ok ci _ hc
  have hap := va_apart (own := M.1) hts ok1 (am_ty ci) ok2 ok3 hK.1 hc
  obtain ⟨r, e1, cell, q1, q2, q3, q4⟩ := hR.cell hh
  have hr : r = (C0, T0, N0) := Option.some.inj (e1.symm.trans hc)
  subst hr
  obtain ⟨hS1, hfc, kC, hkC, hkind⟩ := hK.1.1 ci _ hc
  obtain ⟨cf, kf, fi9, f, hi, hsl⟩ := hS1 fi hk
  have hlay := hts _ (ok1 _ (u_in_lay hk))
  unfold u_lay at hlay
  rw [if_pos (hfin _ hc).1] at hlay
  have hst0 := (u_facts hfc hkC (u_lays hts ok1 hk) hi).1
  have hcf : m.cls = cf := by
    obtain ⟨_, _, c', _, _, _, -, -, hf', -, -, -, hown2, -⟩ := Cond.laysFinal_spec hlay
    have e1 : c' = cf := by have := hi.symm.trans hf'; simp at this; exact this.1.symm
    have e4 : (T0 fi).1 = M.1 := (hfin _ hc).2
    rw [e4] at hown2
    rw [← e1]; exact Option.some.inj (hown.symm.trans hown2)
  have h6 := u_fits hfc hkC hkind (Or.inr hlay) hi (ok2 fi hk) hn hfit
  have hsm : s.fieldFound? ref (T0 fi).2.1 (T0 fi).2.2.1 = some (cf, kf, fi9, f) := by
    rcases hsame with e9 | e9
    · rw [e9]; exact hi
    · exact u_same (hts _ e9) _ hi
  refine W.putFinK hx hb hown (hts _ hlink) hsm hst0 hcf (hnm.trans hin) (by rw [q2]; exact h6) q1 q3 (by rw [hsl]; exact k2_hasslot (q4 fi hk)) rfl rfl hd fun H' e1 e2 e3 => ?_
  rw [hsl] at e1 ⊢
  exact k p l e R s m args below meth c H' _ cells slots mc ms ls C hl (hR.set hh e2 e3 ⟨_, hc, t_OB.to (V := updV (vp_V fs) fi v) ⟨_, e1, q2, q3, t_set q4 hap hk v⟩ (fun j _ => vp_updV_set hl9 v j)⟩) hO (hS.put e2 e3 (Nat.le_add_right _ _)) hG h1 h2 h3 h4
theorem aw_new (ci N : Nat) {idx kc' ks' : Nat} {fs : List Value} (hd : decode M.2.2.1 pc = .ok (.new idx, 3)) (hN : aw_nl M.1 idx ci N) (hfs : ∀ j, j < N → defaultValue (am_ty ci j) = vp_V fs j) (hk1 : kc = kc' + 1) (hk2 : ks = ks' + N)
    (k : aw_w G M fr lo kc' ks' (pc + 3) lv (.ref (G.1 + h.length) :: st) (h ++ [.inr (ci, fs)]) Q) : aw_w G M fr lo kc ks pc lv st h Q := by
  intro p l e R s m args below meth c H locs cells slots mc ms ls C hl hR hO hS hG h1 h2 h3 h4
  obtain ⟨hx, hb, hml, hown, hts, hret, htab, hlk, hnm, hst9, hK, hfr, hlo⟩ := id C
  obtain ⟨⟨C0, T0, N0⟩, hc, hN0, w1, w2, w3⟩ := hN
  have hN1 : N0 = N := hN0
  subst hN1
  obtain ⟨ok1, ok2, ok3⟩ := am_ok ci _ hc
  have hKn := hK.1.1 ci _ hc
  refine W.newcK hx hb hown (hts _ w1) (hts _ w2) (hts _ w3) rfl hd (by omega) (by have hz : (C0, T0, N0).2.2 = N0 := rfl; omega) hKn.2.1 hR.2 fun H' kC hkC e1 z1 o1 => ?_
  refine k p l e R s m args below meth c H' locs (cells + 1) (slots + N0) mc ms ls C hl (hR.push (by rw [z1, hR.2]) (fun q hq => o1 q (by rw [← hR.2]; exact hq)) ⟨_, hc, (u_born (am_ty ci) hts ok1 hKn hkC e1 ok2).to hfs⟩) hO (aw_Sp hS (by rw [z1, hR.2]; exact Nat.le_succ _) (fun q hq => o1 q (by rw [← hR.2]; exact hq))) hG (by omega) (by omega) h3 h4
theorem aw_iald (i : Nat) {n : Nat} {f : Nat → Int32} {j : Int32} (hd : decode M.2.2.1 pc = .ok (.iaload, 1)) (hh : h[i]? = some (.inl (G.2.2.1 0, n, .inl f))) (hin : vp_in j n)
    (k : aw_w G M fr lo kc ks (pc + 1) lv (.int (f j.toNatClampNeg) :: st) h Q) : aw_w G M fr lo kc ks pc lv (.int j :: .ref (G.1 + i) :: st) h Q := by
  intro p l e R s m args below meth c H locs cells slots mc ms ls C hl hR hO hS hG h1 h2 h3 h4
  obtain ⟨hx, hb, hml, hown, hts, hret, htab, hlk, hnm, hst9, hK, hfr, hlo⟩ := id C
  exact va_iald hx hb hK.1 hR.1 i 0 (ah_at hh) rfl hin hd (k p l e R s m args below meth c H locs cells slots mc ms ls C hl hR hO hS hG h1 h2 h3 h4)
theorem aw_zald (i : Nat) {n : Nat} {f : Nat → Int32} {j : Int32} (hd : decode M.2.2.1 pc = .ok (.baload, 1)) (hh : h[i]? = some (.inl (G.2.2.1 1, n, .inl f))) (hin : vp_in j n)
    (k : aw_w G M fr lo kc ks (pc + 1) lv (.int (f j.toNatClampNeg) :: st) h Q) : aw_w G M fr lo kc ks pc lv (.int j :: .ref (G.1 + i) :: st) h Q := by
  intro p l e R s m args below meth c H locs cells slots mc ms ls C hl hR hO hS hG h1 h2 h3 h4
  obtain ⟨hx, hb, hml, hown, hts, hret, htab, hlk, hnm, hst9, hK, hfr, hlo⟩ := id C
  exact va_zald hx hb hK.1 hR.1 i 1 (ah_at hh) rfl hin hd (k p l e R s m args below meth c H locs cells slots mc ms ls C hl hR hO hS hG h1 h2 h3 h4)
theorem aw_lald (i : Nat) {n : Nat} {f : Nat → Int64} {j : Int32} (hd : decode M.2.2.1 pc = .ok (.laload, 1)) (hh : h[i]? = some (.inl (G.2.2.1 2, n, .inr (.inl f)))) (hin : vp_in j n)
    (k : aw_w G M fr lo kc ks (pc + 1) lv (.long (f j.toNatClampNeg) :: st) h Q) : aw_w G M fr lo kc ks pc lv (.int j :: .ref (G.1 + i) :: st) h Q := by
  intro p l e R s m args below meth c H locs cells slots mc ms ls C hl hR hO hS hG h1 h2 h3 h4
  obtain ⟨hx, hb, hml, hown, hts, hret, htab, hlk, hnm, hst9, hK, hfr, hlo⟩ := id C
  exact va_lald hx hb hK.1 hR.1 i 2 (ah_at hh) rfl hin hd (k p l e R s m args below meth c H locs cells slots mc ms ls C hl hR hO hS hG h1 h2 h3 h4)
theorem aw_aald (i : Nat) {n : Nat} {f : Nat → Option Nat} {j : Int32} (hd : decode M.2.2.1 pc = .ok (.aaload, 1)) (hh : h[i]? = some (.inl (G.2.2.1 3, n, .inr (.inr (.inr (.inr f)))))) (hin : vp_in j n)
    (k : aw_w G M fr lo kc ks (pc + 1) lv (va_rf (f j.toNatClampNeg) :: st) h Q) : aw_w G M fr lo kc ks pc lv (.int j :: .ref (G.1 + i) :: st) h Q := by
  intro p l e R s m args below meth c H locs cells slots mc ms ls C hl hR hO hS hG h1 h2 h3 h4
  obtain ⟨hx, hb, hml, hown, hts, hret, htab, hlk, hnm, hst9, hK, hfr, hlo⟩ := id C
  exact va_aldq hx hb hK.1 hR.1 i 3 (ah_at hh) rfl hin hd (k p l e R s m args below meth c H locs cells slots mc ms ls C hl hR hO hS hG h1 h2 h3 h4)
theorem aw_alen (i t : Nat) {cA : ClassId} {x : vp_A} {ty : FieldType} {v : Int32} (hd : decode M.2.2.1 pc = .ok (.arraylength, 1)) (hh : h[i]? = some (.inl (cA, x))) (ht : (ag_ty G)[t]? = some (cA, ty)) (hv : Int32.ofNat x.1 = v)
    (k : aw_w G M fr lo kc ks (pc + 1) lv (.int v :: st) h Q) : aw_w G M fr lo kc ks pc lv (.ref (G.1 + i) :: st) h Q := by
  intro p l e R s m args below meth c H locs cells slots mc ms ls C hl hR hO hS hG h1 h2 h3 h4
  obtain ⟨hx, hb, hml, hown, hts, hret, htab, hlk, hnm, hst9, hK, hfr, hlo⟩ := id C
  exact va_alen hx hb hK.1 hR.1 i t (ah_at hh) ht hv hd (k p l e R s m args below meth c H locs cells slots mc ms ls C hl hR hO hS hG h1 h2 h3 h4)
theorem aw_iast (i : Nat) {n : Nat} {f : Nat → Int32} {j x : Int32} (hd : decode M.2.2.1 pc = .ok (.iastore, 1)) (hh : h[i]? = some (.inl (G.2.2.1 0, n, .inl f))) (hin : vp_in j n)
    (k : aw_w G M fr lo kc ks (pc + 1) lv st (h.set i (.inl (G.2.2.1 0, n, .inl (upd f j.toNatClampNeg x)))) Q) : aw_w G M fr lo kc ks pc lv (.int x :: .int j :: .ref (G.1 + i) :: st) h Q := by
  intro p l e R s m args below meth c H locs cells slots mc ms ls C hl hR hO hS hG h1 h2 h3 h4
  obtain ⟨hx, hb, hml, hown, hts, hret, htab, hlk, hnm, hst9, hK, hfr, hlo⟩ := id C
  refine W.iast hx hb (hR.cell hh) ((hK.1.2 0 _ rfl).1 n (fun j => .int (f j))) (fun q => by cases q) (by show ¬ (j < 0 ∨ (arrV _ _ _).slots.size ≤ _); rw [arrV_size]; exact hin) rfl rfl hd fun H1 e1 z oq => ?_
  refine k p l e R s m args below meth c H1 _ cells slots mc ms ls C hl (hR.set hh z oq ?_) hO (hS.put z oq (Nat.le_add_right _ _)) hG h1 h2 h3 h4
  show H1[G.1 + i]? = some (vp_cell _ _)
  rw [e1, vp_cell_i, vp_cell_i, arrV_store]
  congr 2
  funext q
  by_cases hq : q = j.toNatClampNeg
  · subst hq
    simp [updV, upd]
  · simp [updV, upd, hq]
theorem aw_zast (i : Nat) {n : Nat} {f : Nat → Int32} {j x : Int32} (hd : decode M.2.2.1 pc = .ok (.bastore, 1)) (hh : h[i]? = some (.inl (G.2.2.1 1, n, .inl f))) (hin : vp_in j n)
    (k : aw_w G M fr lo kc ks (pc + 1) lv st (h.set i (.inl (G.2.2.1 1, n, .inl (upd f j.toNatClampNeg (vp_nar .boolean x))))) Q) : aw_w G M fr lo kc ks pc lv (.int x :: .int j :: .ref (G.1 + i) :: st) h Q := by
  intro p l e R s m args below meth c H locs cells slots mc ms ls C hl hR hO hS hG h1 h2 h3 h4
  obtain ⟨hx, hb, hml, hown, hts, hret, htab, hlk, hnm, hst9, hK, hfr, hlo⟩ := id C
  refine W.zast hx hb (hR.cell hh) ((hK.1.2 1 _ rfl).1 n (fun j => .int (f j))) (fun q => by cases q) (by show ¬ (j < 0 ∨ (arrV _ _ _).slots.size ≤ _); rw [arrV_size]; exact hin) rfl rfl hd fun H1 e1 z oq => ?_
  refine k p l e R s m args below meth c H1 _ cells slots mc ms ls C hl (hR.set hh z oq ?_) hO (hS.put z oq (Nat.le_add_right _ _)) hG h1 h2 h3 h4
  show H1[G.1 + i]? = some (vp_cell _ _)
  rw [e1, vp_cell_i, vp_cell_i, arrV_store]
  congr 2
  funext q
  by_cases hq : q = j.toNatClampNeg
  · subst hq
    simp [updV, upd, vp_nar]
    try rfl
  · simp [updV, upd, hq]
theorem aw_last (i : Nat) {n : Nat} {f : Nat → Int64} {j : Int32} {x : Int64} (hd : decode M.2.2.1 pc = .ok (.lastore, 1)) (hh : h[i]? = some (.inl (G.2.2.1 2, n, .inr (.inl f)))) (hin : vp_in j n)
    (k : aw_w G M fr lo kc ks (pc + 1) lv st (h.set i (.inl (G.2.2.1 2, n, .inr (.inl (vp_updL f j.toNatClampNeg x))))) Q) : aw_w G M fr lo kc ks pc lv (.long x :: .int j :: .ref (G.1 + i) :: st) h Q := by
  intro p l e R s m args below meth c H locs cells slots mc ms ls C hl hR hO hS hG h1 h2 h3 h4
  obtain ⟨hx, hb, hml, hown, hts, hret, htab, hlk, hnm, hst9, hK, hfr, hlo⟩ := id C
  refine W.last hx hb (hR.cell hh) ((hK.1.2 2 _ rfl).1 n (fun j => .long (f j))) (fun q => by cases q) (by show ¬ (j < 0 ∨ (arrV _ _ _).slots.size ≤ _); rw [arrV_size]; exact hin) rfl rfl hd fun H1 e1 z oq => ?_
  refine k p l e R s m args below meth c H1 _ cells slots mc ms ls C hl (hR.set hh z oq ?_) hO (hS.put z oq (Nat.le_add_right _ _)) hG h1 h2 h3 h4
  show H1[G.1 + i]? = some (vp_cell _ _)
  rw [e1, vp_cell_l, vp_cell_l, arrV_store]
  congr 2
  funext q
  by_cases hq : q = j.toNatClampNeg
  · subst hq
    simp [updV, vp_updL]
  · simp [updV, vp_updL, hq]
theorem aw_newi {n : Int32} {N kc' ks' : Nat} (hd : decode M.2.2.1 pc = .ok (.newarray .int, 2)) (hw : Cond.arrayClass .int ∈ aw_T) (hn : ¬ n < 0) (hN : n.toNatClampNeg = N) (hb9 : N ≤ 100000) (hk1 : kc = kc' + 1) (hk2 : ks = ks' + N)
    (k : aw_w G M fr lo kc' ks' (pc + 2) lv (.ref (G.1 + h.length) :: st) (h ++ [.inl (G.2.2.1 0, N, .inl (fun _ => 0))]) Q) : aw_w G M fr lo kc ks pc lv (.int n :: st) h Q := by
  intro p l e R s m args below meth c H locs cells slots mc ms ls C hl hR hO hS hG h1 h2 h3 h4
  obtain ⟨hx, hb, hml, hown, hts, hret, htab, hlk, hnm, hst9, hK, hfr, hlo⟩ := id C
  refine va_newaK (atype := .int) hx hb (hts _ hw) rfl hd rfl hn hN (by show N * 4 ≤ _; omega) (by omega) (by omega) hR.2 fun H' cA e1 z1 o1 _ hf9 => ?_
  have hcA : cA = G.2.2.1 0 := Option.some.inj (hf9.symm.trans (hK.1.2 0 _ rfl).2)
  subst hcA
  exact k p l e R s m args below meth c H' locs (cells + 1) (slots + N) mc ms ls C hl (hR.push (by rw [z1, hR.2]) (fun q hq => o1 q (by rw [← hR.2]; exact hq)) e1) hO (aw_Sp hS (by rw [z1, hR.2]; exact Nat.le_succ _) (fun q hq => o1 q (by rw [← hR.2]; exact hq))) hG (by omega) (by omega) h3 h4
theorem aw_newz {n : Int32} {N kc' ks' : Nat} (hd : decode M.2.2.1 pc = .ok (.newarray .boolean, 2)) (hw : Cond.arrayClass .boolean ∈ aw_T) (hn : ¬ n < 0) (hN : n.toNatClampNeg = N) (hb9 : N ≤ 100000) (hk1 : kc = kc' + 1) (hk2 : ks = ks' + N)
    (k : aw_w G M fr lo kc' ks' (pc + 2) lv (.ref (G.1 + h.length) :: st) (h ++ [.inl (G.2.2.1 1, N, .inl (fun _ => 0))]) Q) : aw_w G M fr lo kc ks pc lv (.int n :: st) h Q := by
  intro p l e R s m args below meth c H locs cells slots mc ms ls C hl hR hO hS hG h1 h2 h3 h4
  obtain ⟨hx, hb, hml, hown, hts, hret, htab, hlk, hnm, hst9, hK, hfr, hlo⟩ := id C
  refine va_newaK (atype := .boolean) hx hb (hts _ hw) rfl hd rfl hn hN (by show N * 1 ≤ _; omega) (by omega) (by omega) hR.2 fun H' cA e1 z1 o1 _ hf9 => ?_
  have hcA : cA = G.2.2.1 1 := Option.some.inj (hf9.symm.trans (hK.1.2 1 _ rfl).2)
  subst hcA
  exact k p l e R s m args below meth c H' locs (cells + 1) (slots + N) mc ms ls C hl (hR.push (by rw [z1, hR.2]) (fun q hq => o1 q (by rw [← hR.2]; exact hq)) e1) hO (aw_Sp hS (by rw [z1, hR.2]; exact Nat.le_succ _) (fun q hq => o1 q (by rw [← hR.2]; exact hq))) hG (by omega) (by omega) h3 h4
theorem aw_newl {n : Int32} {N kc' ks' : Nat} (hd : decode M.2.2.1 pc = .ok (.newarray .long, 2)) (hw : Cond.arrayClass .long ∈ aw_T) (hn : ¬ n < 0) (hN : n.toNatClampNeg = N) (hb9 : N ≤ 100000) (hk1 : kc = kc' + 1) (hk2 : ks = ks' + N)
    (k : aw_w G M fr lo kc' ks' (pc + 2) lv (.ref (G.1 + h.length) :: st) (h ++ [.inl (G.2.2.1 2, N, .inr (.inl (fun _ => 0)))]) Q) : aw_w G M fr lo kc ks pc lv (.int n :: st) h Q := by
  intro p l e R s m args below meth c H locs cells slots mc ms ls C hl hR hO hS hG h1 h2 h3 h4
  obtain ⟨hx, hb, hml, hown, hts, hret, htab, hlk, hnm, hst9, hK, hfr, hlo⟩ := id C
  refine va_newaK (atype := .long) hx hb (hts _ hw) rfl hd rfl hn hN (by show N * 8 ≤ _; omega) (by omega) (by omega) hR.2 fun H' cA e1 z1 o1 _ hf9 => ?_
  have hcA : cA = G.2.2.1 2 := Option.some.inj (hf9.symm.trans (hK.1.2 2 _ rfl).2)
  subst hcA
  exact k p l e R s m args below meth c H' locs (cells + 1) (slots + N) mc ms ls C hl (hR.push (by rw [z1, hR.2]) (fun q hq => o1 q (by rw [← hR.2]; exact hq)) e1) hO (aw_Sp hS (by rw [z1, hR.2]; exact Nat.le_succ _) (fun q hq => o1 q (by rw [← hR.2]; exact hq))) hG (by omega) (by omega) h3 h4
/-- the four ends by a return -/
theorem aw_iret {v : Int32} (hd : decode M.2.2.1 pc = .ok (.ireturn, 1)) (hr9 : M.2.2.2.2.1 = some .int) (hq : Q (.inl (some (.int v))) h) : aw_w G M fr lo kc ks pc lv [.int v] h Q := by
  intro p l e R s m args below meth c H locs cells slots mc ms ls C hl hR hO hS hG h1 h2 h3 h4
  obtain ⟨hx, hb, hml, hown, hts, hret, htab, hlk, hnm, hst9, hK, hfr, hlo⟩ := id C
  refine W.widen (k := mc) (n := ms) (by omega) (by omega) ?_
  intro T hT X
  obtain ⟨t, a1, o, b1, b2, ⟨e1, e2⟩, L, hF, hL⟩ := (W.iret (Qc := fun _ _ o t => o = .returned (some (.int v)) ∧ t.heap = H) (free := aw_A G) hx hb (hret.trans hr9) (fun t ht _ => ⟨rfl, ht⟩) hS.2.2 hd hlk) T hT X
  exact ⟨t, a1, o, b1, b2, h, L, by rw [e2]; exact hR, hF.2.1, hF.2.2, ⟨by rw [e2]; exact hS.1, by rw [e2]; exact hS.2.1, hL⟩, Or.inl ⟨_, e1, hq⟩⟩
theorem aw_zret {v : Int32} (hd : decode M.2.2.1 pc = .ok (.ireturn, 1)) (hr9 : M.2.2.2.2.1 = some .boolean) (hv : v = 0 ∨ v = 1) (hq : Q (.inl (some (.int v))) h) : aw_w G M fr lo kc ks pc lv [.int v] h Q := by
  intro p l e R s m args below meth c H locs cells slots mc ms ls C hl hR hO hS hG h1 h2 h3 h4
  obtain ⟨hx, hb, hml, hown, hts, hret, htab, hlk, hnm, hst9, hK, hfr, hlo⟩ := id C
  refine W.widen (k := mc) (n := ms) (by omega) (by omega) ?_
  intro T hT X
  have hn9 : narrow .boolean (.int v) = .int v := by rcases hv with rfl | rfl <;> decide
  obtain ⟨t, a1, o, b1, b2, ⟨e1, e2⟩, L, hF, hL⟩ := (W.zret (Qc := fun _ _ o t => o = .returned (some (.int v)) ∧ t.heap = H) (free := aw_A G) hx hb (hret.trans hr9) hn9 (fun t ht _ => ⟨rfl, ht⟩) hS.2.2 hd hlk) T hT X
  exact ⟨t, a1, o, b1, b2, h, L, by rw [e2]; exact hR, hF.2.1, hF.2.2, ⟨by rw [e2]; exact hS.1, by rw [e2]; exact hS.2.1, hL⟩, Or.inl ⟨_, e1, hq⟩⟩
theorem aw_vret (hd : decode M.2.2.1 pc = .ok (.return_, 1)) (hr9 : M.2.2.2.2.1 = none) (hq : Q (.inl none) h) : aw_w G M fr lo kc ks pc lv [] h Q := by
  intro p l e R s m args below meth c H locs cells slots mc ms ls C hl hR hO hS hG h1 h2 h3 h4
  obtain ⟨hx, hb, hml, hown, hts, hret, htab, hlk, hnm, hst9, hK, hfr, hlo⟩ := id C
  refine W.widen (k := mc) (n := ms) (by omega) (by omega) ?_
  intro T hT X
  obtain ⟨t, a1, o, b1, b2, ⟨e1, e2⟩, L, hF, hL⟩ := (W.vret (Qc := fun _ _ o t => o = .returned none ∧ t.heap = H) (free := aw_A G) hx hb (hret.trans hr9) (fun t ht _ => ⟨rfl, ht⟩) hS.2.2 hd hlk) T hT X
  exact ⟨t, a1, o, b1, b2, h, L, by rw [e2]; exact hR, hF.2.1, hF.2.2, ⟨by rw [e2]; exact hS.1, by rw [e2]; exact hS.2.1, hL⟩, Or.inl ⟨_, e1, hq⟩⟩
theorem aw_aret {v : Value} {rt : FieldType} (hd : decode M.2.2.1 pc = .ok (.areturn, 1)) (hr9 : M.2.2.2.2.1 = some rt) (hrt : (∃ n, rt = .object n) ∨ ∃ t, rt = .array t) (hv : v = .null ∨ ∃ a, v = .ref a) (hq : Q (.inl (some v)) h) : aw_w G M fr lo kc ks pc lv [v] h Q := by
  intro p l e R s m args below meth c H locs cells slots mc ms ls C hl hR hO hS hG h1 h2 h3 h4
  obtain ⟨hx, hb, hml, hown, hts, hret, htab, hlk, hnm, hst9, hK, hfr, hlo⟩ := id C
  refine W.widen (k := mc) (n := ms) (by omega) (by omega) ?_
  intro T hT X
  obtain ⟨t, a1, o, b1, b2, ⟨e1, e2⟩, L, hF, hL⟩ := (W.aret (Qc := fun _ _ o t => o = .returned (some v) ∧ t.heap = H) (free := aw_A G) hx hb (hret.trans hr9) hrt hv (fun t ht _ => ⟨rfl, ht⟩) hS.2.2 hd hlk) T hT X
  exact ⟨t, a1, o, b1, b2, h, L, by rw [e2]; exact hR, hF.2.1, hF.2.2, ⟨by rw [e2]; exact hS.1, by rw [e2]; exact hS.2.1, hL⟩, Or.inl ⟨_, e1, hq⟩⟩
end AWH
end
section
/-! ===== the abstract walk: calls ===== -/
def aw_x (G : ag_T) (M : am_M) (fr lo kc ks pc : Nat) (lv : List (Nat × Value)) (st : List Value) (h : List va_E) (k9 ci : Nat) (Q : aq_T) : Prop :=
  ∀ (p : Program) (l : Launch) (e : Env) (R : Room) (s : State) (m : MethodId) (args : Array Value) (below : List Frame) (meth : Method) (c : Code) (H : Heap) (locs : List Loc) (cells slots mc ms : Nat) (ls : Array Slot),
    aw_C G M fr lo p l R s m args meth c → lv_has ls M.2.2.2.1 lv → ah_R G h H → h[k9]? = some (.inr (ci, [])) → aw_O G s s.heap → va_S (aw_A G) s.heap H locs → G.1 ≤ s.heap.size → cells + kc ≤ mc → slots + ks ≤ ms → mc ≤ R.cells → ms ≤ R.slots →
    ∀ T : State, T.heap = H → Stand p l e R s m args below meth c T locs cells slots → ∃ t, Steps p.tables e below ((T.setTop (F0 m pc ls st)).pushFrame (.throwing (G.1 + k9))) t ∧ aw_Z G Q below mc ms s t
/-- a method of the program, by its words -/
def aw_my (Y : am_M) : Prop := ((Cond.code Y.2.1 Y.2.2.1 Y.2.2.2.1 Y.2.2.2.2.1 ∈ aw_T ∧ Y.2.2.2.2.2 = []) ∨ Cond.codeWith Y.2.1 Y.2.2.1 Y.2.2.2.1 Y.2.2.2.2.1 Y.2.2.2.2.2 ∈ aw_T) ∧ plainFor Y.2.1 = true ∧ Y.1 = Y.2.1.cls
theorem aw_my.facts {Y : am_M} (hY : aw_my Y) {args : Array Value} {s : State} (hts : ∀ w ∈ aw_T, w.before args s = true) :
    ∃ (mk : MethodId) (methk : Method) (ck : Code), s.methodNamed? Y.2.1 = some mk ∧ s.vm.method? mk = some methk ∧ methk.code = some ck ∧ ck.code = Y.2.2.1 ∧ ck.maxLocals = Y.2.2.2.1 ∧ methk.sig.returnType = Y.2.2.2.2.1 ∧ methk.locks = false ∧ ck.exceptionTable.toList = tableOf Y.2.2.2.2.2 ∧ parseMethodDescriptor Y.2.1.desc = some methk.sig := by
  rcases hY.1 with ⟨hw, he⟩ | hw
  · obtain ⟨mk, hn⟩ := Cond.code_named (hts _ hw)
    obtain ⟨methk, ck, q1, q2, q3, q4, q5, q6, q7, q8⟩ := Cond.code_spec hn (hts _ hw)
    refine ⟨mk, methk, ck, hn, q1, q2, q3, q4, q5, q6, ?_, q8⟩
    rw [he, Array.isEmpty_iff.mp q7]
    rfl
  · obtain ⟨mk, methk, ck, hn, q1, q2, q3, q4, q6, q5, q7, q8⟩ := Cond.codeWith_spec (hts _ hw)
    refine ⟨mk, methk, ck, hn, q1, q2, q3, q4, q5, q7, ?_, q8⟩
    rw [← q6, table_eq]
theorem aw_Sc {A : Nat → Prop} {H0 H H1 : Heap} {locs L : List Loc} (hS : va_S A H0 H locs) (h1 : va_S A H H1 L) : va_S A H0 H1 (locs ++ L) :=
  ⟨Nat.le_trans hS.1 h1.1, fun q a b => (h1.2.1 q (Nat.lt_of_lt_of_le a hS.1) b).trans (hS.2.1 q a b), fun q hq => (List.mem_append.mp hq).elim (hS.2.2 q) (h1.2.2 q)⟩
/-- the invoking instruction's own step -/
def aw_iv (p : Program) (l : Launch) (e : Env) (R : Room) (s : State) (m : MethodId) (args : Array Value) (below : List Frame) (meth : Method) (c : Code) (H : Heap) (locs : List Loc) (cells slots pc : Nat) (ls : Array Slot) (st rest : List Value) (y : MethodName) (as : List Value) : Prop :=
  ∀ T : State, T.heap = H → Stand p l e R s m args below meth c T locs cells slots → ∃ (vm₁ : Vm) (mk : MethodId), Stand p l e R s m args below meth c (T.setVm vm₁) locs cells slots ∧ s.methodNamed? y = some mk ∧
    ∀ target, Steps p.tables e below (doInvoke e ((T.setVm vm₁).setTop (F0 m pc ls rest)) [] mk as.toArray).1 target → Steps p.tables e below (T.setTop (F0 m pc ls st)) target
section AWC
variable {G : ag_T} {M : am_M} {fr lo kc ks pc : Nat} {lv : List (Nat × Value)} {st : List Value} {h : List va_E} {Q : aq_T}
theorem aw_core (Y : am_M) {ig : Instr} {fr' lo' kc1 ks1 kc' ks' : Nat} {as rest : List Value} {Qc : aq_T} (hd : decode M.2.2.1 pc = .ok (ig, 3)) (hY : aw_my Y) (hf9 : fr' + 1 ≤ fr) (hk1 : kc = kc1 + kc') (hk2 : ks = ks1 + ks') (hrest : (rest.map fun v => v.category).sum + (Y.2.2.2.1 + 11) + lo' ≤ lo) (hlen : (lg_sl as).length ≤ Y.2.2.2.1)
    (hiv : ∀ (p : Program) (l : Launch) (e : Env) (R : Room) (s : State) (m : MethodId) (args : Array Value) (below : List Frame) (meth : Method) (c : Code) (H : Heap) (locs : List Loc) (cells slots : Nat) (ls : Array Slot), aw_C G M fr lo p l R s m args meth c → ah_R G h H → aw_iv p l e R s m args below meth c H locs cells slots pc ls st rest Y.2.1 as)
    (hent : aw_w G Y fr' lo' kc1 ks1 0 (lv_args 0 as) [] h Qc)
    (kret : ∀ v h', Qc (.inl v) h' → aw_w G M fr lo kc' ks' (pc + 3) lv (v.toList ++ rest) h' Q)
    (kthr : ∀ k9 ci h', Qc (.inr ci) h' → aw_x G M fr lo kc' ks' pc lv rest h' k9 ci Q) : aw_w G M fr lo kc ks pc lv st h Q := by
  intro p l e R s m args below meth c H locs cells slots mc ms ls C hl hR hO hS hG h1 h2 h3 h4 T hT X
  obtain ⟨hx, hb, hml, hown, hts, hret, htab, hlk, hnm, hst9, hK, hfr, hlo⟩ := id C
  obtain ⟨vm₁, mk, X1, hn, hst⟩ := hiv p l e R s m args below meth c H locs cells slots ls C hR T hT X
  obtain ⟨mk', methk, ck, hn', hmk, hck, hcb, hcl, hcr, hlkk, hctab, hsig⟩ := hY.facts hts
  have emk : mk = mk' := Option.some.inj (hn.symm.trans hn')
  subst emk
  obtain ⟨-, hY2, hY3⟩ := hY
  have hW1 : s.WarmedH vm₁ := X1.warmed
  have hmk1 : (T.setVm vm₁).vm.method? mk = some methk := by
    show vm₁.method? mk = _
    rw [hW1.alike.method?]; exact hmk
  have hpk : (T.setVm vm₁).plainMethod mk := State.plainMethod.of_named hY2 (X1.named hn) hmk1
  have hsz : (F0 m pc ls rest).locals.size = c.maxLocals := hl.1.trans hml.symm
  have hdg : decode c.code (F0 m pc ls rest).pc = .ok (ig, 3) := by rw [hb]; exact hd
  obtain ⟨Y0, hin⟩ := X1.into (g := F0 m pc ls rest) rfl hsz hdg as.toArray (R' := aw_rm fr' lo' kc1 ks1) hmk1 hck hlkk hpk (by show fr' + 1 ≤ R.frames; omega)
    (by show 2 * 0 + (rest.map fun v => v.category).sum + (ck.maxLocals + 11) + lo' ≤ R.locals; rw [hcl]; omega) (by show cells + kc1 ≤ R.cells; omega) (by show slots + ks1 ≤ R.slots; omega)
  obtain ⟨s', hs'⟩ : ∃ z, z = (T.setVm vm₁).calling (F0 m pc ls rest) mk as.toArray := ⟨_, rfl⟩
  obtain ⟨U0, hU0⟩ : ∃ z, z = ((T.setVm vm₁).setTop (F0 m pc ls rest)).pushFrame (.java (entryFrame mk as.toArray ck.maxLocals)) := ⟨_, rfl⟩
  rw [← hs', ← hU0] at Y0
  have hv' : s'.vm = vm₁ := by rw [hs']; rfl
  have hh' : s'.heap = H := by rw [hs']; exact hT
  have hW' : s.WarmedH s'.vm := by rw [hv']; exact hW1
  have Cc : aw_C G Y fr' lo' p l (aw_rm fr' lo' kc1 ks1) s' mk as.toArray methk ck :=
    ⟨hx, hcb, hcl, by rw [hY3, hW'.alike.findClass]; exact findClass_of_methodNamed hn, fun w hw => word_at hW' (aw_good w hw) (hts w hw), hcr, hctab, hlkk, (name_of_methodNamed hn hmk).1, hst9, hK.moved hW', Nat.le_refl _, Nat.le_refl _⟩
  have hlv : lv_has ((lg_sl as ++ List.replicate (ck.maxLocals - (lg_sl as).length) Slot.unset).toArray) Y.2.2.2.1 (lv_args 0 as) := by
    rw [← hcl]
    exact lv_entry as (by rw [hcl]; exact hlen)
  have hO' : aw_O G s' s'.heap := by
    rw [hh']
    exact (hO.moved hW').kept hS.2.1
  obtain ⟨t, a1, o, b1, b2, h', L, c1, c2, c3, c4, c5⟩ := hent p l e (aw_rm fr' lo' kc1 ks1) s' mk as.toArray (.java (F0 m pc ls rest) :: below) methk ck H [] 0 0 kc1 ks1 _ Cc hlv hR hO'
    (by rw [hh']; exact va_S.rf) (by rw [hh']; exact Nat.le_trans hG hS.1) (by omega) (by omega) (Nat.le_refl _) (Nat.le_refl _) U0 (by rw [hU0]; exact hT) Y0
  rw [← lg_entry_eq mk as ck.maxLocals] at a1
  have a2 : Steps p.tables e below (doInvoke e ((T.setVm vm₁).setTop (F0 m pc ls rest)) [] mk as.toArray).1 t := by
    rw [hin [], ← hU0]
    exact Steps.weaken (mid := [.java (F0 m pc ls rest)]) a1
  rw [hs'] at c2 c3
  rw [hh'] at c4
  rcases c5 with ⟨v, ho, hq⟩ | ⟨k9, ci, ho, hcell, hq⟩
  · subst ho
    obtain ⟨T', X', -, -, ht⟩ := X1.outOf (g := F0 m pc ls rest) rfl hdg b2 c2 c3
    have hth : T'.heap = t.heap := by rw [ht]; rfl
    obtain ⟨t2, d1, d2⟩ := kret v h' hq p l e R s m args below meth c T'.heap (locs ++ L) (cells + kc1) (slots + ks1) mc ms ls C hl (by rw [hth]; exact c1) hO (by rw [hth]; exact aw_Sc hS c4) hG (by omega) (by omega) h3 h4 T' rfl X'
    refine ⟨t2, hst _ (a2.trans ?_), d2⟩
    rw [ht]
    exact d1
  · subst ho
    obtain ⟨T', X', -, -, ht⟩ := X1.outOfThrown (g := F0 m pc ls rest) rfl b2 c2 c3
    have hth : T'.heap = t.heap := by rw [ht]; rfl
    obtain ⟨t2, d1, d2⟩ := kthr k9 ci h' hq p l e R s m args below meth c T'.heap (locs ++ L) (cells + kc1) (slots + ks1) mc ms ls C hl (by rw [hth]; exact c1) hcell hO (by rw [hth]; exact aw_Sc hS c4) hG (by omega) (by omega) h3 h4 T' rfl X'
    refine ⟨t2, hst _ (a2.trans ?_), d2⟩
    rw [ht]
    exact d1
def aw_mh (y : MethodName) : Prop := y.cls ≠ "java/lang/invoke/MethodHandle" ∧ y.cls ≠ "java/lang/invoke/VarHandle"
def aw_cs (own : String) (idx : Nat) (Y : am_M) : Prop := Cond.methodLink own idx Y.2.1 ∈ aw_T ∧ Cond.static Y.2.1 ∈ aw_T ∧ Cond.initialized Y.2.1.cls ∈ aw_T ∧ aw_mh Y.2.1
def aw_cn (own : String) (idx : Nat) (host : String) (Y : am_M) : Prop := Cond.methodLinkNest own idx Y.2.1 host ∈ aw_N ∧ Cond.static Y.2.1 ∈ aw_T ∧ Cond.initialized Y.2.1.cls ∈ aw_T ∧ aw_mh Y.2.1
def aw_cv (own : String) (idx : Nat) (Y : am_M) : Prop := Cond.methodLink own idx Y.2.1 ∈ aw_T ∧ Cond.instanceMethod Y.2.1 ∈ aw_T ∧ Cond.selects Y.2.1.cls Y.2.1 Y.2.1 ∈ aw_T ∧ aw_mh Y.2.1
def aw_ci (own : String) (idx : Nat) (Y : am_M) : Prop := Cond.methodLink own idx Y.2.1 ∈ aw_T ∧ Cond.instanceMethod Y.2.1 ∈ aw_T ∧ Y.2.1.name = "<init>" ∧ Y.2.2.2.2.1 = none ∧ Y.2.2.2.2.2 = [] ∧ Cond.code Y.2.1 Y.2.2.1 Y.2.2.2.1 none ∈ aw_T ∧ aw_mh Y.2.1
def aw_np (Y : am_M) (n : Nat) : Prop := (parseMethodDescriptor Y.2.1.desc).map (fun d => d.parameters.length) = some n
theorem aw_np.of {Y : am_M} {n : Nat} (h : aw_np Y n) {sig : MethodDescriptor} (hs : parseMethodDescriptor Y.2.1.desc = some sig) : n = sig.parameters.length := by
  unfold aw_np at h
  rw [hs] at h
  exact (Option.some.inj h).symm
theorem aw_callS (Y : am_M) {idx fr' lo' kc1 ks1 kc' ks' : Nat} (as rest : List Value) {Qc : aq_T} (hd : decode M.2.2.1 pc = .ok (.invokestatic idx, 3)) (hC : aw_cs M.1 idx Y) (hY : aw_my Y) (hp : aw_np Y as.length) (hst : st = as.reverse ++ rest) (hf9 : fr' + 1 ≤ fr) (hk1 : kc = kc1 + kc') (hk2 : ks = ks1 + ks') (hrest : (rest.map fun v => v.category).sum + (Y.2.2.2.1 + 11) + lo' ≤ lo) (hlen : (lg_sl as).length ≤ Y.2.2.2.1)
    (hent : aw_w G Y fr' lo' kc1 ks1 0 (lv_args 0 as) [] h Qc)
    (kret : ∀ v h', Qc (.inl v) h' → aw_w G M fr lo kc' ks' (pc + 3) lv (v.toList ++ rest) h' Q)
    (kthr : ∀ k9 ci h', Qc (.inr ci) h' → aw_x G M fr lo kc' ks' pc lv rest h' k9 ci Q) : aw_w G M fr lo kc ks pc lv st h Q := by
  refine aw_core Y hd hY hf9 hk1 hk2 hrest hlen ?_ hent kret kthr
  intro p l e R s m args below meth c H locs cells slots ls C hR T hT X
  obtain ⟨hx, hb, hml, hown, hts, -⟩ := id C
  obtain ⟨mk, methk, ck, hn, hmk, -, -, -, -, -, -, hsig⟩ := hY.facts hts
  obtain ⟨kP, hkP, -⟩ := className_of_methodNamed hn
  obtain ⟨vm₁, X₁, hs1⟩ := X.invokestatic hx hown (hts _ hC.1) hn hmk (Cond.static_spec hn hmk (hts _ hC.2.1)) hkP (Cond.initialized_spec (findClass_of_methodNamed hn) hkP (hts _ hC.2.2.1)) hC.2.2.2 (g := F0 m pc ls st) rfl (argsL := as) (rest := rest) (hp.of hsig) hst (by rw [hb]; exact hd)
  exact ⟨vm₁, mk, X₁, hn, fun target h9 => hs1 _ fun acts => by rw [doInvoke_state]; exact h9⟩
theorem aw_callSN (Y : am_M) {idx fr' lo' kc1 ks1 kc' ks' : Nat} (host : String) (as rest : List Value) {Qc : aq_T} (hd : decode M.2.2.1 pc = .ok (.invokestatic idx, 3)) (hC : aw_cn M.1 idx host Y) (hY : aw_my Y) (hp : aw_np Y as.length) (hst : st = as.reverse ++ rest) (hf9 : fr' + 1 ≤ fr) (hk1 : kc = kc1 + kc') (hk2 : ks = ks1 + ks') (hrest : (rest.map fun v => v.category).sum + (Y.2.2.2.1 + 11) + lo' ≤ lo) (hlen : (lg_sl as).length ≤ Y.2.2.2.1)
    (hent : aw_w G Y fr' lo' kc1 ks1 0 (lv_args 0 as) [] h Qc)
    (kret : ∀ v h', Qc (.inl v) h' → aw_w G M fr lo kc' ks' (pc + 3) lv (v.toList ++ rest) h' Q)
    (kthr : ∀ k9 ci h', Qc (.inr ci) h' → aw_x G M fr lo kc' ks' pc lv rest h' k9 ci Q) : aw_w G M fr lo kc ks pc lv st h Q := by
  refine aw_core Y hd hY hf9 hk1 hk2 hrest hlen ?_ hent kret kthr
  intro p l e R s m args below meth c H locs cells slots ls C hR T hT X
  obtain ⟨hx, hb, hml, hown, hts, hret, htab, hlk, hnm, hst9, hK, hfr, hlo⟩ := id C
  obtain ⟨mk, methk, ck, hn, hmk, -, -, -, -, -, -, hsig⟩ := hY.facts hts
  obtain ⟨kP, hkP, -⟩ := className_of_methodNamed hn
  obtain ⟨vm₁, X₁, hs1⟩ := X.invokestaticNest hx hown (va_Nw.use rfl (hK.2.1 _ hC.1)) hn hmk (Cond.static_spec hn hmk (hts _ hC.2.1)) hkP (Cond.initialized_spec (findClass_of_methodNamed hn) hkP (hts _ hC.2.2.1)) hC.2.2.2 (g := F0 m pc ls st) rfl (argsL := as) (rest := rest) (hp.of hsig) hst (by rw [hb]; exact hd)
  exact ⟨vm₁, mk, X₁, hn, fun target h9 => hs1 _ fun acts => by rw [doInvoke_state]; exact h9⟩
theorem aw_callV (Y : am_M) {idx fr' lo' kc1 ks1 kc' ks' : Nat} (i ci : Nat) (as rest : List Value) {fs : List Value} {Qc : aq_T} (hd : decode M.2.2.1 pc = .ok (.invokevirtual idx, 3)) (hC : aw_cv M.1 idx Y) (hY : aw_my Y) (hp : aw_np Y as.length) (hh : h[i]? = some (.inr (ci, fs))) (hci : (am_cl[ci]?).map (·.1) = some Y.2.1.cls) (hst : st = as.reverse ++ .ref (G.1 + i) :: rest) (hf9 : fr' + 1 ≤ fr) (hk1 : kc = kc1 + kc') (hk2 : ks = ks1 + ks') (hrest : (rest.map fun v => v.category).sum + (Y.2.2.2.1 + 11) + lo' ≤ lo) (hlen : (lg_sl (.ref (G.1 + i) :: as)).length ≤ Y.2.2.2.1)
    (hent : aw_w G Y fr' lo' kc1 ks1 0 (lv_args 0 (.ref (G.1 + i) :: as)) [] h Qc)
    (kret : ∀ v h', Qc (.inl v) h' → aw_w G M fr lo kc' ks' (pc + 3) lv (v.toList ++ rest) h' Q)
    (kthr : ∀ k9 ci h', Qc (.inr ci) h' → aw_x G M fr lo kc' ks' pc lv rest h' k9 ci Q) : aw_w G M fr lo kc ks pc lv st h Q := by
  refine aw_core Y (as := .ref (G.1 + i) :: as) hd hY hf9 hk1 hk2 hrest hlen ?_ hent kret kthr
  intro p l e R s m args below meth c H locs cells slots ls C hR T hT X
  obtain ⟨hx, hb, hml, hown, hts, hret, htab, hlk, hnm, hst9, hK, hfr, hlo⟩ := id C
  obtain ⟨mk, methk, ck, hn, hmk, -, -, -, -, -, -, hsig⟩ := hY.facts hts
  obtain ⟨r, hr, cellB, g1, g2, g3, -⟩ := hR.cell hh
  have hcls : s.vm.findClass Y.2.1.cls = some cellB.cls := by
    rw [hr] at hci
    rw [← Option.some.inj hci, g2]
    exact (hK.1.1 ci r hr).2.1
  obtain ⟨mk2, methM, hnamed, hmethM, hstM, habM⟩ := Cond.instanceMethod_spec (hts _ hC.2.1)
  cases Option.some.inj (hn.symm.trans hnamed)
  cases Option.some.inj (hmk.symm.trans hmethM)
  obtain ⟨c2, r2, m2, q1, q2, q3, q4, kP, hkP, hkPi⟩ := Cond.selects_spec (hts _ hC.2.2.1)
  cases Option.some.inj (hcls.symm.trans q1)
  cases Option.some.inj ((State.methodFound?_of_named hn hC.2.2.2).symm.trans q2)
  cases Option.some.inj (hn.symm.trans q3)
  have hselP : selectMethod e.platform s.vm cellB.cls mk = .method mk := by rw [Launch.admits_selectMethod X.admits]; exact q4
  obtain ⟨vm₁, X₁, hs1⟩ := X.invokevirtual hx hown (hts _ hC.1) hn hmk hstM hkP hkPi hC.2.2.2 (a := G.1 + i) (cell := cellB) (by rw [hT]; exact g1) (fun z h9 => by rw [g3] at h9; cases h9) hselP hmk habM hkP hkPi (g := F0 m pc ls st) rfl (argsL := as) (rest := rest) (hp.of hsig) hst (by rw [hb]; exact hd)
  exact ⟨vm₁, mk, X₁, hn, fun target h9 => hs1 _ fun acts => by rw [doInvoke_state]; exact h9⟩
theorem aw_callI (Y : am_M) {idx fr' lo' kc1 ks1 kc' ks' : Nat} (i : Nat) (as rest : List Value) {Qc : aq_T} (hd : decode M.2.2.1 pc = .ok (.invokespecial idx, 3)) (hC : aw_ci M.1 idx Y) (hY : aw_my Y) (hp : aw_np Y as.length) (hst : st = as.reverse ++ .ref (G.1 + i) :: rest) (hf9 : fr' + 1 ≤ fr) (hk1 : kc = kc1 + kc') (hk2 : ks = ks1 + ks') (hrest : (rest.map fun v => v.category).sum + (Y.2.2.2.1 + 11) + lo' ≤ lo) (hlen : (lg_sl (.ref (G.1 + i) :: as)).length ≤ Y.2.2.2.1)
    (hent : aw_w G Y fr' lo' kc1 ks1 0 (lv_args 0 (.ref (G.1 + i) :: as)) [] h Qc)
    (kret : ∀ v h', Qc (.inl v) h' → aw_w G M fr lo kc' ks' (pc + 3) lv (v.toList ++ rest) h' Q)
    (kthr : ∀ k9 ci h', Qc (.inr ci) h' → aw_x G M fr lo kc' ks' pc lv rest h' k9 ci Q) : aw_w G M fr lo kc ks pc lv st h Q := by
  refine aw_core Y (as := .ref (G.1 + i) :: as) hd hY hf9 hk1 hk2 hrest hlen ?_ hent kret kthr
  intro p l e R s m args below meth c H locs cells slots ls C hR T hT X
  obtain ⟨hx, hb, hml, hown, hts, -⟩ := id C
  obtain ⟨w1, w2, w3, w4, w5, w6, w7⟩ := hC
  have hpl : e.platform.magicAccessors = ({} : Platform).magicAccessors := by rw [X.admits.platform]
  obtain ⟨mk, methM, cM, kP, vm₁, hnamed, hmethM, -, -, -, -, -, -, hW₁, hs1⟩ := Steps.initColdArgs (e := e) X.here hx X.warmed hpl hown w3 w7 (hts _ w1) (hts _ w2) (hts _ w6) (f := F0 m pc ls st) rfl (argsL := as) (rest := rest) (fun sig h9 => hp.of h9) hst (by rw [hb]; exact hd)
  exact ⟨vm₁, mk, X.noted hW₁, hnamed, fun target h9 => hs1 _ fun acts => by rw [doInvoke_state]; exact h9⟩
theorem aw_obj {idx i : Nat} (hd : decode M.2.2.1 pc = .ok (.invokespecial idx, 3)) (hw : Cond.methodLink M.1 idx objectInit ∈ aw_T ∧ Cond.instanceMethod objectInit ∈ aw_T ∧ Cond.code objectInit ⟨#[0xb1]⟩ 1 none ∈ aw_T) (hf9 : 1 ≤ fr) (hrest : (st.map fun v => v.category).sum + 12 ≤ lo)
    (k : aw_w G M fr lo kc ks (pc + 3) lv st h Q) : aw_w G M fr lo kc ks pc lv (.ref i :: st) h Q := by
  intro p l e R s m args below meth c H locs cells slots mc ms ls C hl hR hO hS hG h1 h2 h3 h4
  obtain ⟨hx, hb, hml, hown, hts, hret, htab, hlk, hnm, hst9, hK, hfr, hlo⟩ := id C
  refine W.objInit hx hb hown (hts _ hw.1) (hts _ hw.2.1) (hts _ hw.2.2) rfl (hl.1.trans hml.symm) rfl hd (by omega) (by show 2 * 0 + (st.map fun v => v.category).sum + 12 ≤ R.locals; omega) ?_
  exact k p l e R s m args below meth c H locs cells slots mc ms ls C hl hR hO hS hG h1 h2 h3 h4
/-- an exception that goes on to the caller -/
theorem aw_out {k9 ci : Nat} (hout : ∀ x ∈ tableOf M.2.2.2.2.2, covers x pc = false) (hq : Q (.inr ci) h) : aw_x G M fr lo kc ks pc lv st h k9 ci Q := by
  intro p l e R s m args below meth c H locs cells slots mc ms ls C hl hR hk hO hS hG h1 h2 h3 h4 T hT X
  obtain ⟨hx, hb, hml, hown, hts, hret, htab, hlk, hnm, hst9, hK, hfr, hlo⟩ := id C
  obtain ⟨st1, hrun, hend, hW, hsm⟩ := X.leaveThrown (G.1 + k9) (g := F0 m pc ls st) rfl rfl rfl (by rw [htab]; exact hout) hlk
  have hth : (T.setFrames (.throwing (G.1 + k9) :: below)).heap = H := hT
  exact ⟨_, st1, .threw (G.1 + k9), hrun, hend, h, locs, by rw [hth]; exact hR, hW, hsm.mono (by omega) (by omega), by rw [hth]; exact hS, Or.inr ⟨k9, ci, rfl, hk, hq⟩⟩
end AWC
end
section
/-! ===== the abstract walk: exceptions: caught by the method's own table, its classes linked or not yet ===== -/
/-- the search for a handler ends with hd, and leaves the tables vm' -/
def ax_F (e : Env) (s : State) (f : JFrame) (a : Addr) (hd : Handler) (vm' : Vm) : Prop :=
  ∀ (Q : Handler → Pre) (E : CtlPost) (d : Bool) (acts : List Action), wp (findHandler f a) Q E e d acts s ↔ Q hd d acts (s.setVm vm')
section AXA
variable {Q : Handler → Pre} {E : CtlPost} {e : Env} {d : Bool} {acts : List Action} {s : State} {f : JFrame} {a : Addr}
theorem ax_yes {x : ExceptionTableEntry} {t : List ExceptionTableEntry} {c : ClassId} {cell : Cell} (hx : covers x f.pc = true) (h0 : x.catchType ≠ 0)
    (hl : s.vm.ClassLinks e.platform f.method.cls x.catchType c) (hcell : s.heap[a]? = some cell) (hobj : ∀ k, cell.vm ≠ .statics k)
    (hk : ∃ k, s.vm.classes[cell.cls]? = some k) (hc : ∃ k, s.vm.classes[c]? = some k) (hfit : s.vm.assignable cell.cls c = true) :
    wp (findHandler.go f a (x :: t)) Q E e d acts s ↔ Q (.found x.handlerPc) d acts (s.setVm (s.vm.noted f.method.cls x.catchType (.cls c))) := by
  simp only [covers] at hx
  obtain ⟨r1, r2⟩ := (resolveClass_links e.toSetting hl).op (op := VmOp.resolveClass f.method.cls x.catchType) rfl
  have hal : s.vm.Alike (s.vm.noted f.method.cls x.catchType (.cls c)) := (Vm.Alike.refl s.vm).noted _ _ _
  obtain ⟨k1, hk1⟩ := hk
  obtain ⟨k2, hk2⟩ := hc
  obtain ⟨j1, hj1, -⟩ := hal.2.2 _ _ hk1
  obtain ⟨j2, hj2, -⟩ := hal.2.2 _ _ hk2
  have hf2 : (s.vm.noted f.method.cls x.catchType (.cls c)).assignable cell.cls c = true := by rw [hal.assignable]; exact hfit
  simp [findHandler.go, hx, h0, r1, r2, hcell, hobj, hj1, hj2, hf2, VmOp.dirties, VmOp.acts]
theorem ax_no {x : ExceptionTableEntry} {t : List ExceptionTableEntry} {c : ClassId} {cell : Cell} (hx : covers x f.pc = true) (h0 : x.catchType ≠ 0)
    (hl : s.vm.ClassLinks e.platform f.method.cls x.catchType c) (hcell : s.heap[a]? = some cell) (hobj : ∀ k, cell.vm ≠ .statics k)
    (hk : ∃ k, s.vm.classes[cell.cls]? = some k) (hc : ∃ k, s.vm.classes[c]? = some k) (hfit : s.vm.assignable cell.cls c = false) :
    wp (findHandler.go f a (x :: t)) Q E e d acts s ↔ wp (findHandler.go f a t) Q E e d acts (s.setVm (s.vm.noted f.method.cls x.catchType (.cls c))) := by
  simp only [covers] at hx
  obtain ⟨r1, r2⟩ := (resolveClass_links e.toSetting hl).op (op := VmOp.resolveClass f.method.cls x.catchType) rfl
  have hal : s.vm.Alike (s.vm.noted f.method.cls x.catchType (.cls c)) := (Vm.Alike.refl s.vm).noted _ _ _
  obtain ⟨k1, hk1⟩ := hk
  obtain ⟨k2, hk2⟩ := hc
  obtain ⟨j1, hj1, -⟩ := hal.2.2 _ _ hk1
  obtain ⟨j2, hj2, -⟩ := hal.2.2 _ _ hk2
  have hf2 : (s.vm.noted f.method.cls x.catchType (.cls c)).assignable cell.cls c = false := by rw [hal.assignable]; exact hfit
  simp [findHandler.go, hx, h0, r1, r2, hcell, hobj, hj1, hj2, hf2, VmOp.dirties, VmOp.acts]
end AXA
/-- a row of a method's table that an exception of the class E passes, or that takes it: by names -/
def ax_pass (own E : String) (pc : Nat) (z : ExceptionTableEntry) : Prop := covers z pc = false ∨ (z.catchType ≠ 0 ∧ ∃ nm : String, Cond.classLink own z.catchType nm ∈ aw_T ∧ (E, nm) ∈ aw_NC)
def ax_take (own E : String) (pc : Nat) (z : ExceptionTableEntry) : Prop := covers z pc = true ∧ z.catchType ≠ 0 ∧ ∃ nm : String, Cond.classLink own z.catchType nm ∈ aw_T ∧ Cond.castable E nm ∈ aw_N
theorem ax_find {own E : String} {args : Array Value} {e : Env} {s : State} {f : JFrame} {a : Addr} {cell : Cell} (hpl : e.platform.magicAccessors = ({} : Platform).magicAccessors) (hown : s.vm.findClass own = some f.method.cls) (hts : ∀ w ∈ aw_T, w.before args s = true) (hN : ∀ w ∈ aw_N, va_Nw w s) (hNC : ∀ q ∈ aw_NC, va_Nc q.1 q.2 s)
    (hobj : ∀ k, cell.vm ≠ .statics k) (hE : s.vm.findClass E = some cell.cls) (x : ExceptionTableEntry) (rest : List ExceptionTableEntry) (hx : ax_take own E f.pc x) :
    ∀ (pre : List ExceptionTableEntry) (S : State), s.WarmedH S.vm → S.heap[a]? = some cell → (∀ y ∈ pre, ax_pass own E f.pc y) →
      ∃ vm', s.WarmedH vm' ∧ ∀ (Q : Handler → Pre) (E' : CtlPost) (d : Bool) (acts : List Action), wp (findHandler.go f a (pre ++ x :: rest)) Q E' e d acts S ↔ Q (.found x.handlerPc) d acts (S.setVm vm') := by
  have hk0 : ∃ k, s.vm.classes[cell.cls]? = some k := by obtain ⟨k9, h9, -⟩ := Vm.findClass_spec hE; exact ⟨k9, h9⟩
  intro pre
  induction pre with
  | nil =>
    intro S hW hcell _
    obtain ⟨hcov, h0, nm, hl, hc⟩ := hx
    obtain ⟨c5, hc5, hcl5⟩ := Cond.classLink_spec hown (hts _ hl) e.platform hpl
    obtain ⟨c3, c4, hc3, hc4, hasg⟩ := Cond.castable_spec (hN _ hc)
    cases Option.some.inj (hc3.symm.trans hE)
    cases Option.some.inj (hc4.symm.trans hc5)
    obtain ⟨dk, _, _, kt, hd, _, _, _, _, hkt, _, hopen⟩ := hcl5.here
    obtain ⟨k1, hk1⟩ := hk0
    obtain ⟨j1, hj1, -⟩ := hW.alike.2.2 _ _ hk1
    obtain ⟨j2, hj2, -⟩ := hW.alike.2.2 _ _ hkt
    exact ⟨_, hW.noted hd hopen (State.rightAt_cls hcl5), fun Q E' d acts => by
      rw [List.nil_append]
      exact ax_yes hcov h0 (hW.classLinks hcl5) hcell hobj ⟨j1, hj1⟩ ⟨j2, hj2⟩ (by rw [hW.alike.assignable]; exact hasg)⟩
  | cons y ys ih =>
    intro S hW hcell hp
    by_cases hcov : covers y f.pc = true
    · rcases hp y List.mem_cons_self with h9 | ⟨h0, nm, hl, hc⟩
      · rw [h9] at hcov; cases hcov
      · obtain ⟨c5, hc5, hcl5⟩ := Cond.classLink_spec hown (hts _ hl) e.platform hpl
        obtain ⟨c3, c4, hc3, hc4, hasg⟩ := hNC _ hc
        cases Option.some.inj (hc3.symm.trans hE)
        cases Option.some.inj (hc4.symm.trans hc5)
        obtain ⟨dk, _, _, kt, hd, _, _, _, _, hkt, _, hopen⟩ := hcl5.here
        obtain ⟨k1, hk1⟩ := hk0
        obtain ⟨j1, hj1, -⟩ := hW.alike.2.2 _ _ hk1
        obtain ⟨j2, hj2, -⟩ := hW.alike.2.2 _ _ hkt
        obtain ⟨vm', hW', hq⟩ := ih (S.setVm (S.vm.noted f.method.cls y.catchType (.cls c5))) (hW.noted hd hopen (State.rightAt_cls hcl5)) hcell (fun z hz => hp z (List.mem_cons_of_mem _ hz))
        exact ⟨vm', hW', fun Q E' d acts => by
          rw [List.cons_append, ax_no hcov h0 (hW.classLinks hcl5) hcell hobj ⟨j1, hj1⟩ ⟨j2, hj2⟩ (by rw [hW.alike.assignable]; exact hasg)]
          exact hq Q E' d acts⟩
    · obtain ⟨vm', hW', hq⟩ := ih S hW hcell (fun z hz => hp z (List.mem_cons_of_mem _ hz))
      exact ⟨vm', hW', fun Q E' d acts => by
        rw [List.cons_append, W.findHandler_go_skip (by simpa using hcov)]
        exact hq Q E' d acts⟩
theorem ax_caught {tb : Tables} {e : Env} {s target : State} {g : JFrame} {c : Code} {below : List Frame} {a : Addr} (h : At s g.method c below) {pc : Nat} {vm' : Vm}
    (hfind : ax_F e ((s.setTop g).pushFrame (.throwing a)) g a (.found pc) vm') (hrest : Steps tb e below ((s.setVm vm').setTop { g with pc := pc, stack := [.ref a] }) target) :
    Steps tb e below ((s.setTop g).pushFrame (.throwing a)) target := by
  obtain ⟨hgo, hw⟩ := h.throwing a
  have key : (stepThrowing e ((s.setTop g).pushFrame (.throwing a)) a (.java g :: s.frames.tail)).1 = (((s.setTop g).pushFrame (.throwing a)).setVm vm').setFrames (.java { g with pc := pc, stack := [.ref a] } :: s.frames.tail) := by
    simp only [stepThrowing, searchFrame, vmDo]
    generalize hr : Sem.go _ e false [] ((s.setTop g).pushFrame (.throwing a)) = res
    obtain ⟨as, rfl, ha⟩ := Sem.eq_ok_of hr (a := Handler.found pc) (s' := ((s.setTop g).pushFrame (.throwing a)).setVm vm') (acts' := []) (by simp [hfind _ _ _ _])
    rfl
  refine Steps.head hgo hw ?_
  rw [stepThread_throwing (frames_entered h.top _), key]
  obtain ⟨g₀, hg⟩ := Option.isSome_iff_exists.mp h.top
  obtain ⟨r, hr⟩ := State.topJava?_eq_some.mp hg
  have hr' : (s.setVm vm').frames = .java g₀ :: r := hr
  rw [State.setTop_of_frames _ hr'] at hrest
  have e1 : ∀ (u : State) (F F' : List Frame), ((u.setFrames F).setVm vm').setFrames F' = (u.setVm vm').setFrames F' := by
    intro u F F'
    show ((u.setVm vm').setFrames F).setFrames F' = _
    rw [State.setFrames_setFrames]
  rw [hr, List.tail_cons, State.pushFrame, e1, State.setTop_of_frames _ hr, e1]
  exact hrest
section AXB
variable {G : ag_T} {M : am_M} {fr lo kc ks pc : Nat} {lv : List (Nat × Value)} {st : List Value} {h : List va_E} {Q : aq_T}
/-- an exception that this method catches -/
theorem aw_catch {k9 ci : Nat} {E : String} (pre : List ExceptionTableEntry) (x : ExceptionTableEntry) (suf : List ExceptionTableEntry) (hE : (am_cl[ci]?).map (·.1) = some E) (hsplit : tableOf M.2.2.2.2.2 = pre ++ x :: suf) (hpass : ∀ z ∈ pre, ax_pass M.1 E pc z) (hx : ax_take M.1 E pc x)
    (k : aw_w G M fr lo kc ks x.handlerPc lv [.ref (G.1 + k9)] h Q) : aw_x G M fr lo kc ks pc lv st h k9 ci Q := by
  intro p l e R s m args below meth c H locs cells slots mc ms ls C hl hR hk hO hS hG h1 h2 h3 h4 T hT X
  obtain ⟨hx0, hb, hml, hown, hts, hret, htab, hlk, hnm, hst9, hK, hfr, hlo⟩ := id C
  have hpl : e.platform.magicAccessors = ({} : Platform).magicAccessors := by rw [X.admits.platform]
  obtain ⟨r, hr, cellB, g1, g2, g3, -⟩ := hR.cell hk
  have hcls : s.vm.findClass E = some cellB.cls := by
    rw [hr] at hE
    rw [← Option.some.inj hE, g2]
    exact (hK.1.1 ci r hr).2.1
  obtain ⟨vm', hW', hq⟩ := ax_find (f := F0 m pc ls st) (a := G.1 + k9) (cell := cellB) hpl hown hts hK.2.1 hK.2.2.1 (fun z h9 => by rw [g3] at h9; cases h9) hcls x suf hx pre ((T.setTop (F0 m pc ls st)).pushFrame (.throwing (G.1 + k9))) X.warmed (by show T.heap[G.1 + k9]? = _; rw [hT]; exact g1) hpass
  obtain ⟨t, a1, b1⟩ := k p l e R s m args below meth c H locs cells slots mc ms ls C hl hR hO hS hG h1 h2 h3 h4 (T.setVm vm') hT (X.noted hW')
  refine ⟨t, ?_, b1⟩
  refine ax_caught (g := F0 m pc ls st) (c := c) X.here (pc := x.handlerPc) (vm' := vm') ?_ a1
  intro Q9 E9 d9 acts9
  rw [W.findHandler_eq (meth := meth) (code := c) X.method' X.code, htab, hsplit]
  exact hq Q9 E9 d9 acts9
end AXB
end
section
/-! ===== the abstract walk: throw new E("text") ===== -/
section AXR
variable {p : Program} {l : Launch} {e : Env} {R : Room} {s : State} {m : MethodId} {args : Array Value} {below : List Frame} {meth : Method} {c : Code} {locs : List Loc} {cells slots : Nat}
/-- the method's frame as it stands now, seen as a call that has just begun -/
theorem ax_re {T : State} (X : Stand p l e R s m args below meth c T locs cells slots) {R' : Room} (hf : R'.frames ≤ R.frames) (hl : R'.locals ≤ R.locals) (hc : cells + R'.cells ≤ R.cells) (hs : slots + R'.slots ≤ R.slots) {s' : State} (hs' : s' = (T.setVm s.vm).setFrames (.invoking m args :: below)) :
    Stand p l e R' s' m args below meth c T [] 0 0 := by
  subst hs'
  have htop : (T.setVm s.vm).topJava?.isSome := X.here.top
  have hF : ((T.setVm s.vm).setFrames (.invoking m args :: below)).frames = .invoking m args :: below := State.frames_setFrames _ (State.cur_lt_of_top htop)
  obtain ⟨g₀, hg0⟩ := Option.isSome_iff_exists.mp htop
  obtain ⟨r, hr⟩ := State.topJava?_eq_some.mp hg0
  obtain ⟨th, hth, -⟩ := State.frames_cons hr
  have hlim : e.platform.stackLimits (T.setVm s.vm).me = e.platform.stackLimits s.me := X.limits
  have hbyt : (T.setVm s.vm).me.stackBytes = s.me.stackBytes := X.bytes
  have hno : T.heap.toList.drop T.heap.size = [] := List.drop_eq_nil_of_le (Nat.le_of_eq Array.length_toList)
  have hroom : ((T.setVm s.vm).setFrames (.invoking m args :: below)).hasRoom e.platform R' = true := by
    have h0 := X.room
    have hU : ((T.setVm s.vm).setFrames (.invoking m args :: below)).localsInUse = s.localsInUse := by
      rw [State.localsInUse_invoking hF (meth := meth) (c := c) X.method X.code, State.localsInUse_invoking X.frames X.method X.code]
    simp only [State.hasRoom, Bool.and_eq_true, decide_eq_true_eq] at h0 ⊢
    obtain ⟨⟨⟨⟨a1, a2, a3, a4, a5, a6⟩, a7⟩, a8⟩, a9⟩ := h0
    rw [X.frames, List.length_cons] at a2 a3
    have q1 := X.heapSize
    have q2 := X.used
    simp only [hF, hU, List.length_cons, State.stackLimits_setFrames, State.stackBytes_setFrames, hlim, hbyt]
    have q3 : ((T.setVm s.vm).setFrames (.invoking m args :: below)).heap.size = T.heap.size := rfl
    have q4 : ((T.setVm s.vm).setFrames (.invoking m args :: below)).slotsUsed = T.slotsUsed := rfl
    rw [q3, q4]
    exact ⟨⟨⟨⟨by omega, by omega, by omega, by omega, by omega, a6⟩, by omega⟩, by omega⟩, X.book⟩
  refine ⟨X.admits, X.cas, X.clock, hF, hroom, X.hears, X.method, X.code, X.here, X.tail, X.warmed, ?_, ?_, ?_⟩
  · rw [State.stackLimits_setFrames]; rfl
  · rw [State.stackBytes_setFrames]; rfl
  · refine ⟨?_, Nat.le_refl _, Nat.le_refl _, ?_, ?_, fun a c9 h9 => ⟨c9, h9, rfl, rfl, fun _ _ => rfl⟩⟩
    · show T.setVm s.vm = { ((T.setVm s.vm).setFrames (.invoking m args :: below)).setFrames (T.setVm s.vm).frames with heap := T.heap, slotsUsed := T.slotsUsed }
      rw [State.setFrames_setFrames, State.setFrames_self hth]
      rfl
    · show T.slotsUsed = T.slotsUsed + ((T.heap.toList.drop T.heap.size).map (·.slots.size)).sum
      rw [hno]; rfl
    · show ((T.heap.toList.drop T.heap.size).map (·.slots.size)).sum ≤ 0
      rw [hno]; exact Nat.le_refl _
end AXR
/-- what has not been written is as it was -/
theorem ax_same {s U : State} {k n : Nat} (h : s.sameButNew ({ U with vm := s.vm } : State) [] k n) : s.heap.size ≤ U.heap.size ∧ U.heap.size ≤ s.heap.size + k ∧ ∀ q : Nat, q < s.heap.size → U.heap[q]? = s.heap[q]? := by
  obtain ⟨-, h2, h3, -, -, h6⟩ := h
  refine ⟨h2, h3, fun q hq => ?_⟩
  obtain ⟨c9, e1, e2, e3, e4⟩ := h6 q _ (Array.getElem?_eq_getElem hq)
  have hsl : c9.slots = (s.heap[q]).slots := Array.ext_getElem? fun i => e4 i (fun hm => nomatch hm)
  have hc9 : c9 = s.heap[q] := by
    rw [hsl] at e2
    exact e2
  have e5 : U.heap[q]? = some c9 := e1
  rw [e5, hc9, Array.getElem?_eq_getElem hq]
def ax_isN (w : Cond) : Bool := decide (w = .isRef (.static Bundle.tN "UNASSIGNED_STACK" Bundle.steD)) || decide (w = .isRef (.static Bundle.tN "SUPPRESSED_SENTINEL" Bundle.listD)) || decide (w = .laysStatic Bundle.tN "UNASSIGNED_STACK" Bundle.steD) || decide (w = .laysStatic Bundle.tN "SUPPRESSED_SENTINEL" Bundle.listD)
/-- the words of a throw stand in the lists, but the four that speak of the heap -/
def ax_thr (own : String) (ik is ic ci : Nat) (cls text : String) (names : List String) : Prop :=
  Bundle.fit cls = true ∧ (∀ n ∈ names, Bundle.fit n = true) ∧ names.length ≤ 2 ∧ Cond.classLink own ik cls ∈ aw_T ∧ Cond.initialized cls ∈ aw_T ∧ (own, is, text) ∈ aw_SR ∧ (am_cl[ci]? = some (cls, fun _ => ("", "", "", false), 0)) ∧
    ∀ w ∈ Bundle.ownAtoms own ic cls names, ax_isN w = true ∨ w ∈ aw_T ∨ (w ∈ aw_N ∧ w.onTables = true)
section AXT
variable {G : ag_T} {M : am_M} {fr lo kc ks pc : Nat} {lv : List (Nat × Value)} {st : List Value} {h : List va_E} {Q : aq_T}
theorem aw_throw (ci : Nat) {ik is ic : Nat} {cls text : String} {names : List String} (hw : ax_thr M.1 ik is ic ci cls text names)
    (d0 : decode M.2.2.1 pc = .ok (.new ik, 3)) (d3 : decode M.2.2.1 (pc + 3) = .ok (.dup, 1)) (d4 : decode M.2.2.1 (pc + 4) = .ok (.ldc is, 2)) (d6 : decode M.2.2.1 (pc + 6) = .ok (.invokespecial ic, 3)) (d9 : decode M.2.2.1 (pc + 9) = .ok (.athrow, 1))
    (hout : ∀ x ∈ tableOf M.2.2.2.2.2, covers x (pc + 9) = false) (hf9 : 6 ≤ fr) (hrest : (st.map fun v => v.category).sum + 83 ≤ lo) (hk1 : 1 ≤ kc) (hk2 : 6 ≤ ks) (hq : Q (.inr ci) (h ++ [.inr (ci, [])])) : aw_w G M fr lo kc ks pc lv st h Q := by
  intro p l e R s m args below meth c H locs cells slots mc ms ls C hl hR hO hS hG h1 h2 h3 h4 T hT X
  obtain ⟨hx, hb, hml, hown, hts, hret, htab, hlk, hnm, hst9, hK, hfr, hlo⟩ := id C
  obtain ⟨w1, w2, w2b, w3, w4, w5, w6, w7⟩ := hw
  have htr : e.platform.stackTraces = false := (show e.platform.stackTraces = l.stackTraces by rw [X.admits.platform]).trans hst9
  obtain ⟨s', hs'⟩ : ∃ z, z = (T.setVm s.vm).setFrames (.invoking m args :: below) := ⟨_, rfl⟩
  have Y := ax_re X (R' := { frames := R.frames, locals := R.locals, cells := 1, slots := 6 }) (Nat.le_refl _) (Nat.le_refl _) (by show cells + 1 ≤ R.cells; omega) (by show slots + 6 ≤ R.slots; omega) hs'
  have hvm : s'.vm = s.vm := by rw [hs']; rfl
  have hhp : s'.heap = H := by rw [hs']; exact hT
  have hW0 : s.WarmedH s'.vm := by rw [hvm]; exact State.WarmedH.refl s
  have hO' : aw_O G s' s'.heap := by
    rw [hhp]
    exact (hO.moved hW0).kept hS.2.1
  have hts' : ∀ w ∈ aw_T, w.before args s' = true := fun w hw => word_at hW0 (aw_good w hw) (hts w hw)
  have hat : ∀ w ∈ Bundle.ownAtoms M.1 ic cls names, w.before args s' = true := by
    intro w hw
    rcases w7 w hw with h9 | h9 | ⟨h9, h10⟩
    · simp only [ax_isN, Bool.or_eq_true, decide_eq_true_eq] at h9
      rcases h9 with ((rfl | rfl) | rfl) | rfl
      · exact hO'.2.2.1.ref
      · exact hO'.2.2.2.1.ref
      · exact hO'.2.2.1.lays
      · exact hO'.2.2.2.1.lays
    · exact hts' w h9
    · exact va_tabs h10 hvm.symm (hK.2.1 w h9)
  have hown' : s'.vm.findClass M.1 = some m.cls := by rw [hvm]; exact hown
  have hins : (Cond.instantiable cls 6).before args s' = true := hat _ (by simp [Bundle.ownAtoms])
  obtain ⟨vm₁, cX, kX, hfX, hkX, -, -, X₁, st1⟩ := Y.newCold hx (own := M.1) (C := cls) (index := ik) (n := 6) hown' (hts' _ w3) hins (hts' _ w4) (g := F0 m pc ls st) rfl (by rw [hb]; exact d0) (Nat.le_refl _) (Nat.le_refl _)
  generalize hT1 : (T.setVm vm₁).pushCell { cls := cX, slots := kX.instanceTypes.map defaultValue, vm := .none } = T1 at X₁ st1
  have hcellA : T1.heap[T.heap.size]? = some (freshCell cX kX) := by rw [← hT1]; exact State.heap_pushCell_size _ _
  obtain ⟨sa, hsr0⟩ := hK.2.2.2.1 _ w5
  have hsr : vk_R M.1 is text sa s' := vk_R.warm hW0 hsr0
  have hcat : (Value.ref T.heap.size).category = 1 := rfl
  have hsz : ls.size = c.maxLocals := hl.1.trans hml.symm
  have d3' : decode c.code (pc + 3) = .ok (.dup, 1) := by rw [hb]; exact d3
  have d4' : decode c.code (pc + 4) = .ok (.ldc is, 2) := by rw [hb]; exact d4
  obtain ⟨U, hsteps, hrun, hend, hW, hsame, ce, hce, hOc⟩ := X₁.ctorThrowS hx htr (own := M.1) (cls := cls) (names := names) (ic := ic) hown' w1 w2 hat (fun x hx9 => nomatch hx9) hfX hkX hcellA (by rw [hhp, hT]; exact Nat.le_refl _) (msg := .ref sa) rfl
    (g := { method := m, pc := pc + 6, locals := ls, stack := .ref sa :: .ref T.heap.size :: .ref T.heap.size :: st, locked := none }) rfl hsz rfl rfl (rest := st) rfl
    (by rw [hb]; exact d6) (by rw [hb]; exact d9) (by rw [htab]; exact hout) (by show names.length + 3 < R.frames; omega) (by show 2 * 0 + ((Value.ref T.heap.size :: st).map fun v => v.category).sum + (13 * (names.length + 1) + 42) ≤ R.locals; simp only [List.map_cons, List.sum_cons, hcat]; omega) hlk
  obtain ⟨f1, f2, f3⟩ := ax_same hsame
  rw [hhp] at f1 f2 f3
  have hlt : H.size < U.heap.size := by
    have := (Array.getElem?_eq_some_iff.mp hce).1
    rw [hT] at this
    exact this
  have hz : U.heap.size = H.size + 1 := by omega
  have hcls : s.vm.findClass cls = some ce.cls := by
    have h9 := hOc.cls
    rw [hvm] at h9
    exact h9
  have hall : s.sameButNew ({ U with vm := s.vm } : State) locs mc ms := by
    subst hs'
    obtain ⟨e1, e2⟩ := hsame
    rw [State.setFrames_setFrames] at e1
    have h5 : (T.setVm s.vm).sameButNew ({ U with vm := s.vm } : State) [] (0 + 1) (0 + 6) := ⟨e1, e2⟩
    have h6 := X.same.trans h5
    rw [List.append_nil] at h6
    exact h6.mono (by omega) (by omega)
  have eT : T.heap.size = G.1 + h.length := by rw [hT]; exact hR.2
  have hR' : ah_R G (h ++ [.inr (ci, [])]) U.heap := by
    refine hR.push hz f3 ⟨_, w6, ce, by rw [← eT]; exact hce, ?_, hOc.vm, fun k hk => absurd hk (Nat.not_lt_zero k)⟩
    exact Option.some.inj (hcls.symm.trans (hK.1.1 ci _ w6).2.1)
  refine ⟨U, ?_, .threw (G.1 + h.length), hrun, by rw [← eT]; exact hend, h ++ [.inr (ci, [])], locs, hR', State.WarmedH.trans hW0 hW, hall, aw_Sp hS (by omega) f3, Or.inr ⟨h.length, ci, rfl, by simp, hq⟩⟩
  refine st1 _ ?_
  show Steps p.tables e below (T1.setTop { method := m, pc := pc + 3, locals := ls, stack := .ref T.heap.size :: st, locked := none }) _
  jvm_step X₁.here [X₁.here.top, hx, d3', Value.category]
  exact X₁.ldcString hx (own := M.1) (text := text) (index := is) (a := sa) hown' hsr.1 hsr.2
    (g := { method := m, pc := pc + 4, locals := ls, stack := .ref T.heap.size :: .ref T.heap.size :: st, locked := none }) rfl d4' _ hsteps
end AXT
end
section
/-! ===== methods and links as facts: printed by wip/whole/facts.py ===== -/
def mm_ra_init : am_M := ("RoleAnalyser", ⟨"RoleAnalyser", "<init>", "()V"⟩, prog_1_method_1_code, 1, none, [])
theorem my_ra_init : aw_my mm_ra_init := ⟨Or.inl ⟨aw_m1 28 rfl rfl, rfl⟩, by decide +kernel, rfl⟩
def mm_po_init : am_M := ("RoleAnalyser$Policy", ⟨"RoleAnalyser$Policy", "<init>", "()V"⟩, prog_3_method_1_code, 2, none, [])
theorem my_po_init : aw_my mm_po_init := ⟨Or.inl ⟨aw_m1 36 rfl rfl, rfl⟩, by decide +kernel, rfl⟩
def mm_al_init : am_M := ("java/util/ArrayList", ⟨"java/util/ArrayList", "<init>", "()V"⟩, prog_24_method_2_code, 1, none, [])
theorem my_al_init : aw_my mm_al_init := ⟨Or.inl ⟨aw_m1 42 rfl rfl, rfl⟩, by decide +kernel, rfl⟩
def mm_bl_init : am_M := ("java/util/AbstractList", ⟨"java/util/AbstractList", "<init>", "()V"⟩, prog_23_method_1_code, 1, none, [])
theorem my_bl_init : aw_my mm_bl_init := ⟨Or.inl ⟨aw_m1 45 rfl rfl, rfl⟩, by decide +kernel, rfl⟩
def mm_bc_init : am_M := ("java/util/AbstractCollection", ⟨"java/util/AbstractCollection", "<init>", "()V"⟩, prog_22_method_1_code, 1, none, [])
theorem my_bc_init : aw_my mm_bc_init := ⟨Or.inl ⟨aw_m1 48 rfl rfl, rfl⟩, by decide +kernel, rfl⟩
def mm_se_init : am_M := ("RoleAnalyser$Search", ⟨"RoleAnalyser$Search", "<init>", "(LRoleAnalyser$Policy;)V"⟩, prog_5_method_1_code, 2, none, [])
theorem my_se_init : aw_my mm_se_init := ⟨Or.inl ⟨aw_m1 92 rfl rfl, rfl⟩, by decide +kernel, rfl⟩
def mm_ar_fill : am_M := ("java/util/Arrays", ⟨"java/util/Arrays", "fill", "([II)V"⟩, prog_25_method_103_code, 4, none, [])
theorem my_ar_fill : aw_my mm_ar_fill := ⟨Or.inl ⟨aw_m1 112 rfl rfl, rfl⟩, by decide +kernel, rfl⟩
def mm_lw_role : am_M := ("RoleAnalyserLaw", ⟨"RoleAnalyserLaw", "role", "(LRoleAnalyser;[J)I"⟩, method_3_code, 3, (some .int), [(0, 8, 11, 13)])
theorem my_lw_role : aw_my mm_lw_role := ⟨Or.inr (aw_m1 137 rfl rfl), by decide +kernel, rfl⟩
def mm_ra_role : am_M := ("RoleAnalyser", ⟨"RoleAnalyser", "role", "()I"⟩, prog_1_method_2_code, 2, (some .int), [])
theorem my_ra_role : aw_my mm_ra_role := ⟨Or.inl ⟨aw_m1 142 rfl rfl, rfl⟩, by decide +kernel, rfl⟩
def mm_lw_user : am_M := ("RoleAnalyserLaw", ⟨"RoleAnalyserLaw", "user", "(LRoleAnalyser;[J)I"⟩, method_4_code, 3, (some .int), [(0, 8, 11, 13)])
theorem my_lw_user : aw_my mm_lw_user := ⟨Or.inr (aw_m1 214 rfl rfl), by decide +kernel, rfl⟩
def mm_ra_user : am_M := ("RoleAnalyser", ⟨"RoleAnalyser", "user", "()I"⟩, prog_1_method_3_code, 2, (some .int), [])
theorem my_ra_user : aw_my mm_ra_user := ⟨Or.inl ⟨aw_m1 218 rfl rfl, rfl⟩, by decide +kernel, rfl⟩
def mm_lw_above : am_M := ("RoleAnalyserLaw", ⟨"RoleAnalyserLaw", "above", "(LRoleAnalyser;II[J)I"⟩, method_5_code, 5, (some .int), [(0, 17, 20, 22), (0, 17, 24, 24), (0, 17, 28, 13)])
theorem my_lw_above : aw_my mm_lw_above := ⟨Or.inr (aw_m1 222 rfl rfl), by decide +kernel, rfl⟩
def mm_ra_above : am_M := ("RoleAnalyser", ⟨"RoleAnalyser", "above", "(II)Z"⟩, prog_1_method_4_code, 4, (some .boolean), [])
theorem my_ra_above : aw_my mm_ra_above := ⟨Or.inl ⟨aw_m1 228 rfl rfl, rfl⟩, by decide +kernel, rfl⟩
def mm_ra_checkRole : am_M := ("RoleAnalyser", ⟨"RoleAnalyser", "checkRole", "(I)V"⟩, prog_1_method_27_code, 2, none, [])
theorem my_ra_checkRole : aw_my mm_ra_checkRole := ⟨Or.inl ⟨aw_m1 232 rfl rfl, rfl⟩, by decide +kernel, rfl⟩
def mm_po_standsAbove : am_M := ("RoleAnalyser$Policy", ⟨"RoleAnalyser$Policy", "standsAbove", "(II)Z"⟩, prog_3_method_2_code, 3, (some .boolean), [])
theorem my_po_standsAbove : aw_my mm_po_standsAbove := ⟨Or.inl ⟨aw_m2 12 rfl rfl, rfl⟩, by decide +kernel, rfl⟩
def mm_ra_has : am_M := ("RoleAnalyser", ⟨"RoleAnalyser", "has", "(II)Z"⟩, prog_1_method_36_code, 2, (some .boolean), [])
theorem my_ra_has : aw_my mm_ra_has := ⟨Or.inl ⟨aw_m2 15 rfl rfl, rfl⟩, by decide +kernel, rfl⟩
def mm_ra_authorizedRoles : am_M := ("RoleAnalyser", ⟨"RoleAnalyser", "authorizedRoles", "(I)I"⟩, prog_1_method_22_code, 2, (some .int), [])
theorem my_ra_authorizedRoles : aw_my mm_ra_authorizedRoles := ⟨Or.inl ⟨aw_m2 35 rfl rfl, rfl⟩, by decide +kernel, rfl⟩
def mm_po_widened : am_M := ("RoleAnalyser$Policy", ⟨"RoleAnalyser$Policy", "widened", "(III)I"⟩, prog_3_method_3_code, 4, (some .int), [])
theorem my_po_widened : aw_my mm_po_widened := ⟨Or.inl ⟨aw_m2 39 rfl rfl, rfl⟩, by decide +kernel, rfl⟩
def mm_ra_checkStaticLimits : am_M := ("RoleAnalyser", ⟨"RoleAnalyser", "checkStaticLimits", "(I)V"⟩, prog_1_method_32_code, 2, none, [])
theorem my_ra_checkStaticLimits : aw_my mm_ra_checkStaticLimits := ⟨Or.inl ⟨aw_m2 43 rfl rfl, rfl⟩, by decide +kernel, rfl⟩
def mm_ra_areKept : am_M := ("RoleAnalyser", ⟨"RoleAnalyser", "areKept", "(Ljava/util/ArrayList;I)Z"⟩, prog_1_method_37_code, 3, (some .boolean), [])
theorem my_ra_areKept : aw_my mm_ra_areKept := ⟨Or.inl ⟨aw_m2 46 rfl rfl, rfl⟩, by decide +kernel, rfl⟩
def mm_al_size : am_M := ("java/util/ArrayList", ⟨"java/util/ArrayList", "size", "()I"⟩, prog_24_method_8_code, 1, (some .int), [])
theorem my_al_size : aw_my mm_al_size := ⟨Or.inl ⟨aw_m2 50 rfl rfl, rfl⟩, by decide +kernel, rfl⟩
def mm_al_get : am_M := ("java/util/ArrayList", ⟨"java/util/ArrayList", "get", "(I)Ljava/lang/Object;"⟩, prog_24_method_20_code, 2, (some (.object "java/lang/Object")), [])
theorem my_al_get : aw_my mm_al_get := ⟨Or.inl ⟨aw_m2 54 rfl rfl, rfl⟩, by decide +kernel, rfl⟩
def mm_ot_checkIndex : am_M := ("java/util/Objects", ⟨"java/util/Objects", "checkIndex", "(II)I"⟩, prog_28_method_17_code, 2, (some .int), [])
theorem my_ot_checkIndex : aw_my mm_ot_checkIndex := ⟨Or.inl ⟨aw_m2 57 rfl rfl, rfl⟩, by decide +kernel, rfl⟩
def mm_pc_checkIndex : am_M := ("jdk/internal/util/Preconditions", ⟨"jdk/internal/util/Preconditions", "checkIndex", "(IILjava/util/function/BiFunction;)I"⟩, prog_32_method_11_code, 3, (some .int), [])
theorem my_pc_checkIndex : aw_my mm_pc_checkIndex := ⟨Or.inl ⟨aw_m2 60 rfl rfl, rfl⟩, by decide +kernel, rfl⟩
def mm_al_elementData : am_M := ("java/util/ArrayList", ⟨"java/util/ArrayList", "elementData", "(I)Ljava/lang/Object;"⟩, prog_24_method_18_code, 2, (some (.object "java/lang/Object")), [])
theorem my_al_elementData : aw_my mm_al_elementData := ⟨Or.inl ⟨aw_m2 64 rfl rfl, rfl⟩, by decide +kernel, rfl⟩
def mm_li_isKept : am_M := ("RoleAnalyser$Limit", ⟨"RoleAnalyser$Limit", "isKept", "(I)Z"⟩, prog_2_method_2_code, 2, (some .boolean), [])
theorem my_li_isKept : aw_my mm_li_isKept := ⟨Or.inl ⟨aw_m2 69 rfl rfl, rfl⟩, by decide +kernel, rfl⟩
def mm_ig_bitCount : am_M := ("java/lang/Integer", ⟨"java/lang/Integer", "bitCount", "(I)I"⟩, prog_14_method_49_code, 1, (some .int), [])
theorem my_ig_bitCount : aw_my mm_ig_bitCount := ⟨Or.inl ⟨aw_m2 72 rfl rfl, rfl⟩, by decide +kernel, rfl⟩
def mm_po_putAbove : am_M := ("RoleAnalyser$Policy", ⟨"RoleAnalyser$Policy", "putAbove", "(II)V"⟩, prog_3_method_4_code, 4, none, [])
theorem my_po_putAbove : aw_my mm_po_putAbove := ⟨Or.inl ⟨aw_m2 80 rfl rfl, rfl⟩, by decide +kernel, rfl⟩
def mm_lw_grant : am_M := ("RoleAnalyserLaw", ⟨"RoleAnalyserLaw", "grant", "(LRoleAnalyser;II[J)I"⟩, method_6_code, 5, (some .int), [(0, 17, 20, 22)])
theorem my_lw_grant : aw_my mm_lw_grant := ⟨Or.inr (aw_m2 84 rfl rfl), by decide +kernel, rfl⟩
def mm_ra_grant : am_M := ("RoleAnalyser", ⟨"RoleAnalyser", "grant", "(II)Z"⟩, prog_1_method_5_code, 4, (some .boolean), [])
theorem my_ra_grant : aw_my mm_ra_grant := ⟨Or.inl ⟨aw_m2 88 rfl rfl, rfl⟩, by decide +kernel, rfl⟩
def mm_ra_checkPermission : am_M := ("RoleAnalyser", ⟨"RoleAnalyser", "checkPermission", "(I)V"⟩, prog_1_method_34_code, 1, none, [])
theorem my_ra_checkPermission : aw_my mm_ra_checkPermission := ⟨Or.inl ⟨aw_m2 91 rfl rfl, rfl⟩, by decide +kernel, rfl⟩
def mm_lw_limit : am_M := ("RoleAnalyserLaw", ⟨"RoleAnalyserLaw", "limit", "(LRoleAnalyser;ZII)I"⟩, method_7_code, 5, (some .int), [(0, 7, 10, 24), (0, 7, 14, 13)])
theorem my_lw_limit : aw_my mm_lw_limit := ⟨Or.inr (aw_m2 96 rfl rfl), by decide +kernel, rfl⟩
def mm_ra_limit : am_M := ("RoleAnalyser", ⟨"RoleAnalyser", "limit", "(ZII)V"⟩, prog_1_method_6_code, 6, none, [])
theorem my_ra_limit : aw_my mm_ra_limit := ⟨Or.inl ⟨aw_m2 100 rfl rfl, rfl⟩, by decide +kernel, rfl⟩
def mm_ra_checkRoleSet : am_M := ("RoleAnalyser", ⟨"RoleAnalyser", "checkRoleSet", "(I)V"⟩, prog_1_method_35_code, 1, none, [])
theorem my_ra_checkRoleSet : aw_my mm_ra_checkRoleSet := ⟨Or.inl ⟨aw_m2 104 rfl rfl, rfl⟩, by decide +kernel, rfl⟩
def mm_li_init : am_M := ("RoleAnalyser$Limit", ⟨"RoleAnalyser$Limit", "<init>", "(II)V"⟩, prog_2_method_1_code, 3, none, [])
theorem my_li_init : aw_my mm_li_init := ⟨Or.inl ⟨aw_m2 110 rfl rfl, rfl⟩, by decide +kernel, rfl⟩
def mm_ra_isKeptBySessions : am_M := ("RoleAnalyser", ⟨"RoleAnalyser", "isKeptBySessions", "(LRoleAnalyser$Limit;)Z"⟩, prog_1_method_26_code, 3, (some .boolean), [])
theorem my_ra_isKeptBySessions : aw_my mm_ra_isKeptBySessions := ⟨Or.inl ⟨aw_m2 122 rfl rfl, rfl⟩, by decide +kernel, rfl⟩
def mm_ra_isKeptByUsers : am_M := ("RoleAnalyser", ⟨"RoleAnalyser", "isKeptByUsers", "(LRoleAnalyser$Limit;)Z"⟩, prog_1_method_25_code, 3, (some .boolean), [])
theorem my_ra_isKeptByUsers : aw_my mm_ra_isKeptByUsers := ⟨Or.inl ⟨aw_m2 126 rfl rfl, rfl⟩, by decide +kernel, rfl⟩
def mm_al_add1 : am_M := ("java/util/ArrayList", ⟨"java/util/ArrayList", "add", "(Ljava/lang/Object;)Z"⟩, prog_24_method_25_code, 2, (some .boolean), [])
theorem my_al_add1 : aw_my mm_al_add1 := ⟨Or.inl ⟨aw_m2 131 rfl rfl, rfl⟩, by decide +kernel, rfl⟩
def mm_al_add2 : am_M := ("java/util/ArrayList", ⟨"java/util/ArrayList", "add", "(Ljava/lang/Object;[Ljava/lang/Object;I)V"⟩, prog_24_method_24_code, 4, none, [])
theorem my_al_add2 : aw_my mm_al_add2 := ⟨Or.inl ⟨aw_m2 135 rfl rfl, rfl⟩, by decide +kernel, rfl⟩
def mm_al_grow1 : am_M := ("java/util/ArrayList", ⟨"java/util/ArrayList", "grow", "()[Ljava/lang/Object;"⟩, prog_24_method_7_code, 1, (some (.array (.object "java/lang/Object"))), [])
theorem my_al_grow1 : aw_my mm_al_grow1 := ⟨Or.inl ⟨aw_m2 139 rfl rfl, rfl⟩, by decide +kernel, rfl⟩
def mm_al_grow2 : am_M := ("java/util/ArrayList", ⟨"java/util/ArrayList", "grow", "(I)[Ljava/lang/Object;"⟩, prog_24_method_6_code, 4, (some (.array (.object "java/lang/Object"))), [])
theorem my_al_grow2 : aw_my mm_al_grow2 := ⟨Or.inl ⟨aw_m2 143 rfl rfl, rfl⟩, by decide +kernel, rfl⟩
def mm_su_newLength : am_M := ("jdk/internal/util/ArraysSupport", ⟨"jdk/internal/util/ArraysSupport", "newLength", "(III)I"⟩, prog_31_method_27_code, 4, (some .int), [])
theorem my_su_newLength : aw_my mm_su_newLength := ⟨Or.inl ⟨aw_m2 146 rfl rfl, rfl⟩, by decide +kernel, rfl⟩
def mm_ma_max : am_M := ("java/lang/Math", ⟨"java/lang/Math", "max", "(II)I"⟩, prog_16_method_65_code, 2, (some .int), [])
theorem my_ma_max : aw_my mm_ma_max := ⟨Or.inl ⟨aw_m2 149 rfl rfl, rfl⟩, by decide +kernel, rfl⟩
def mm_su_hugeLength : am_M := ("jdk/internal/util/ArraysSupport", ⟨"jdk/internal/util/ArraysSupport", "hugeLength", "(II)I"⟩, prog_31_method_28_code, 3, (some .int), [])
theorem my_su_hugeLength : aw_my mm_su_hugeLength := ⟨Or.inl ⟨aw_m2 153 rfl rfl, rfl⟩, by decide +kernel, rfl⟩
def mm_ar_copyOf1 : am_M := ("java/util/Arrays", ⟨"java/util/Arrays", "copyOf", "([Ljava/lang/Object;I)[Ljava/lang/Object;"⟩, prog_25_method_119_code, 2, (some (.array (.object "java/lang/Object"))), [])
theorem my_ar_copyOf1 : aw_my mm_ar_copyOf1 := ⟨Or.inl ⟨aw_m2 156 rfl rfl, rfl⟩, by decide +kernel, rfl⟩
def mm_ar_copyOf2 : am_M := ("java/util/Arrays", ⟨"java/util/Arrays", "copyOf", "([Ljava/lang/Object;ILjava/lang/Class;)[Ljava/lang/Object;"⟩, prog_25_method_120_code, 4, (some (.array (.object "java/lang/Object"))), [])
theorem my_ar_copyOf2 : aw_my mm_ar_copyOf2 := ⟨Or.inl ⟨aw_m2 174 rfl rfl, rfl⟩, by decide +kernel, rfl⟩
def mm_ma_min : am_M := ("java/lang/Math", ⟨"java/lang/Math", "min", "(II)I"⟩, prog_16_method_69_code, 2, (some .int), [])
theorem my_ma_min : aw_my mm_ma_min := ⟨Or.inl ⟨aw_m2 180 rfl rfl, rfl⟩, by decide +kernel, rfl⟩
def mm_lw_giveRule : am_M := ("RoleAnalyserLaw", ⟨"RoleAnalyserLaw", "giveRule", "(LRoleAnalyser;IIII[J)I"⟩, method_8_code, 7, (some .int), [(0, 14, 17, 22), (0, 14, 21, 24), (0, 14, 25, 13)])
theorem my_lw_giveRule : aw_my mm_lw_giveRule := ⟨Or.inr (aw_m2 188 rfl rfl), by decide +kernel, rfl⟩
def mm_ra_giveRule : am_M := ("RoleAnalyser", ⟨"RoleAnalyser", "giveRule", "(IIII)I"⟩, prog_1_method_7_code, 5, (some .int), [])
theorem my_ra_giveRule : aw_my mm_ra_giveRule := ⟨Or.inl ⟨aw_m2 192 rfl rfl, rfl⟩, by decide +kernel, rfl⟩
def mm_ra_checkRoomForRule : am_M := ("RoleAnalyser", ⟨"RoleAnalyser", "checkRoomForRule", "()V"⟩, prog_1_method_31_code, 1, none, [])
theorem my_ra_checkRoomForRule : aw_my mm_ra_checkRoomForRule := ⟨Or.inl ⟨aw_m2 196 rfl rfl, rfl⟩, by decide +kernel, rfl⟩
def mm_ru_init : am_M := ("RoleAnalyser$Rule", ⟨"RoleAnalyser$Rule", "<init>", "(ZIIII)V"⟩, prog_4_method_1_code, 6, none, [])
theorem my_ru_init : aw_my mm_ru_init := ⟨Or.inl ⟨aw_m2 202 rfl rfl, rfl⟩, by decide +kernel, rfl⟩
def mm_po_addRule : am_M := ("RoleAnalyser$Policy", ⟨"RoleAnalyser$Policy", "addRule", "(LRoleAnalyser$Rule;)I"⟩, prog_3_method_5_code, 2, (some .int), [])
theorem my_po_addRule : aw_my mm_po_addRule := ⟨Or.inl ⟨aw_m2 223 rfl rfl, rfl⟩, by decide +kernel, rfl⟩
def mm_lw_takeRule : am_M := ("RoleAnalyserLaw", ⟨"RoleAnalyserLaw", "takeRule", "(LRoleAnalyser;II[J)I"⟩, method_9_code, 5, (some .int), [(0, 10, 13, 22), (0, 10, 17, 13)])
theorem my_lw_takeRule : aw_my mm_lw_takeRule := ⟨Or.inr (aw_m2 228 rfl rfl), by decide +kernel, rfl⟩
def mm_ra_takeRule : am_M := ("RoleAnalyser", ⟨"RoleAnalyser", "takeRule", "(II)I"⟩, prog_1_method_8_code, 3, (some .int), [])
theorem my_ra_takeRule : aw_my mm_ra_takeRule := ⟨Or.inl ⟨aw_m2 232 rfl rfl, rfl⟩, by decide +kernel, rfl⟩
def mm_lw_assign : am_M := ("RoleAnalyserLaw", ⟨"RoleAnalyserLaw", "assign", "(LRoleAnalyser;II[J)I"⟩, method_10_code, 5, (some .int), [(0, 17, 20, 22), (0, 17, 24, 13)])
theorem my_lw_assign : aw_my mm_lw_assign := ⟨Or.inr (aw_m2 235 rfl rfl), by decide +kernel, rfl⟩
def mm_ra_assign : am_M := ("RoleAnalyser", ⟨"RoleAnalyser", "assign", "(II)Z"⟩, prog_1_method_9_code, 3, (some .boolean), [])
theorem my_ra_assign : aw_my mm_ra_assign := ⟨Or.inl ⟨aw_m2 239 rfl rfl, rfl⟩, by decide +kernel, rfl⟩
def mm_ra_checkUser : am_M := ("RoleAnalyser", ⟨"RoleAnalyser", "checkUser", "(I)V"⟩, prog_1_method_28_code, 2, none, [])
theorem my_ra_checkUser : aw_my mm_ra_checkUser := ⟨Or.inl ⟨aw_m3 3 rfl rfl, rfl⟩, by decide +kernel, rfl⟩
def mm_ra_addAssignment : am_M := ("RoleAnalyser", ⟨"RoleAnalyser", "addAssignment", "(II)Z"⟩, prog_1_method_23_code, 5, (some .boolean), [])
theorem my_ra_addAssignment : aw_my mm_ra_addAssignment := ⟨Or.inl ⟨aw_m3 8 rfl rfl, rfl⟩, by decide +kernel, rfl⟩
def mm_lw_remove : am_M := ("RoleAnalyserLaw", ⟨"RoleAnalyserLaw", "remove", "(LRoleAnalyser;II[J)I"⟩, method_11_code, 5, (some .int), [(0, 17, 20, 22)])
theorem my_lw_remove : aw_my mm_lw_remove := ⟨Or.inr (aw_m3 11 rfl rfl), by decide +kernel, rfl⟩
def mm_ra_remove : am_M := ("RoleAnalyser", ⟨"RoleAnalyser", "remove", "(II)Z"⟩, prog_1_method_10_code, 3, (some .boolean), [])
theorem my_ra_remove : aw_my mm_ra_remove := ⟨Or.inl ⟨aw_m3 15 rfl rfl, rfl⟩, by decide +kernel, rfl⟩
def mm_ra_dropAssignment : am_M := ("RoleAnalyser", ⟨"RoleAnalyser", "dropAssignment", "(II)Z"⟩, prog_1_method_24_code, 5, (some .boolean), [])
theorem my_ra_dropAssignment : aw_my mm_ra_dropAssignment := ⟨Or.inl ⟨aw_m3 19 rfl rfl, rfl⟩, by decide +kernel, rfl⟩
def mm_lw_give : am_M := ("RoleAnalyserLaw", ⟨"RoleAnalyserLaw", "give", "(LRoleAnalyser;III[J)I"⟩, method_12_code, 6, (some .int), [(0, 19, 22, 22), (0, 19, 26, 51), (0, 19, 30, 13)])
theorem my_lw_give : aw_my mm_lw_give := ⟨Or.inr (aw_m3 22 rfl rfl), by decide +kernel, rfl⟩
def mm_ra_give : am_M := ("RoleAnalyser", ⟨"RoleAnalyser", "give", "(III)Z"⟩, prog_1_method_11_code, 4, (some .boolean), [])
theorem my_ra_give : aw_my mm_ra_give := ⟨Or.inl ⟨aw_m3 27 rfl rfl, rfl⟩, by decide +kernel, rfl⟩
def mm_ra_checkLeave : am_M := ("RoleAnalyser", ⟨"RoleAnalyser", "checkLeave", "(ZIII)V"⟩, prog_1_method_33_code, 5, none, [])
theorem my_ra_checkLeave : aw_my mm_ra_checkLeave := ⟨Or.inl ⟨aw_m3 31 rfl rfl, rfl⟩, by decide +kernel, rfl⟩
def mm_po_isAllowed : am_M := ("RoleAnalyser$Policy", ⟨"RoleAnalyser$Policy", "isAllowed", "(ZIII)Z"⟩, prog_3_method_6_code, 7, (some .boolean), [])
theorem my_po_isAllowed : aw_my mm_po_isAllowed := ⟨Or.inl ⟨aw_m3 35 rfl rfl, rfl⟩, by decide +kernel, rfl⟩
def mm_ru_isFor : am_M := ("RoleAnalyser$Rule", ⟨"RoleAnalyser$Rule", "isFor", "(ZI)Z"⟩, prog_4_method_2_code, 3, (some .boolean), [])
theorem my_ru_isFor : aw_my mm_ru_isFor := ⟨Or.inl ⟨aw_m3 41 rfl rfl, rfl⟩, by decide +kernel, rfl⟩
def mm_ru_allows : am_M := ("RoleAnalyser$Rule", ⟨"RoleAnalyser$Rule", "allows", "(II)Z"⟩, prog_4_method_3_code, 3, (some .boolean), [])
theorem my_ru_allows : aw_my mm_ru_allows := ⟨Or.inl ⟨aw_m3 45 rfl rfl, rfl⟩, by decide +kernel, rfl⟩
def mm_lw_take : am_M := ("RoleAnalyserLaw", ⟨"RoleAnalyserLaw", "take", "(LRoleAnalyser;III[J)I"⟩, method_13_code, 6, (some .int), [(0, 19, 22, 22), (0, 19, 26, 51)])
theorem my_lw_take : aw_my mm_lw_take := ⟨Or.inr (aw_m3 65 rfl rfl), by decide +kernel, rfl⟩
def mm_ra_take : am_M := ("RoleAnalyser", ⟨"RoleAnalyser", "take", "(III)Z"⟩, prog_1_method_12_code, 4, (some .boolean), [])
theorem my_ra_take : aw_my mm_ra_take := ⟨Or.inl ⟨aw_m3 69 rfl rfl, rfl⟩, by decide +kernel, rfl⟩
def mm_lw_roles : am_M := ("RoleAnalyserLaw", ⟨"RoleAnalyserLaw", "roles", "(LRoleAnalyser;IZ[J)I"⟩, method_14_code, 5, (some .int), [(0, 10, 13, 22)])
theorem my_lw_roles : aw_my mm_lw_roles := ⟨Or.inr (aw_m3 72 rfl rfl), by decide +kernel, rfl⟩
def mm_ra_roles : am_M := ("RoleAnalyser", ⟨"RoleAnalyser", "roles", "(IZ)I"⟩, prog_1_method_13_code, 3, (some .int), [])
theorem my_ra_roles : aw_my mm_ra_roles := ⟨Or.inl ⟨aw_m3 76 rfl rfl, rfl⟩, by decide +kernel, rfl⟩
def mm_lw_open : am_M := ("RoleAnalyserLaw", ⟨"RoleAnalyserLaw", "open", "(LRoleAnalyser;I[J)I"⟩, method_15_code, 4, (some .int), [(0, 9, 12, 22), (0, 9, 15, 13)])
theorem my_lw_open : aw_my mm_lw_open := ⟨Or.inr (aw_m3 79 rfl rfl), by decide +kernel, rfl⟩
def mm_ra_open : am_M := ("RoleAnalyser", ⟨"RoleAnalyser", "open", "(I)I"⟩, prog_1_method_14_code, 3, (some .int), [])
theorem my_ra_open : aw_my mm_ra_open := ⟨Or.inl ⟨aw_m3 83 rfl rfl, rfl⟩, by decide +kernel, rfl⟩
def mm_lw_close : am_M := ("RoleAnalyserLaw", ⟨"RoleAnalyserLaw", "close", "(LRoleAnalyser;I)I"⟩, method_16_code, 3, (some .int), [(0, 5, 8, 22)])
theorem my_lw_close : aw_my mm_lw_close := ⟨Or.inr (aw_m3 87 rfl rfl), by decide +kernel, rfl⟩
def mm_ra_close : am_M := ("RoleAnalyser", ⟨"RoleAnalyser", "close", "(I)V"⟩, prog_1_method_15_code, 2, none, [])
theorem my_ra_close : aw_my mm_ra_close := ⟨Or.inl ⟨aw_m3 91 rfl rfl, rfl⟩, by decide +kernel, rfl⟩
def mm_ra_checkSession : am_M := ("RoleAnalyser", ⟨"RoleAnalyser", "checkSession", "(I)V"⟩, prog_1_method_29_code, 2, none, [])
theorem my_ra_checkSession : aw_my mm_ra_checkSession := ⟨Or.inl ⟨aw_m3 95 rfl rfl, rfl⟩, by decide +kernel, rfl⟩
def mm_lw_activate : am_M := ("RoleAnalyserLaw", ⟨"RoleAnalyserLaw", "activate", "(LRoleAnalyser;II[J)I"⟩, method_17_code, 5, (some .int), [(0, 17, 20, 22), (0, 17, 24, 51), (0, 17, 28, 13)])
theorem my_lw_activate : aw_my mm_lw_activate := ⟨Or.inr (aw_m3 99 rfl rfl), by decide +kernel, rfl⟩
def mm_ra_activate : am_M := ("RoleAnalyser", ⟨"RoleAnalyser", "activate", "(II)Z"⟩, prog_1_method_16_code, 5, (some .boolean), [])
theorem my_ra_activate : aw_my mm_ra_activate := ⟨Or.inl ⟨aw_m3 103 rfl rfl, rfl⟩, by decide +kernel, rfl⟩
def mm_lw_rest : am_M := ("RoleAnalyserLaw", ⟨"RoleAnalyserLaw", "rest", "(LRoleAnalyser;II[J)I"⟩, method_18_code, 5, (some .int), [(0, 17, 20, 22)])
theorem my_lw_rest : aw_my mm_lw_rest := ⟨Or.inr (aw_m3 108 rfl rfl), by decide +kernel, rfl⟩
def mm_ra_rest : am_M := ("RoleAnalyser", ⟨"RoleAnalyser", "rest", "(II)Z"⟩, prog_1_method_17_code, 4, (some .boolean), [])
theorem my_ra_rest : aw_my mm_ra_rest := ⟨Or.inl ⟨aw_m3 112 rfl rfl, rfl⟩, by decide +kernel, rfl⟩
def mm_lw_active : am_M := ("RoleAnalyserLaw", ⟨"RoleAnalyserLaw", "active", "(LRoleAnalyser;I[J)I"⟩, method_19_code, 4, (some .int), [(0, 9, 12, 22)])
theorem my_lw_active : aw_my mm_lw_active := ⟨Or.inr (aw_m3 115 rfl rfl), by decide +kernel, rfl⟩
def mm_ra_active : am_M := ("RoleAnalyser", ⟨"RoleAnalyser", "active", "(I)I"⟩, prog_1_method_18_code, 2, (some .int), [])
theorem my_ra_active : aw_my mm_ra_active := ⟨Or.inl ⟨aw_m3 119 rfl rfl, rfl⟩, by decide +kernel, rfl⟩
def mm_lw_may : am_M := ("RoleAnalyserLaw", ⟨"RoleAnalyserLaw", "may", "(LRoleAnalyser;II[J)I"⟩, method_20_code, 5, (some .int), [(0, 17, 20, 22)])
theorem my_lw_may : aw_my mm_lw_may := ⟨Or.inr (aw_m3 122 rfl rfl), by decide +kernel, rfl⟩
def mm_ra_may : am_M := ("RoleAnalyser", ⟨"RoleAnalyser", "may", "(II)Z"⟩, prog_1_method_19_code, 5, (some .boolean), [])
theorem my_ra_may : aw_my mm_ra_may := ⟨Or.inl ⟨aw_m3 126 rfl rfl, rfl⟩, by decide +kernel, rfl⟩
def mm_lw_distance : am_M := ("RoleAnalyserLaw", ⟨"RoleAnalyserLaw", "distance", "(LRoleAnalyser;II[J)I"⟩, method_21_code, 5, (some .int), [(0, 10, 13, 22), (0, 10, 17, 51)])
theorem my_lw_distance : aw_my mm_lw_distance := ⟨Or.inr (aw_m3 129 rfl rfl), by decide +kernel, rfl⟩
def mm_ra_distance : am_M := ("RoleAnalyser", ⟨"RoleAnalyser", "distance", "(II)I"⟩, prog_1_method_20_code, 4, (some .int), [])
theorem my_ra_distance : aw_my mm_ra_distance := ⟨Or.inl ⟨aw_m3 133 rfl rfl, rfl⟩, by decide +kernel, rfl⟩
def mm_ra_checkQuestion : am_M := ("RoleAnalyser", ⟨"RoleAnalyser", "checkQuestion", "(II)V"⟩, prog_1_method_30_code, 3, none, [])
theorem my_ra_checkQuestion : aw_my mm_ra_checkQuestion := ⟨Or.inl ⟨aw_m3 137 rfl rfl, rfl⟩, by decide +kernel, rfl⟩
def mm_se_nearestGoal : am_M := ("RoleAnalyser$Search", ⟨"RoleAnalyser$Search", "nearestGoal", "([IIII)I"⟩, prog_5_method_2_code, 7, (some .int), [])
theorem my_se_nearestGoal : aw_my mm_se_nearestGoal := ⟨Or.inl ⟨aw_m3 142 rfl rfl, rfl⟩, by decide +kernel, rfl⟩
def mm_se_begin : am_M := ("RoleAnalyser$Search", ⟨"RoleAnalyser$Search", "begin", "([I)V"⟩, prog_5_method_5_code, 4, none, [])
theorem my_se_begin : aw_my mm_se_begin := ⟨Or.inl ⟨aw_m3 146 rfl rfl, rfl⟩, by decide +kernel, rfl⟩
def mm_se_pairBit : am_M := ("RoleAnalyser$Search", ⟨"RoleAnalyser$Search", "pairBit", "(II)I"⟩, prog_5_method_13_code, 3, (some .int), [])
theorem my_se_pairBit : aw_my mm_se_pairBit := ⟨Or.inl ⟨aw_m3 150 rfl rfl, rfl⟩, by decide +kernel, rfl⟩
def mm_se_reach : am_M := ("RoleAnalyser$Search", ⟨"RoleAnalyser$Search", "reach", "(II)V"⟩, prog_5_method_8_code, 3, none, [])
theorem my_se_reach : aw_my mm_se_reach := ⟨Or.inl ⟨aw_m3 155 rfl rfl, rfl⟩, by decide +kernel, rfl⟩
def mm_se_authorizedIn : am_M := ("RoleAnalyser$Search", ⟨"RoleAnalyser$Search", "authorizedIn", "(II)I"⟩, prog_5_method_11_code, 3, (some .int), [])
theorem my_se_authorizedIn : aw_my mm_se_authorizedIn := ⟨Or.inl ⟨aw_m3 159 rfl rfl, rfl⟩, by decide +kernel, rfl⟩
def mm_se_assignedIn : am_M := ("RoleAnalyser$Search", ⟨"RoleAnalyser$Search", "assignedIn", "(II)I"⟩, prog_5_method_12_code, 3, (some .int), [])
theorem my_se_assignedIn : aw_my mm_se_assignedIn := ⟨Or.inl ⟨aw_m3 163 rfl rfl, rfl⟩, by decide +kernel, rfl⟩
def mm_se_takeSteps : am_M := ("RoleAnalyser$Search", ⟨"RoleAnalyser$Search", "takeSteps", "(I)V"⟩, prog_5_method_6_code, 8, none, [])
theorem my_se_takeSteps : aw_my mm_se_takeSteps := ⟨Or.inl ⟨aw_m3 168 rfl rfl, rfl⟩, by decide +kernel, rfl⟩
def mm_se_authorizedOfAll : am_M := ("RoleAnalyser$Search", ⟨"RoleAnalyser$Search", "authorizedOfAll", "(I)I"⟩, prog_5_method_10_code, 4, (some .int), [])
theorem my_se_authorizedOfAll : aw_my mm_se_authorizedOfAll := ⟨Or.inl ⟨aw_m3 172 rfl rfl, rfl⟩, by decide +kernel, rfl⟩
def mm_se_isStep : am_M := ("RoleAnalyser$Search", ⟨"RoleAnalyser$Search", "isStep", "(III)Z"⟩, prog_5_method_7_code, 4, (some .boolean), [])
theorem my_se_isStep : aw_my mm_se_isStep := ⟨Or.inl ⟨aw_m3 176 rfl rfl, rfl⟩, by decide +kernel, rfl⟩
def mm_se_stepsTo : am_M := ("RoleAnalyser$Search", ⟨"RoleAnalyser$Search", "stepsTo", "(I)I"⟩, prog_5_method_3_code, 4, (some .int), [])
theorem my_se_stepsTo : aw_my mm_se_stepsTo := ⟨Or.inl ⟨aw_m3 182 rfl rfl, rfl⟩, by decide +kernel, rfl⟩
def mm_se_stateBefore : am_M := ("RoleAnalyser$Search", ⟨"RoleAnalyser$Search", "stateBefore", "(I)I"⟩, prog_5_method_9_code, 3, (some .int), [])
theorem my_se_stateBefore : aw_my mm_se_stateBefore := ⟨Or.inl ⟨aw_m3 186 rfl rfl, rfl⟩, by decide +kernel, rfl⟩
def mm_lw_plan : am_M := ("RoleAnalyserLaw", ⟨"RoleAnalyserLaw", "plan", "(LRoleAnalyser;III[J)I"⟩, method_22_code, 6, (some .int), [(0, 12, 15, 22), (0, 12, 19, 51), (0, 12, 23, 13)])
theorem my_lw_plan : aw_my mm_lw_plan := ⟨Or.inr (aw_m3 189 rfl rfl), by decide +kernel, rfl⟩
def mm_ra_plan : am_M := ("RoleAnalyser", ⟨"RoleAnalyser", "plan", "(III)I"⟩, prog_1_method_21_code, 5, (some .int), [])
theorem my_ra_plan : aw_my mm_ra_plan := ⟨Or.inl ⟨aw_m3 193 rfl rfl, rfl⟩, by decide +kernel, rfl⟩
def mm_se_stepCode : am_M := ("RoleAnalyser$Search", ⟨"RoleAnalyser$Search", "stepCode", "(II)I"⟩, prog_5_method_4_code, 6, (some .int), [])
theorem my_se_stepCode : aw_my mm_se_stepCode := ⟨Or.inl ⟨aw_m3 198 rfl rfl, rfl⟩, by decide +kernel, rfl⟩
def mm_mo_init : am_M := ("RoleAnalyserModel", ⟨"RoleAnalyserModel", "<init>", "()V"⟩, prog_7_method_1_code, 1, none, [])
theorem my_mo_init : aw_my mm_mo_init := ⟨Or.inl ⟨aw_m3 204 rfl rfl, rfl⟩, by decide +kernel, rfl⟩
def mm_mo_thrown : am_M := ("RoleAnalyserModel", ⟨"RoleAnalyserModel", "thrown", "()I"⟩, prog_7_method_2_code, 1, (some .int), [])
theorem my_mo_thrown : aw_my mm_mo_thrown := ⟨Or.inl ⟨aw_m4 43 rfl rfl, rfl⟩, by decide +kernel, rfl⟩
def mm_mo_role : am_M := ("RoleAnalyserModel", ⟨"RoleAnalyserModel", "role", "()I"⟩, prog_7_method_13_code, 1, (some .int), [])
theorem my_mo_role : aw_my mm_mo_role := ⟨Or.inl ⟨aw_m4 47 rfl rfl, rfl⟩, by decide +kernel, rfl⟩
def mm_mo_when : am_M := ("RoleAnalyserModel", ⟨"RoleAnalyserModel", "when", "(ZI)Z"⟩, prog_7_method_3_code, 3, (some .boolean), [])
theorem my_mo_when : aw_my mm_mo_when := ⟨Or.inl ⟨aw_m4 51 rfl rfl, rfl⟩, by decide +kernel, rfl⟩
def mm_mo_user : am_M := ("RoleAnalyserModel", ⟨"RoleAnalyserModel", "user", "()I"⟩, prog_7_method_14_code, 1, (some .int), [])
theorem my_mo_user : aw_my mm_mo_user := ⟨Or.inl ⟨aw_m4 55 rfl rfl, rfl⟩, by decide +kernel, rfl⟩
def mm_mo_above : am_M := ("RoleAnalyserModel", ⟨"RoleAnalyserModel", "above", "(II)Z"⟩, prog_7_method_15_code, 5, (some .boolean), [])
theorem my_mo_above : aw_my mm_mo_above := ⟨Or.inl ⟨aw_m4 59 rfl rfl, rfl⟩, by decide +kernel, rfl⟩
def mm_mo_isRole : am_M := ("RoleAnalyserModel", ⟨"RoleAnalyserModel", "isRole", "(I)Z"⟩, prog_7_method_4_code, 2, (some .boolean), [])
theorem my_mo_isRole : aw_my mm_mo_isRole := ⟨Or.inl ⟨aw_m4 63 rfl rfl, rfl⟩, by decide +kernel, rfl⟩
def mm_mo_allStaticKept : am_M := ("RoleAnalyserModel", ⟨"RoleAnalyserModel", "allStaticKept", "()Z"⟩, prog_7_method_10_code, 3, (some .boolean), [])
theorem my_mo_allStaticKept : aw_my mm_mo_allStaticKept := ⟨Or.inl ⟨aw_m4 67 rfl rfl, rfl⟩, by decide +kernel, rfl⟩
def mm_mo_staticKept : am_M := ("RoleAnalyserModel", ⟨"RoleAnalyserModel", "staticKept", "(I)Z"⟩, prog_7_method_9_code, 5, (some .boolean), [])
theorem my_mo_staticKept : aw_my mm_mo_staticKept := ⟨Or.inl ⟨aw_m4 71 rfl rfl, rfl⟩, by decide +kernel, rfl⟩
def mm_mo_closed : am_M := ("RoleAnalyserModel", ⟨"RoleAnalyserModel", "closed", "(I)I"⟩, prog_7_method_8_code, 4, (some .int), [])
theorem my_mo_closed : aw_my mm_mo_closed := ⟨Or.inl ⟨aw_m4 75 rfl rfl, rfl⟩, by decide +kernel, rfl⟩
def mm_mo_count : am_M := ("RoleAnalyserModel", ⟨"RoleAnalyserModel", "count", "(I)I"⟩, prog_7_method_7_code, 3, (some .int), [])
theorem my_mo_count : aw_my mm_mo_count := ⟨Or.inl ⟨aw_m4 78 rfl rfl, rfl⟩, by decide +kernel, rfl⟩
def mm_mo_grant : am_M := ("RoleAnalyserModel", ⟨"RoleAnalyserModel", "grant", "(II)Z"⟩, prog_7_method_16_code, 4, (some .boolean), [])
theorem my_mo_grant : aw_my mm_mo_grant := ⟨Or.inl ⟨aw_m4 82 rfl rfl, rfl⟩, by decide +kernel, rfl⟩
def mm_mo_limit : am_M := ("RoleAnalyserModel", ⟨"RoleAnalyserModel", "limit", "(ZII)V"⟩, prog_7_method_17_code, 8, none, [])
theorem my_mo_limit : aw_my mm_mo_limit := ⟨Or.inl ⟨aw_m4 86 rfl rfl, rfl⟩, by decide +kernel, rfl⟩
def mm_mo_dynamicKept : am_M := ("RoleAnalyserModel", ⟨"RoleAnalyserModel", "dynamicKept", "(I)Z"⟩, prog_7_method_11_code, 4, (some .boolean), [])
theorem my_mo_dynamicKept : aw_my mm_mo_dynamicKept := ⟨Or.inl ⟨aw_m4 90 rfl rfl, rfl⟩, by decide +kernel, rfl⟩
def mm_mo_giveRule : am_M := ("RoleAnalyserModel", ⟨"RoleAnalyserModel", "giveRule", "(IIII)I"⟩, prog_7_method_20_code, 5, (some .int), [])
theorem my_mo_giveRule : aw_my mm_mo_giveRule := ⟨Or.inl ⟨aw_m4 94 rfl rfl, rfl⟩, by decide +kernel, rfl⟩
def mm_mo_isSet : am_M := ("RoleAnalyserModel", ⟨"RoleAnalyserModel", "isSet", "(I)Z"⟩, prog_7_method_19_code, 1, (some .boolean), [])
theorem my_mo_isSet : aw_my mm_mo_isSet := ⟨Or.inl ⟨aw_m4 97 rfl rfl, rfl⟩, by decide +kernel, rfl⟩
def mm_mo_addRule : am_M := ("RoleAnalyserModel", ⟨"RoleAnalyserModel", "addRule", "(ZIIII)I"⟩, prog_7_method_18_code, 6, (some .int), [])
theorem my_mo_addRule : aw_my mm_mo_addRule := ⟨Or.inl ⟨aw_m4 101 rfl rfl, rfl⟩, by decide +kernel, rfl⟩
def mm_mo_takeRule : am_M := ("RoleAnalyserModel", ⟨"RoleAnalyserModel", "takeRule", "(II)I"⟩, prog_7_method_21_code, 3, (some .int), [])
theorem my_mo_takeRule : aw_my mm_mo_takeRule := ⟨Or.inl ⟨aw_m4 105 rfl rfl, rfl⟩, by decide +kernel, rfl⟩
def mm_mo_assign : am_M := ("RoleAnalyserModel", ⟨"RoleAnalyserModel", "assign", "(II)Z"⟩, prog_7_method_25_code, 3, (some .boolean), [])
theorem my_mo_assign : aw_my mm_mo_assign := ⟨Or.inl ⟨aw_m4 109 rfl rfl, rfl⟩, by decide +kernel, rfl⟩
def mm_mo_isUser : am_M := ("RoleAnalyserModel", ⟨"RoleAnalyserModel", "isUser", "(I)Z"⟩, prog_7_method_5_code, 2, (some .boolean), [])
theorem my_mo_isUser : aw_my mm_mo_isUser := ⟨Or.inl ⟨aw_m4 113 rfl rfl, rfl⟩, by decide +kernel, rfl⟩
def mm_mo_put : am_M := ("RoleAnalyserModel", ⟨"RoleAnalyserModel", "put", "(III)Z"⟩, prog_7_method_23_code, 6, (some .boolean), [])
theorem my_mo_put : aw_my mm_mo_put := ⟨Or.inl ⟨aw_m4 117 rfl rfl, rfl⟩, by decide +kernel, rfl⟩
def mm_mo_remove : am_M := ("RoleAnalyserModel", ⟨"RoleAnalyserModel", "remove", "(II)Z"⟩, prog_7_method_26_code, 3, (some .boolean), [])
theorem my_mo_remove : aw_my mm_mo_remove := ⟨Or.inl ⟨aw_m4 121 rfl rfl, rfl⟩, by decide +kernel, rfl⟩
def mm_mo_drop : am_M := ("RoleAnalyserModel", ⟨"RoleAnalyserModel", "drop", "(II)Z"⟩, prog_7_method_24_code, 4, (some .boolean), [])
theorem my_mo_drop : aw_my mm_mo_drop := ⟨Or.inl ⟨aw_m4 125 rfl rfl, rfl⟩, by decide +kernel, rfl⟩
def mm_mo_cutSessions : am_M := ("RoleAnalyserModel", ⟨"RoleAnalyserModel", "cutSessions", "()V"⟩, prog_7_method_12_code, 2, none, [])
theorem my_mo_cutSessions : aw_my mm_mo_cutSessions := ⟨Or.inl ⟨aw_m4 129 rfl rfl, rfl⟩, by decide +kernel, rfl⟩
def mm_mo_give : am_M := ("RoleAnalyserModel", ⟨"RoleAnalyserModel", "give", "(III)Z"⟩, prog_7_method_27_code, 4, (some .boolean), [])
theorem my_mo_give : aw_my mm_mo_give := ⟨Or.inl ⟨aw_m4 133 rfl rfl, rfl⟩, by decide +kernel, rfl⟩
def mm_mo_lets : am_M := ("RoleAnalyserModel", ⟨"RoleAnalyserModel", "lets", "(ZIII)Z"⟩, prog_7_method_22_code, 8, (some .boolean), [])
theorem my_mo_lets : aw_my mm_mo_lets := ⟨Or.inl ⟨aw_m4 137 rfl rfl, rfl⟩, by decide +kernel, rfl⟩
def mm_mo_take : am_M := ("RoleAnalyserModel", ⟨"RoleAnalyserModel", "take", "(III)Z"⟩, prog_7_method_28_code, 4, (some .boolean), [])
theorem my_mo_take : aw_my mm_mo_take := ⟨Or.inl ⟨aw_m4 141 rfl rfl, rfl⟩, by decide +kernel, rfl⟩
def mm_mo_roles : am_M := ("RoleAnalyserModel", ⟨"RoleAnalyserModel", "roles", "(IZ)I"⟩, prog_7_method_29_code, 3, (some .int), [])
theorem my_mo_roles : aw_my mm_mo_roles := ⟨Or.inl ⟨aw_m4 145 rfl rfl, rfl⟩, by decide +kernel, rfl⟩
def mm_mo_open : am_M := ("RoleAnalyserModel", ⟨"RoleAnalyserModel", "open", "(I)I"⟩, prog_7_method_30_code, 3, (some .int), [])
theorem my_mo_open : aw_my mm_mo_open := ⟨Or.inl ⟨aw_m4 149 rfl rfl, rfl⟩, by decide +kernel, rfl⟩
def mm_mo_close : am_M := ("RoleAnalyserModel", ⟨"RoleAnalyserModel", "close", "(I)V"⟩, prog_7_method_31_code, 2, none, [])
theorem my_mo_close : aw_my mm_mo_close := ⟨Or.inl ⟨aw_m4 153 rfl rfl, rfl⟩, by decide +kernel, rfl⟩
def mm_mo_isSession : am_M := ("RoleAnalyserModel", ⟨"RoleAnalyserModel", "isSession", "(I)Z"⟩, prog_7_method_6_code, 2, (some .boolean), [])
theorem my_mo_isSession : aw_my mm_mo_isSession := ⟨Or.inl ⟨aw_m4 157 rfl rfl, rfl⟩, by decide +kernel, rfl⟩
def mm_mo_activate : am_M := ("RoleAnalyserModel", ⟨"RoleAnalyserModel", "activate", "(II)Z"⟩, prog_7_method_32_code, 5, (some .boolean), [])
theorem my_mo_activate : aw_my mm_mo_activate := ⟨Or.inl ⟨aw_m4 161 rfl rfl, rfl⟩, by decide +kernel, rfl⟩
def mm_mo_rest : am_M := ("RoleAnalyserModel", ⟨"RoleAnalyserModel", "rest", "(II)Z"⟩, prog_7_method_33_code, 4, (some .boolean), [])
theorem my_mo_rest : aw_my mm_mo_rest := ⟨Or.inl ⟨aw_m4 165 rfl rfl, rfl⟩, by decide +kernel, rfl⟩
def mm_mo_active : am_M := ("RoleAnalyserModel", ⟨"RoleAnalyserModel", "active", "(I)I"⟩, prog_7_method_34_code, 2, (some .int), [])
theorem my_mo_active : aw_my mm_mo_active := ⟨Or.inl ⟨aw_m4 169 rfl rfl, rfl⟩, by decide +kernel, rfl⟩
def mm_mo_may : am_M := ("RoleAnalyserModel", ⟨"RoleAnalyserModel", "may", "(II)Z"⟩, prog_7_method_35_code, 6, (some .boolean), [])
theorem my_mo_may : aw_my mm_mo_may := ⟨Or.inl ⟨aw_m4 173 rfl rfl, rfl⟩, by decide +kernel, rfl⟩
def mm_mo_distance : am_M := ("RoleAnalyserModel", ⟨"RoleAnalyserModel", "distance", "(II)I"⟩, prog_7_method_40_code, 3, (some .int), [])
theorem my_mo_distance : aw_my mm_mo_distance := ⟨Or.inl ⟨aw_m4 177 rfl rfl, rfl⟩, by decide +kernel, rfl⟩
def mm_mo_search : am_M := ("RoleAnalyserModel", ⟨"RoleAnalyserModel", "search", "(II)V"⟩, prog_7_method_39_code, 8, none, [])
theorem my_mo_search : aw_my mm_mo_search := ⟨Or.inl ⟨aw_m4 181 rfl rfl, rfl⟩, by decide +kernel, rfl⟩
def mm_mo_has : am_M := ("RoleAnalyserModel", ⟨"RoleAnalyserModel", "has", "(III)Z"⟩, prog_7_method_38_code, 4, (some .boolean), [])
theorem my_mo_has : aw_my mm_mo_has := ⟨Or.inl ⟨aw_m4 185 rfl rfl, rfl⟩, by decide +kernel, rfl⟩
def mm_mo_rolesIn : am_M := ("RoleAnalyserModel", ⟨"RoleAnalyserModel", "rolesIn", "(II)I"⟩, prog_7_method_36_code, 3, (some .int), [])
theorem my_mo_rolesIn : aw_my mm_mo_rolesIn := ⟨Or.inl ⟨aw_m4 189 rfl rfl, rfl⟩, by decide +kernel, rfl⟩
def mm_mo_stepTo : am_M := ("RoleAnalyserModel", ⟨"RoleAnalyserModel", "stepTo", "(IIIZ)I"⟩, prog_7_method_37_code, 8, (some .int), [])
theorem my_mo_stepTo : aw_my mm_mo_stepTo := ⟨Or.inl ⟨aw_m4 193 rfl rfl, rfl⟩, by decide +kernel, rfl⟩
def mm_mo_plan : am_M := ("RoleAnalyserModel", ⟨"RoleAnalyserModel", "plan", "(III)I"⟩, prog_7_method_42_code, 10, (some .int), [])
theorem my_mo_plan : aw_my mm_mo_plan := ⟨Or.inl ⟨aw_m4 197 rfl rfl, rfl⟩, by decide +kernel, rfl⟩
def mm_mo_mark : am_M := ("RoleAnalyserModel", ⟨"RoleAnalyserModel", "mark", "(II)V"⟩, prog_7_method_41_code, 7, none, [])
theorem my_mo_mark : aw_my mm_mo_mark := ⟨Or.inl ⟨aw_m4 201 rfl rfl, rfl⟩, by decide +kernel, rfl⟩
def mm_lw_law : am_M := ("RoleAnalyserLaw", x, code, maxLocals, ret, [])
def tp_P (w : Cond) : Prop := ax_isN w = true ∨ w ∈ aw_T ∨ (w ∈ aw_N ∧ w.onTables = true)
theorem tp_0 : ∀ w ∈ Bundle.throwableAtoms, tp_P w := List.forall_mem_cons.mpr ⟨(Or.inr (Or.inl (aw_m1 9 rfl rfl))), List.forall_mem_cons.mpr ⟨(Or.inr (Or.inl (aw_m1 165 rfl rfl))), List.forall_mem_cons.mpr ⟨(Or.inr (Or.inl (aw_m1 174 rfl rfl))), List.forall_mem_cons.mpr ⟨(Or.inr (Or.inl (aw_m1 179 rfl rfl))), List.forall_mem_cons.mpr ⟨(Or.inr (Or.inl (aw_m1 182 rfl rfl))), List.forall_mem_cons.mpr ⟨(Or.inr (Or.inl (aw_m1 184 rfl rfl))), List.forall_mem_cons.mpr ⟨(Or.inr (Or.inl (aw_m1 166 rfl rfl))), List.forall_mem_cons.mpr ⟨(Or.inr (Or.inl (aw_m1 167 rfl rfl))), List.forall_mem_cons.mpr ⟨(Or.inr (Or.inl (aw_m1 30 rfl rfl))), List.forall_mem_cons.mpr ⟨(Or.inr (Or.inl (aw_m1 31 rfl rfl))), List.forall_mem_cons.mpr ⟨(Or.inr (Or.inl (aw_m1 168 rfl rfl))), List.forall_mem_cons.mpr ⟨(Or.inr (Or.inl (aw_m1 173 rfl rfl))), List.forall_mem_cons.mpr ⟨(Or.inr (Or.inl (aw_m1 180 rfl rfl))), List.forall_mem_cons.mpr ⟨(Or.inr (Or.inl (aw_m1 200 rfl rfl))), List.forall_mem_cons.mpr ⟨(Or.inr (Or.inl (aw_m1 155 rfl rfl))), List.forall_mem_cons.mpr ⟨(Or.inr (Or.inl (aw_m1 201 rfl rfl))), List.forall_mem_cons.mpr ⟨(Or.inr (Or.inl (aw_m1 157 rfl rfl))), List.forall_mem_cons.mpr ⟨(Or.inr (Or.inl (aw_m1 202 rfl rfl))), List.forall_mem_cons.mpr ⟨(Or.inr (Or.inl (aw_m1 159 rfl rfl))), List.forall_mem_cons.mpr ⟨(Or.inr (Or.inl (aw_m1 169 rfl rfl))), List.forall_mem_cons.mpr ⟨(Or.inl (by decide +kernel)), List.forall_mem_cons.mpr ⟨(Or.inr (Or.inl (aw_m1 171 rfl rfl))), List.forall_mem_cons.mpr ⟨(Or.inl (by decide +kernel)), List.forall_mem_cons.mpr ⟨(Or.inr (Or.inl (aw_m1 161 rfl rfl))), fun _ h9 => absurd h9 List.not_mem_nil⟩⟩⟩⟩⟩⟩⟩⟩⟩⟩⟩⟩⟩⟩⟩⟩⟩⟩⟩⟩⟩⟩⟩⟩
theorem tp_1 : ∀ w ∈ Bundle.throwableSAtoms, tp_P w := List.forall_mem_cons.mpr ⟨(Or.inr (Or.inl (aw_m1 196 rfl rfl))), List.forall_mem_cons.mpr ⟨(Or.inr (Or.inl (aw_m1 197 rfl rfl))), List.forall_mem_cons.mpr ⟨(Or.inr (Or.inl (aw_m1 199 rfl rfl))), List.forall_mem_cons.mpr ⟨(Or.inr (Or.inl (aw_m1 161 rfl rfl))), fun _ h9 => absurd h9 List.not_mem_nil⟩⟩⟩⟩
theorem tp_c0 : ∀ w ∈ Bundle.chainSAtoms "java/lang/IllegalStateException" ["java/lang/RuntimeException", "java/lang/Exception"], tp_P w := List.forall_mem_cons.mpr ⟨(Or.inr (Or.inl (aw_m1 187 rfl rfl))), List.forall_mem_cons.mpr ⟨(Or.inr (Or.inl (aw_m1 188 rfl rfl))), List.forall_mem_cons.mpr ⟨(Or.inr (Or.inl (aw_m1 189 rfl rfl))), List.forall_mem_cons.mpr ⟨(Or.inr (Or.inl (aw_m1 190 rfl rfl))), List.forall_mem_cons.mpr ⟨(Or.inr (Or.inr ⟨List.mem_of_getElem? (i := 2) rfl, rfl⟩)), List.forall_mem_cons.mpr ⟨(Or.inr (Or.inl (aw_m1 190 rfl rfl))), List.forall_mem_cons.mpr ⟨(Or.inr (Or.inl (aw_m1 191 rfl rfl))), List.forall_mem_cons.mpr ⟨(Or.inr (Or.inl (aw_m1 192 rfl rfl))), List.forall_mem_cons.mpr ⟨(Or.inr (Or.inl (aw_m1 193 rfl rfl))), List.forall_mem_cons.mpr ⟨(Or.inr (Or.inr ⟨List.mem_of_getElem? (i := 4) rfl, rfl⟩)), List.forall_mem_cons.mpr ⟨(Or.inr (Or.inl (aw_m1 193 rfl rfl))), List.forall_mem_cons.mpr ⟨(Or.inr (Or.inl (aw_m1 194 rfl rfl))), List.forall_mem_cons.mpr ⟨(Or.inr (Or.inl (aw_m1 195 rfl rfl))), List.forall_mem_cons.mpr ⟨(Or.inr (Or.inl (aw_m1 196 rfl rfl))), List.forall_mem_cons.mpr ⟨(Or.inr (Or.inr ⟨List.mem_of_getElem? (i := 6) rfl, rfl⟩)), fun _ h9 => absurd h9 List.not_mem_nil⟩⟩⟩⟩⟩⟩⟩⟩⟩⟩⟩⟩⟩⟩⟩
theorem tp_e0 (own : String) (ic : Nat) (hm : Cond.methodLink own ic (Bundle.initS "java/lang/IllegalStateException") ∈ aw_T) : ∀ w ∈ Bundle.ownAtoms own ic "java/lang/IllegalStateException" ["java/lang/RuntimeException", "java/lang/Exception"], tp_P w := List.forall_mem_append.mpr ⟨List.forall_mem_append.mpr ⟨List.forall_mem_append.mpr ⟨tp_0, tp_1⟩, tp_c0⟩, List.forall_mem_cons.mpr ⟨(Or.inr (Or.inl hm)), List.forall_mem_cons.mpr ⟨(Or.inr (Or.inl (aw_m1 144 rfl rfl))), List.forall_mem_cons.mpr ⟨(Or.inr (Or.inr ⟨List.mem_of_getElem? (i := 0) rfl, rfl⟩)), List.forall_mem_cons.mpr ⟨(Or.inr (Or.inl (aw_m1 152 rfl rfl))), List.forall_mem_cons.mpr ⟨(Or.inr (Or.inl (aw_m1 153 rfl rfl))), List.forall_mem_cons.mpr ⟨(Or.inr (Or.inl (aw_m1 154 rfl rfl))), List.forall_mem_cons.mpr ⟨(Or.inr (Or.inl (aw_m1 156 rfl rfl))), List.forall_mem_cons.mpr ⟨(Or.inr (Or.inl (aw_m1 158 rfl rfl))), List.forall_mem_cons.mpr ⟨(Or.inr (Or.inl (aw_m1 160 rfl rfl))), List.forall_mem_cons.mpr ⟨(Or.inl (by decide +kernel)), List.forall_mem_cons.mpr ⟨(Or.inl (by decide +kernel)), List.forall_mem_cons.mpr ⟨(Or.inr (Or.inl (aw_m1 164 rfl rfl))), List.forall_mem_cons.mpr ⟨(Or.inr (Or.inl (aw_m1 163 rfl rfl))), List.forall_mem_cons.mpr ⟨(Or.inr (Or.inl (aw_m1 162 rfl rfl))), fun _ h9 => absurd h9 List.not_mem_nil⟩⟩⟩⟩⟩⟩⟩⟩⟩⟩⟩⟩⟩⟩⟩
theorem tp_c1 : ∀ w ∈ Bundle.chainSAtoms "java/lang/IndexOutOfBoundsException" ["java/lang/RuntimeException", "java/lang/Exception"], tp_P w := List.forall_mem_cons.mpr ⟨(Or.inr (Or.inl (aw_m2 4 rfl rfl))), List.forall_mem_cons.mpr ⟨(Or.inr (Or.inl (aw_m2 5 rfl rfl))), List.forall_mem_cons.mpr ⟨(Or.inr (Or.inl (aw_m2 6 rfl rfl))), List.forall_mem_cons.mpr ⟨(Or.inr (Or.inl (aw_m1 190 rfl rfl))), List.forall_mem_cons.mpr ⟨(Or.inr (Or.inr ⟨List.mem_of_getElem? (i := 2) rfl, rfl⟩)), List.forall_mem_cons.mpr ⟨(Or.inr (Or.inl (aw_m1 190 rfl rfl))), List.forall_mem_cons.mpr ⟨(Or.inr (Or.inl (aw_m1 191 rfl rfl))), List.forall_mem_cons.mpr ⟨(Or.inr (Or.inl (aw_m1 192 rfl rfl))), List.forall_mem_cons.mpr ⟨(Or.inr (Or.inl (aw_m1 193 rfl rfl))), List.forall_mem_cons.mpr ⟨(Or.inr (Or.inr ⟨List.mem_of_getElem? (i := 4) rfl, rfl⟩)), List.forall_mem_cons.mpr ⟨(Or.inr (Or.inl (aw_m1 193 rfl rfl))), List.forall_mem_cons.mpr ⟨(Or.inr (Or.inl (aw_m1 194 rfl rfl))), List.forall_mem_cons.mpr ⟨(Or.inr (Or.inl (aw_m1 195 rfl rfl))), List.forall_mem_cons.mpr ⟨(Or.inr (Or.inl (aw_m1 196 rfl rfl))), List.forall_mem_cons.mpr ⟨(Or.inr (Or.inr ⟨List.mem_of_getElem? (i := 6) rfl, rfl⟩)), fun _ h9 => absurd h9 List.not_mem_nil⟩⟩⟩⟩⟩⟩⟩⟩⟩⟩⟩⟩⟩⟩⟩
theorem tp_e1 (own : String) (ic : Nat) (hm : Cond.methodLink own ic (Bundle.initS "java/lang/IndexOutOfBoundsException") ∈ aw_T) : ∀ w ∈ Bundle.ownAtoms own ic "java/lang/IndexOutOfBoundsException" ["java/lang/RuntimeException", "java/lang/Exception"], tp_P w := List.forall_mem_append.mpr ⟨List.forall_mem_append.mpr ⟨List.forall_mem_append.mpr ⟨tp_0, tp_1⟩, tp_c1⟩, List.forall_mem_cons.mpr ⟨(Or.inr (Or.inl hm)), List.forall_mem_cons.mpr ⟨(Or.inr (Or.inl (aw_m1 234 rfl rfl))), List.forall_mem_cons.mpr ⟨(Or.inr (Or.inr ⟨List.mem_of_getElem? (i := 7) rfl, rfl⟩)), List.forall_mem_cons.mpr ⟨(Or.inr (Or.inl (aw_m1 236 rfl rfl))), List.forall_mem_cons.mpr ⟨(Or.inr (Or.inl (aw_m1 177 rfl rfl))), List.forall_mem_cons.mpr ⟨(Or.inr (Or.inl (aw_m1 237 rfl rfl))), List.forall_mem_cons.mpr ⟨(Or.inr (Or.inl (aw_m1 238 rfl rfl))), List.forall_mem_cons.mpr ⟨(Or.inr (Or.inl (aw_m1 239 rfl rfl))), List.forall_mem_cons.mpr ⟨(Or.inr (Or.inl (aw_m2 0 rfl rfl))), List.forall_mem_cons.mpr ⟨(Or.inl (by decide +kernel)), List.forall_mem_cons.mpr ⟨(Or.inl (by decide +kernel)), List.forall_mem_cons.mpr ⟨(Or.inr (Or.inl (aw_m1 164 rfl rfl))), List.forall_mem_cons.mpr ⟨(Or.inr (Or.inl (aw_m1 163 rfl rfl))), List.forall_mem_cons.mpr ⟨(Or.inr (Or.inl (aw_m2 1 rfl rfl))), fun _ h9 => absurd h9 List.not_mem_nil⟩⟩⟩⟩⟩⟩⟩⟩⟩⟩⟩⟩⟩⟩⟩
theorem tp_c2 : ∀ w ∈ Bundle.chainSAtoms "java/lang/IllegalArgumentException" ["java/lang/RuntimeException", "java/lang/Exception"], tp_P w := List.forall_mem_cons.mpr ⟨(Or.inr (Or.inl (aw_m2 27 rfl rfl))), List.forall_mem_cons.mpr ⟨(Or.inr (Or.inl (aw_m2 28 rfl rfl))), List.forall_mem_cons.mpr ⟨(Or.inr (Or.inl (aw_m2 29 rfl rfl))), List.forall_mem_cons.mpr ⟨(Or.inr (Or.inl (aw_m1 190 rfl rfl))), List.forall_mem_cons.mpr ⟨(Or.inr (Or.inr ⟨List.mem_of_getElem? (i := 2) rfl, rfl⟩)), List.forall_mem_cons.mpr ⟨(Or.inr (Or.inl (aw_m1 190 rfl rfl))), List.forall_mem_cons.mpr ⟨(Or.inr (Or.inl (aw_m1 191 rfl rfl))), List.forall_mem_cons.mpr ⟨(Or.inr (Or.inl (aw_m1 192 rfl rfl))), List.forall_mem_cons.mpr ⟨(Or.inr (Or.inl (aw_m1 193 rfl rfl))), List.forall_mem_cons.mpr ⟨(Or.inr (Or.inr ⟨List.mem_of_getElem? (i := 4) rfl, rfl⟩)), List.forall_mem_cons.mpr ⟨(Or.inr (Or.inl (aw_m1 193 rfl rfl))), List.forall_mem_cons.mpr ⟨(Or.inr (Or.inl (aw_m1 194 rfl rfl))), List.forall_mem_cons.mpr ⟨(Or.inr (Or.inl (aw_m1 195 rfl rfl))), List.forall_mem_cons.mpr ⟨(Or.inr (Or.inl (aw_m1 196 rfl rfl))), List.forall_mem_cons.mpr ⟨(Or.inr (Or.inr ⟨List.mem_of_getElem? (i := 6) rfl, rfl⟩)), fun _ h9 => absurd h9 List.not_mem_nil⟩⟩⟩⟩⟩⟩⟩⟩⟩⟩⟩⟩⟩⟩⟩
theorem tp_e2 (own : String) (ic : Nat) (hm : Cond.methodLink own ic (Bundle.initS "java/lang/IllegalArgumentException") ∈ aw_T) : ∀ w ∈ Bundle.ownAtoms own ic "java/lang/IllegalArgumentException" ["java/lang/RuntimeException", "java/lang/Exception"], tp_P w := List.forall_mem_append.mpr ⟨List.forall_mem_append.mpr ⟨List.forall_mem_append.mpr ⟨tp_0, tp_1⟩, tp_c2⟩, List.forall_mem_cons.mpr ⟨(Or.inr (Or.inl hm)), List.forall_mem_cons.mpr ⟨(Or.inr (Or.inl (aw_m2 17 rfl rfl))), List.forall_mem_cons.mpr ⟨(Or.inr (Or.inr ⟨List.mem_of_getElem? (i := 9) rfl, rfl⟩)), List.forall_mem_cons.mpr ⟨(Or.inr (Or.inl (aw_m2 19 rfl rfl))), List.forall_mem_cons.mpr ⟨(Or.inr (Or.inl (aw_m1 176 rfl rfl))), List.forall_mem_cons.mpr ⟨(Or.inr (Or.inl (aw_m2 20 rfl rfl))), List.forall_mem_cons.mpr ⟨(Or.inr (Or.inl (aw_m2 21 rfl rfl))), List.forall_mem_cons.mpr ⟨(Or.inr (Or.inl (aw_m2 22 rfl rfl))), List.forall_mem_cons.mpr ⟨(Or.inr (Or.inl (aw_m2 23 rfl rfl))), List.forall_mem_cons.mpr ⟨(Or.inl (by decide +kernel)), List.forall_mem_cons.mpr ⟨(Or.inl (by decide +kernel)), List.forall_mem_cons.mpr ⟨(Or.inr (Or.inl (aw_m1 164 rfl rfl))), List.forall_mem_cons.mpr ⟨(Or.inr (Or.inl (aw_m1 163 rfl rfl))), List.forall_mem_cons.mpr ⟨(Or.inr (Or.inl (aw_m2 24 rfl rfl))), fun _ h9 => absurd h9 List.not_mem_nil⟩⟩⟩⟩⟩⟩⟩⟩⟩⟩⟩⟩⟩⟩⟩
theorem tp_c3 : ∀ w ∈ Bundle.chainSAtoms "java/lang/UnsupportedOperationException" ["java/lang/RuntimeException", "java/lang/Exception"], tp_P w := List.forall_mem_cons.mpr ⟨(Or.inr (Or.inl (aw_m3 58 rfl rfl))), List.forall_mem_cons.mpr ⟨(Or.inr (Or.inl (aw_m3 59 rfl rfl))), List.forall_mem_cons.mpr ⟨(Or.inr (Or.inl (aw_m3 60 rfl rfl))), List.forall_mem_cons.mpr ⟨(Or.inr (Or.inl (aw_m1 190 rfl rfl))), List.forall_mem_cons.mpr ⟨(Or.inr (Or.inr ⟨List.mem_of_getElem? (i := 2) rfl, rfl⟩)), List.forall_mem_cons.mpr ⟨(Or.inr (Or.inl (aw_m1 190 rfl rfl))), List.forall_mem_cons.mpr ⟨(Or.inr (Or.inl (aw_m1 191 rfl rfl))), List.forall_mem_cons.mpr ⟨(Or.inr (Or.inl (aw_m1 192 rfl rfl))), List.forall_mem_cons.mpr ⟨(Or.inr (Or.inl (aw_m1 193 rfl rfl))), List.forall_mem_cons.mpr ⟨(Or.inr (Or.inr ⟨List.mem_of_getElem? (i := 4) rfl, rfl⟩)), List.forall_mem_cons.mpr ⟨(Or.inr (Or.inl (aw_m1 193 rfl rfl))), List.forall_mem_cons.mpr ⟨(Or.inr (Or.inl (aw_m1 194 rfl rfl))), List.forall_mem_cons.mpr ⟨(Or.inr (Or.inl (aw_m1 195 rfl rfl))), List.forall_mem_cons.mpr ⟨(Or.inr (Or.inl (aw_m1 196 rfl rfl))), List.forall_mem_cons.mpr ⟨(Or.inr (Or.inr ⟨List.mem_of_getElem? (i := 6) rfl, rfl⟩)), fun _ h9 => absurd h9 List.not_mem_nil⟩⟩⟩⟩⟩⟩⟩⟩⟩⟩⟩⟩⟩⟩⟩
theorem tp_e3 (own : String) (ic : Nat) (hm : Cond.methodLink own ic (Bundle.initS "java/lang/UnsupportedOperationException") ∈ aw_T) : ∀ w ∈ Bundle.ownAtoms own ic "java/lang/UnsupportedOperationException" ["java/lang/RuntimeException", "java/lang/Exception"], tp_P w := List.forall_mem_append.mpr ⟨List.forall_mem_append.mpr ⟨List.forall_mem_append.mpr ⟨tp_0, tp_1⟩, tp_c3⟩, List.forall_mem_cons.mpr ⟨(Or.inr (Or.inl hm)), List.forall_mem_cons.mpr ⟨(Or.inr (Or.inl (aw_m3 48 rfl rfl))), List.forall_mem_cons.mpr ⟨(Or.inr (Or.inr ⟨List.mem_of_getElem? (i := 11) rfl, rfl⟩)), List.forall_mem_cons.mpr ⟨(Or.inr (Or.inl (aw_m3 50 rfl rfl))), List.forall_mem_cons.mpr ⟨(Or.inr (Or.inl (aw_m1 178 rfl rfl))), List.forall_mem_cons.mpr ⟨(Or.inr (Or.inl (aw_m3 51 rfl rfl))), List.forall_mem_cons.mpr ⟨(Or.inr (Or.inl (aw_m3 52 rfl rfl))), List.forall_mem_cons.mpr ⟨(Or.inr (Or.inl (aw_m3 53 rfl rfl))), List.forall_mem_cons.mpr ⟨(Or.inr (Or.inl (aw_m3 54 rfl rfl))), List.forall_mem_cons.mpr ⟨(Or.inl (by decide +kernel)), List.forall_mem_cons.mpr ⟨(Or.inl (by decide +kernel)), List.forall_mem_cons.mpr ⟨(Or.inr (Or.inl (aw_m1 164 rfl rfl))), List.forall_mem_cons.mpr ⟨(Or.inr (Or.inl (aw_m1 163 rfl rfl))), List.forall_mem_cons.mpr ⟨(Or.inr (Or.inl (aw_m3 55 rfl rfl))), fun _ h9 => absurd h9 List.not_mem_nil⟩⟩⟩⟩⟩⟩⟩⟩⟩⟩⟩⟩⟩⟩⟩
theorem ob_ra_3 : Cond.methodLink "RoleAnalyser" 3 objectInit ∈ aw_T ∧ Cond.instanceMethod objectInit ∈ aw_T ∧ Cond.code objectInit ⟨#[0xb1]⟩ 1 none ∈ aw_T := ⟨(aw_m1 29 rfl rfl), (aw_m1 30 rfl rfl), (aw_m1 31 rfl rfl)⟩
theorem nl_ra_9 : aw_nl "RoleAnalyser" 9 1 5 := ⟨_, rfl, rfl, (aw_m1 32 rfl rfl), (aw_m1 33 rfl rfl), (aw_m1 2 rfl rfl)⟩
theorem ci_ra_11 : aw_ci "RoleAnalyser" 11 mm_po_init := ⟨(aw_m1 34 rfl rfl), (aw_m1 35 rfl rfl), rfl, rfl, rfl, (aw_m1 36 rfl rfl), by decide, by decide⟩
theorem fl_ra_12 : aw_fl "RoleAnalyser" 12 0 0 := ⟨_, "RoleAnalyser", rfl, by decide, (aw_m1 113 rfl rfl), Or.inl rfl⟩
theorem nl_ra_16 : aw_nl "RoleAnalyser" 16 2 5 := ⟨_, rfl, rfl, (aw_m1 88 rfl rfl), (aw_m1 89 rfl rfl), (aw_m1 6 rfl rfl)⟩
theorem ci_ra_18 : aw_ci "RoleAnalyser" 18 mm_se_init := ⟨(aw_m1 90 rfl rfl), (aw_m1 91 rfl rfl), rfl, rfl, rfl, (aw_m1 92 rfl rfl), by decide, by decide⟩
theorem fl_ra_21 : aw_fl "RoleAnalyser" 21 0 1 := ⟨_, "RoleAnalyser", rfl, by decide, (aw_m1 114 rfl rfl), Or.inl rfl⟩
theorem fl_ra_25 : aw_fl "RoleAnalyser" 25 0 2 := ⟨_, "RoleAnalyser", rfl, by decide, (aw_m1 115 rfl rfl), Or.inl rfl⟩
theorem fl_ra_29 : aw_fl "RoleAnalyser" 29 0 3 := ⟨_, "RoleAnalyser", rfl, by decide, (aw_m1 116 rfl rfl), Or.inl rfl⟩
theorem fl_ra_32 : aw_fl "RoleAnalyser" 32 0 4 := ⟨_, "RoleAnalyser", rfl, by decide, (aw_m1 117 rfl rfl), Or.inl rfl⟩
theorem fl_ra_35 : aw_fl "RoleAnalyser" 35 0 5 := ⟨_, "RoleAnalyser", rfl, by decide, (aw_m1 118 rfl rfl), Or.inl rfl⟩
theorem cs_ra_38 : aw_cs "RoleAnalyser" 38 mm_ar_fill := ⟨(aw_m1 110 rfl rfl), (aw_m1 111 rfl rfl), (aw_m1 7 rfl rfl), by decide, by decide⟩
theorem ob_po_3 : Cond.methodLink "RoleAnalyser$Policy" 3 objectInit ∈ aw_T ∧ Cond.instanceMethod objectInit ∈ aw_T ∧ Cond.code objectInit ⟨#[0xb1]⟩ 1 none ∈ aw_T := ⟨(aw_m1 37 rfl rfl), (aw_m1 30 rfl rfl), (aw_m1 31 rfl rfl)⟩
theorem fl_po_9 : aw_fl "RoleAnalyser$Policy" 9 1 1 := ⟨_, "RoleAnalyser$Policy", rfl, by decide, (aw_m1 67 rfl rfl), Or.inl rfl⟩
theorem nl_po_15 : aw_nl "RoleAnalyser$Policy" 15 6 3 := ⟨_, rfl, rfl, (aw_m1 38 rfl rfl), (aw_m1 39 rfl rfl), (aw_m1 5 rfl rfl)⟩
theorem ci_po_17 : aw_ci "RoleAnalyser$Policy" 17 mm_al_init := ⟨(aw_m1 40 rfl rfl), (aw_m1 41 rfl rfl), rfl, rfl, rfl, (aw_m1 42 rfl rfl), by decide, by decide⟩
theorem fl_po_18 : aw_fl "RoleAnalyser$Policy" 18 1 2 := ⟨_, "RoleAnalyser$Policy", rfl, by decide, (aw_m1 70 rfl rfl), Or.inl rfl⟩
theorem fl_po_22 : aw_fl "RoleAnalyser$Policy" 22 1 3 := ⟨_, "RoleAnalyser$Policy", rfl, by decide, (aw_m1 73 rfl rfl), Or.inl rfl⟩
theorem fl_po_25 : aw_fl "RoleAnalyser$Policy" 25 1 4 := ⟨_, "RoleAnalyser$Policy", rfl, by decide, (aw_m1 75 rfl rfl), Or.inl rfl⟩
theorem ci_al_1 : aw_ci "java/util/ArrayList" 1 mm_bl_init := ⟨(aw_m1 43 rfl rfl), (aw_m1 44 rfl rfl), rfl, rfl, rfl, (aw_m1 45 rfl rfl), by decide, by decide⟩
theorem fl_al_9 : aw_fl "java/util/ArrayList" 9 6 1 := ⟨_, "java/util/ArrayList", rfl, by decide, (aw_m1 52 rfl rfl), Or.inl rfl⟩
theorem ci_bl_1 : aw_ci "java/util/AbstractList" 1 mm_bc_init := ⟨(aw_m1 46 rfl rfl), (aw_m1 47 rfl rfl), rfl, rfl, rfl, (aw_m1 48 rfl rfl), by decide, by decide⟩
theorem fl_bl_7 : aw_fl "java/util/AbstractList" 7 6 0 := ⟨_, "java/util/AbstractList", rfl, by decide, (aw_m1 54 rfl rfl), Or.inl rfl⟩
theorem ob_bc_1 : Cond.methodLink "java/util/AbstractCollection" 1 objectInit ∈ aw_T ∧ Cond.instanceMethod objectInit ∈ aw_T ∧ Cond.code objectInit ⟨#[0xb1]⟩ 1 none ∈ aw_T := ⟨(aw_m1 49 rfl rfl), (aw_m1 30 rfl rfl), (aw_m1 31 rfl rfl)⟩
theorem ob_se_3 : Cond.methodLink "RoleAnalyser$Search" 3 objectInit ∈ aw_T ∧ Cond.instanceMethod objectInit ∈ aw_T ∧ Cond.code objectInit ⟨#[0xb1]⟩ 1 none ∈ aw_T := ⟨(aw_m1 93 rfl rfl), (aw_m1 30 rfl rfl), (aw_m1 31 rfl rfl)⟩
theorem fl_se_9 : aw_fl "RoleAnalyser$Search" 9 2 0 := ⟨_, "RoleAnalyser$Search", rfl, by decide, (aw_m1 94 rfl rfl), Or.inl rfl⟩
theorem fl_se_15 : aw_fl "RoleAnalyser$Search" 15 2 1 := ⟨_, "RoleAnalyser$Search", rfl, by decide, (aw_m1 95 rfl rfl), Or.inl rfl⟩
theorem fl_se_19 : aw_fl "RoleAnalyser$Search" 19 2 2 := ⟨_, "RoleAnalyser$Search", rfl, by decide, (aw_m1 96 rfl rfl), Or.inl rfl⟩
theorem cv_lw_7 : aw_cv "RoleAnalyserLaw" 7 mm_ra_role := ⟨(aw_m1 139 rfl rfl), (aw_m1 140 rfl rfl), (aw_m1 141 rfl rfl), by decide, by decide⟩
theorem fl_ra_44 : aw_fl "RoleAnalyser" 44 1 0 := ⟨_, "RoleAnalyser$Policy", rfl, by decide, (aw_m1 65 rfl rfl), Or.inl rfl⟩
theorem th_ra_48_50 : ax_thr "RoleAnalyser" 48 50 52 7 "java/lang/IllegalStateException" "there are 6 roles" ["java/lang/RuntimeException", "java/lang/Exception"] := ⟨by decide +kernel, by decide +kernel, by decide, (aw_m1 143 rfl rfl), (aw_m1 12 rfl rfl), List.mem_of_getElem? (i := 0) rfl, rfl, tp_e0 _ _ (aw_m1 186 rfl rfl)⟩
theorem cv_lw_15 : aw_cv "RoleAnalyserLaw" 15 mm_ra_user := ⟨(aw_m1 215 rfl rfl), (aw_m1 216 rfl rfl), (aw_m1 217 rfl rfl), by decide, by decide⟩
theorem fl_ra_55 : aw_fl "RoleAnalyser" 55 0 6 := ⟨_, "RoleAnalyser", rfl, by decide, (aw_m1 119 rfl rfl), Or.inl rfl⟩
theorem th_ra_48_58 : ax_thr "RoleAnalyser" 48 58 52 7 "java/lang/IllegalStateException" "there are 5 users" ["java/lang/RuntimeException", "java/lang/Exception"] := ⟨by decide +kernel, by decide +kernel, by decide, (aw_m1 143 rfl rfl), (aw_m1 12 rfl rfl), List.mem_of_getElem? (i := 1) rfl, rfl, tp_e0 _ _ (aw_m1 186 rfl rfl)⟩
theorem cv_lw_18 : aw_cv "RoleAnalyserLaw" 18 mm_ra_above := ⟨(aw_m1 225 rfl rfl), (aw_m1 226 rfl rfl), (aw_m1 227 rfl rfl), by decide, by decide⟩
theorem cv_ra_60 : aw_cv "RoleAnalyser" 60 mm_ra_checkRole := ⟨(aw_m1 229 rfl rfl), (aw_m1 231 rfl rfl), (aw_ms 1 rfl rfl), by decide, by decide⟩
theorem cv_ra_64 : aw_cv "RoleAnalyser" 64 mm_po_standsAbove := ⟨(aw_m2 9 rfl rfl), (aw_m2 10 rfl rfl), (aw_m2 11 rfl rfl), by decide, by decide⟩
theorem th_ra_68_70 : ax_thr "RoleAnalyser" 68 70 72 9 "java/lang/IllegalArgumentException" "a role would stand above itself" ["java/lang/RuntimeException", "java/lang/Exception"] := ⟨by decide +kernel, by decide +kernel, by decide, (aw_m2 16 rfl rfl), (aw_m1 14 rfl rfl), List.mem_of_getElem? (i := 3) rfl, rfl, tp_e2 _ _ (aw_m2 26 rfl rfl)⟩
theorem cv_ra_73 : aw_cv "RoleAnalyser" 73 mm_ra_authorizedRoles := ⟨(aw_m2 32 rfl rfl), (aw_m2 34 rfl rfl), (aw_ms 2 rfl rfl), by decide, by decide⟩
theorem cv_ra_77 : aw_cv "RoleAnalyser" 77 mm_po_widened := ⟨(aw_m2 36 rfl rfl), (aw_m2 37 rfl rfl), (aw_m2 38 rfl rfl), by decide, by decide⟩
theorem cv_ra_81 : aw_cv "RoleAnalyser" 81 mm_ra_checkStaticLimits := ⟨(aw_m2 40 rfl rfl), (aw_m2 42 rfl rfl), (aw_ms 3 rfl rfl), by decide, by decide⟩
theorem cv_ra_84 : aw_cv "RoleAnalyser" 84 mm_po_putAbove := ⟨(aw_m2 77 rfl rfl), (aw_m2 78 rfl rfl), (aw_m2 79 rfl rfl), by decide, by decide⟩
theorem th_ra_195_197 : ax_thr "RoleAnalyser" 195 197 199 8 "java/lang/IndexOutOfBoundsException" "no such role" ["java/lang/RuntimeException", "java/lang/Exception"] := ⟨by decide +kernel, by decide +kernel, by decide, (aw_m1 233 rfl rfl), (aw_m1 13 rfl rfl), List.mem_of_getElem? (i := 2) rfl, rfl, tp_e1 _ _ (aw_m2 3 rfl rfl)⟩
theorem cs_po_28 : aw_cn "RoleAnalyser$Policy" 28 "RoleAnalyser" mm_ra_has := ⟨List.mem_of_getElem? (i := 8) rfl, (aw_m2 14 rfl rfl), (aw_m1 1 rfl rfl), by decide, by decide⟩
theorem fl_ra_172 : aw_fl "RoleAnalyser" 172 1 1 := ⟨_, "RoleAnalyser$Policy", rfl, by decide, (aw_m1 69 rfl rfl), Or.inl rfl⟩
theorem fl_ra_103 : aw_fl "RoleAnalyser" 103 1 2 := ⟨_, "RoleAnalyser$Policy", rfl, by decide, (aw_m1 71 rfl rfl), Or.inl rfl⟩
theorem cs_ra_166 : aw_cs "RoleAnalyser" 166 mm_ra_areKept := ⟨(aw_m2 44 rfl rfl), (aw_m2 45 rfl rfl), (aw_m1 1 rfl rfl), by decide, by decide⟩
theorem th_ra_48_211 : ax_thr "RoleAnalyser" 48 211 52 7 "java/lang/IllegalStateException" "a static limit would not be kept" ["java/lang/RuntimeException", "java/lang/Exception"] := ⟨by decide +kernel, by decide +kernel, by decide, (aw_m1 143 rfl rfl), (aw_m1 12 rfl rfl), List.mem_of_getElem? (i := 4) rfl, rfl, tp_e0 _ _ (aw_m1 186 rfl rfl)⟩
theorem cv_ra_106 : aw_cv "RoleAnalyser" 106 mm_al_size := ⟨(aw_m2 47 rfl rfl), (aw_m2 48 rfl rfl), (aw_m2 49 rfl rfl), by decide, by decide⟩
theorem cv_ra_223 : aw_cv "RoleAnalyser" 223 mm_al_get := ⟨(aw_m2 51 rfl rfl), (aw_m2 52 rfl rfl), (aw_m2 53 rfl rfl), by decide, by decide⟩
theorem cv_ra_191 : aw_cv "RoleAnalyser" 191 mm_li_isKept := ⟨(aw_m2 66 rfl rfl), (aw_m2 67 rfl rfl), (aw_m2 68 rfl rfl), by decide, by decide⟩
theorem fl_al_48 : aw_fl "java/util/ArrayList" 48 6 2 := ⟨_, "java/util/ArrayList", rfl, by decide, (aw_m1 53 rfl rfl), Or.inl rfl⟩
theorem cs_al_118 : aw_cs "java/util/ArrayList" 118 mm_ot_checkIndex := ⟨(aw_m2 55 rfl rfl), (aw_m2 56 rfl rfl), (aw_m1 15 rfl rfl), by decide, by decide⟩
theorem cv_al_123 : aw_cv "java/util/ArrayList" 123 mm_al_elementData := ⟨(aw_m2 61 rfl rfl), (aw_m2 62 rfl rfl), (aw_m2 63 rfl rfl), by decide, by decide⟩
theorem cs_ot_105 : aw_cs "java/util/Objects" 105 mm_pc_checkIndex := ⟨(aw_m2 58 rfl rfl), (aw_m2 59 rfl rfl), (aw_m1 16 rfl rfl), by decide, by decide⟩
theorem fl_li_7 : aw_fl "RoleAnalyser$Limit" 7 3 0 := ⟨_, "RoleAnalyser$Limit", rfl, by decide, (aw_m2 112 rfl rfl), Or.inl rfl⟩
theorem cs_li_16 : aw_cs "RoleAnalyser$Limit" 16 mm_ig_bitCount := ⟨(aw_m2 70 rfl rfl), (aw_m2 71 rfl rfl), (aw_m1 17 rfl rfl), by decide, by decide⟩
theorem fl_li_13 : aw_fl "RoleAnalyser$Limit" 13 3 1 := ⟨_, "RoleAnalyser$Limit", rfl, by decide, (aw_m2 113 rfl rfl), Or.inl rfl⟩
theorem cv_po_32 : aw_cv "RoleAnalyser$Policy" 32 mm_po_widened := ⟨(aw_m2 81 rfl rfl), (aw_m2 37 rfl rfl), (aw_m2 38 rfl rfl), by decide, by decide⟩
theorem cv_lw_26 : aw_cv "RoleAnalyserLaw" 26 mm_ra_grant := ⟨(aw_m2 85 rfl rfl), (aw_m2 86 rfl rfl), (aw_m2 87 rfl rfl), by decide, by decide⟩
theorem cs_ra_88 : aw_cs "RoleAnalyser" 88 mm_ra_checkPermission := ⟨(aw_m2 89 rfl rfl), (aw_m2 90 rfl rfl), (aw_m1 1 rfl rfl), by decide, by decide⟩
theorem cs_ra_91 : aw_cs "RoleAnalyser" 91 mm_ra_has := ⟨(aw_m2 93 rfl rfl), (aw_m2 14 rfl rfl), (aw_m1 1 rfl rfl), by decide, by decide⟩
theorem th_ra_195_219 : ax_thr "RoleAnalyser" 195 219 199 8 "java/lang/IndexOutOfBoundsException" "no such permission" ["java/lang/RuntimeException", "java/lang/Exception"] := ⟨by decide +kernel, by decide +kernel, by decide, (aw_m1 233 rfl rfl), (aw_m1 13 rfl rfl), List.mem_of_getElem? (i := 5) rfl, rfl, tp_e1 _ _ (aw_m2 3 rfl rfl)⟩
theorem cv_lw_29 : aw_cv "RoleAnalyserLaw" 29 mm_ra_limit := ⟨(aw_m2 97 rfl rfl), (aw_m2 98 rfl rfl), (aw_m2 99 rfl rfl), by decide, by decide⟩
theorem th_ra_68_94 : ax_thr "RoleAnalyser" 68 94 72 9 "java/lang/IllegalArgumentException" "the number of a limit is below 2" ["java/lang/RuntimeException", "java/lang/Exception"] := ⟨by decide +kernel, by decide +kernel, by decide, (aw_m2 16 rfl rfl), (aw_m1 14 rfl rfl), List.mem_of_getElem? (i := 6) rfl, rfl, tp_e2 _ _ (aw_m2 26 rfl rfl)⟩
theorem cs_ra_96 : aw_cs "RoleAnalyser" 96 mm_ra_checkRoleSet := ⟨(aw_m2 102 rfl rfl), (aw_m2 103 rfl rfl), (aw_m1 1 rfl rfl), by decide, by decide⟩
theorem fl_ra_99 : aw_fl "RoleAnalyser" 99 1 3 := ⟨_, "RoleAnalyser$Policy", rfl, by decide, (aw_m1 74 rfl rfl), Or.inl rfl⟩
theorem th_ra_48_112 : ax_thr "RoleAnalyser" 48 112 52 7 "java/lang/IllegalStateException" "there are 4 limits of the kind" ["java/lang/RuntimeException", "java/lang/Exception"] := ⟨by decide +kernel, by decide +kernel, by decide, (aw_m1 143 rfl rfl), (aw_m1 12 rfl rfl), List.mem_of_getElem? (i := 8) rfl, rfl, tp_e0 _ _ (aw_m1 186 rfl rfl)⟩
theorem nl_ra_114 : aw_nl "RoleAnalyser" 114 3 2 := ⟨_, rfl, rfl, (aw_m2 65 rfl rfl), (aw_m2 107 rfl rfl), (aw_m1 18 rfl rfl)⟩
theorem ci_ra_116 : aw_ci "RoleAnalyser" 116 mm_li_init := ⟨(aw_m2 108 rfl rfl), (aw_m2 109 rfl rfl), rfl, rfl, rfl, (aw_m2 110 rfl rfl), by decide, by decide⟩
theorem cv_ra_118 : aw_cv "RoleAnalyser" 118 mm_ra_isKeptBySessions := ⟨(aw_m2 119 rfl rfl), (aw_m2 121 rfl rfl), (aw_ms 4 rfl rfl), by decide, by decide⟩
theorem cv_ra_122 : aw_cv "RoleAnalyser" 122 mm_ra_isKeptByUsers := ⟨(aw_m2 123 rfl rfl), (aw_m2 125 rfl rfl), (aw_ms 5 rfl rfl), by decide, by decide⟩
theorem th_ra_48_125 : ax_thr "RoleAnalyser" 48 125 52 7 "java/lang/IllegalStateException" "the limit is not kept" ["java/lang/RuntimeException", "java/lang/Exception"] := ⟨by decide +kernel, by decide +kernel, by decide, (aw_m1 143 rfl rfl), (aw_m1 12 rfl rfl), List.mem_of_getElem? (i := 9) rfl, rfl, tp_e0 _ _ (aw_m1 186 rfl rfl)⟩
theorem cv_ra_127 : aw_cv "RoleAnalyser" 127 mm_al_add1 := ⟨(aw_m2 128 rfl rfl), (aw_m2 129 rfl rfl), (aw_m2 130 rfl rfl), by decide, by decide⟩
theorem th_ra_68_221 : ax_thr "RoleAnalyser" 68 221 72 9 "java/lang/IllegalArgumentException" "a set of roles is not 0 .. 63" ["java/lang/RuntimeException", "java/lang/Exception"] := ⟨by decide +kernel, by decide +kernel, by decide, (aw_m2 16 rfl rfl), (aw_m1 14 rfl rfl), List.mem_of_getElem? (i := 7) rfl, rfl, tp_e2 _ _ (aw_m2 26 rfl rfl)⟩
theorem ob_li_1 : Cond.methodLink "RoleAnalyser$Limit" 1 objectInit ∈ aw_T ∧ Cond.instanceMethod objectInit ∈ aw_T ∧ Cond.code objectInit ⟨#[0xb1]⟩ 1 none ∈ aw_T := ⟨(aw_m2 111 rfl rfl), (aw_m1 30 rfl rfl), (aw_m1 31 rfl rfl)⟩
theorem fl_al_63 : aw_fl "java/util/ArrayList" 63 6 0 := ⟨_, "java/util/ArrayList", rfl, by decide, (aw_m1 55 rfl rfl), Or.inr (aw_m1 56 rfl rfl)⟩
theorem cv_al_131 : aw_cv "java/util/ArrayList" 131 mm_al_add2 := ⟨(aw_m2 132 rfl rfl), (aw_m2 134 rfl rfl), (aw_ms 6 rfl rfl), by decide, by decide⟩
theorem cv_al_129 : aw_cv "java/util/ArrayList" 129 mm_al_grow1 := ⟨(aw_m2 136 rfl rfl), (aw_m2 138 rfl rfl), (aw_ms 7 rfl rfl), by decide, by decide⟩
theorem cv_al_69 : aw_cv "java/util/ArrayList" 69 mm_al_grow2 := ⟨(aw_m2 140 rfl rfl), (aw_m2 142 rfl rfl), (aw_ms 8 rfl rfl), by decide, by decide⟩
theorem cs_al_73 : aw_cs "java/util/ArrayList" 73 mm_su_newLength := ⟨(aw_m2 144 rfl rfl), (aw_m2 145 rfl rfl), (aw_m1 19 rfl rfl), by decide, by decide⟩
theorem cs_al_66 : aw_cs "java/util/ArrayList" 66 mm_ar_copyOf1 := ⟨(aw_m2 154 rfl rfl), (aw_m2 155 rfl rfl), (aw_m1 7 rfl rfl), by decide, by decide⟩
theorem cs_al_79 : aw_cs "java/util/ArrayList" 79 mm_ma_max := ⟨(aw_m2 184 rfl rfl), (aw_m2 148 rfl rfl), (aw_m1 20 rfl rfl), by decide, by decide⟩
theorem cs_su_194 : aw_cs "jdk/internal/util/ArraysSupport" 194 mm_ma_max := ⟨(aw_m2 147 rfl rfl), (aw_m2 148 rfl rfl), (aw_m1 20 rfl rfl), by decide, by decide⟩
theorem cs_su_201 : aw_cs "jdk/internal/util/ArraysSupport" 201 mm_su_hugeLength := ⟨(aw_m2 151 rfl rfl), (aw_m2 152 rfl rfl), (aw_m1 19 rfl rfl), by decide, by decide⟩
theorem cs_ar_300 : aw_cs "java/util/Arrays" 300 mm_ar_copyOf2 := ⟨(aw_m2 172 rfl rfl), (aw_m2 173 rfl rfl), (aw_m1 7 rfl rfl), by decide, by decide⟩
theorem cs_ar_304 : aw_cs "java/util/Arrays" 304 mm_ma_min := ⟨(aw_m2 178 rfl rfl), (aw_m2 179 rfl rfl), (aw_m1 20 rfl rfl), by decide, by decide⟩
theorem cv_lw_33 : aw_cv "RoleAnalyserLaw" 33 mm_ra_giveRule := ⟨(aw_m2 189 rfl rfl), (aw_m2 190 rfl rfl), (aw_m2 191 rfl rfl), by decide, by decide⟩
theorem cv_ra_131 : aw_cv "RoleAnalyser" 131 mm_ra_checkRoomForRule := ⟨(aw_m2 193 rfl rfl), (aw_m2 195 rfl rfl), (aw_ms 9 rfl rfl), by decide, by decide⟩
theorem nl_ra_134 : aw_nl "RoleAnalyser" 134 4 5 := ⟨_, rfl, rfl, (aw_m2 198 rfl rfl), (aw_m2 199 rfl rfl), (aw_m1 22 rfl rfl)⟩
theorem ci_ra_136 : aw_ci "RoleAnalyser" 136 mm_ru_init := ⟨(aw_m2 200 rfl rfl), (aw_m2 201 rfl rfl), rfl, rfl, rfl, (aw_m2 202 rfl rfl), by decide, by decide⟩
theorem cv_ra_139 : aw_cv "RoleAnalyser" 139 mm_po_addRule := ⟨(aw_m2 220 rfl rfl), (aw_m2 221 rfl rfl), (aw_m2 222 rfl rfl), by decide, by decide⟩
theorem fl_ra_206 : aw_fl "RoleAnalyser" 206 1 4 := ⟨_, "RoleAnalyser$Policy", rfl, by decide, (aw_m1 76 rfl rfl), Or.inl rfl⟩
theorem th_ra_48_209 : ax_thr "RoleAnalyser" 48 209 52 7 "java/lang/IllegalStateException" "there are 8 rules" ["java/lang/RuntimeException", "java/lang/Exception"] := ⟨by decide +kernel, by decide +kernel, by decide, (aw_m1 143 rfl rfl), (aw_m1 12 rfl rfl), List.mem_of_getElem? (i := 10) rfl, rfl, tp_e0 _ _ (aw_m1 186 rfl rfl)⟩
theorem ob_ru_1 : Cond.methodLink "RoleAnalyser$Rule" 1 objectInit ∈ aw_T ∧ Cond.instanceMethod objectInit ∈ aw_T ∧ Cond.code objectInit ⟨#[0xb1]⟩ 1 none ∈ aw_T := ⟨(aw_m2 203 rfl rfl), (aw_m1 30 rfl rfl), (aw_m1 31 rfl rfl)⟩
theorem fl_ru_7 : aw_fl "RoleAnalyser$Rule" 7 4 0 := ⟨_, "RoleAnalyser$Rule", rfl, by decide, (aw_m2 204 rfl rfl), Or.inl rfl⟩
theorem fl_ru_13 : aw_fl "RoleAnalyser$Rule" 13 4 1 := ⟨_, "RoleAnalyser$Rule", rfl, by decide, (aw_m2 205 rfl rfl), Or.inl rfl⟩
theorem fl_ru_17 : aw_fl "RoleAnalyser$Rule" 17 4 2 := ⟨_, "RoleAnalyser$Rule", rfl, by decide, (aw_m2 206 rfl rfl), Or.inl rfl⟩
theorem fl_ru_20 : aw_fl "RoleAnalyser$Rule" 20 4 3 := ⟨_, "RoleAnalyser$Rule", rfl, by decide, (aw_m2 207 rfl rfl), Or.inl rfl⟩
theorem fl_ru_23 : aw_fl "RoleAnalyser$Rule" 23 4 4 := ⟨_, "RoleAnalyser$Rule", rfl, by decide, (aw_m2 208 rfl rfl), Or.inl rfl⟩
theorem cv_po_36 : aw_cv "RoleAnalyser$Policy" 36 mm_al_add1 := ⟨(aw_m2 224 rfl rfl), (aw_m2 129 rfl rfl), (aw_m2 130 rfl rfl), by decide, by decide⟩
theorem cv_po_40 : aw_cv "RoleAnalyser$Policy" 40 mm_al_size := ⟨(aw_m2 225 rfl rfl), (aw_m2 48 rfl rfl), (aw_m2 49 rfl rfl), by decide, by decide⟩
theorem cv_lw_37 : aw_cv "RoleAnalyserLaw" 37 mm_ra_takeRule := ⟨(aw_m2 229 rfl rfl), (aw_m2 230 rfl rfl), (aw_m2 231 rfl rfl), by decide, by decide⟩
theorem cv_lw_41 : aw_cv "RoleAnalyserLaw" 41 mm_ra_assign := ⟨(aw_m2 236 rfl rfl), (aw_m2 237 rfl rfl), (aw_m2 238 rfl rfl), by decide, by decide⟩
theorem cv_ra_143 : aw_cv "RoleAnalyser" 143 mm_ra_checkUser := ⟨(aw_m3 0 rfl rfl), (aw_m3 2 rfl rfl), (aw_ms 10 rfl rfl), by decide, by decide⟩
theorem cv_ra_146 : aw_cv "RoleAnalyser" 146 mm_ra_addAssignment := ⟨(aw_m3 5 rfl rfl), (aw_m3 7 rfl rfl), (aw_ms 11 rfl rfl), by decide, by decide⟩
theorem th_ra_195_200 : ax_thr "RoleAnalyser" 195 200 199 8 "java/lang/IndexOutOfBoundsException" "no such user" ["java/lang/RuntimeException", "java/lang/Exception"] := ⟨by decide +kernel, by decide +kernel, by decide, (aw_m1 233 rfl rfl), (aw_m1 13 rfl rfl), List.mem_of_getElem? (i := 11) rfl, rfl, tp_e1 _ _ (aw_m2 3 rfl rfl)⟩
theorem cv_lw_44 : aw_cv "RoleAnalyserLaw" 44 mm_ra_remove := ⟨(aw_m3 12 rfl rfl), (aw_m3 13 rfl rfl), (aw_m3 14 rfl rfl), by decide, by decide⟩
theorem cv_ra_149 : aw_cv "RoleAnalyser" 149 mm_ra_dropAssignment := ⟨(aw_m3 16 rfl rfl), (aw_m3 18 rfl rfl), (aw_ms 12 rfl rfl), by decide, by decide⟩
theorem cv_lw_47 : aw_cv "RoleAnalyserLaw" 47 mm_ra_give := ⟨(aw_m3 24 rfl rfl), (aw_m3 25 rfl rfl), (aw_m3 26 rfl rfl), by decide, by decide⟩
theorem cv_ra_152 : aw_cv "RoleAnalyser" 152 mm_ra_checkLeave := ⟨(aw_m3 28 rfl rfl), (aw_m3 30 rfl rfl), (aw_ms 13 rfl rfl), by decide, by decide⟩
theorem cv_ra_213 : aw_cv "RoleAnalyser" 213 mm_po_isAllowed := ⟨(aw_m3 32 rfl rfl), (aw_m3 33 rfl rfl), (aw_m3 34 rfl rfl), by decide, by decide⟩
theorem th_ra_161_217 : ax_thr "RoleAnalyser" 161 217 165 10 "java/lang/UnsupportedOperationException" "no rule allows it" ["java/lang/RuntimeException", "java/lang/Exception"] := ⟨by decide +kernel, by decide +kernel, by decide, (aw_m3 47 rfl rfl), (aw_m1 23 rfl rfl), List.mem_of_getElem? (i := 12) rfl, rfl, tp_e3 _ _ (aw_m3 57 rfl rfl)⟩
theorem cv_po_44 : aw_cv "RoleAnalyser$Policy" 44 mm_al_get := ⟨(aw_m3 36 rfl rfl), (aw_m2 52 rfl rfl), (aw_m2 53 rfl rfl), by decide, by decide⟩
theorem cv_po_50 : aw_cv "RoleAnalyser$Policy" 50 mm_ru_isFor := ⟨(aw_m3 38 rfl rfl), (aw_m3 39 rfl rfl), (aw_m3 40 rfl rfl), by decide, by decide⟩
theorem cv_po_54 : aw_cv "RoleAnalyser$Policy" 54 mm_ru_allows := ⟨(aw_m3 42 rfl rfl), (aw_m3 43 rfl rfl), (aw_m3 44 rfl rfl), by decide, by decide⟩
theorem cs_ru_26 : aw_cn "RoleAnalyser$Rule" 26 "RoleAnalyser" mm_ra_has := ⟨List.mem_of_getElem? (i := 10) rfl, (aw_m2 14 rfl rfl), (aw_m1 1 rfl rfl), by decide, by decide⟩
theorem cv_lw_53 : aw_cv "RoleAnalyserLaw" 53 mm_ra_take := ⟨(aw_m3 66 rfl rfl), (aw_m3 67 rfl rfl), (aw_m3 68 rfl rfl), by decide, by decide⟩
theorem cv_lw_56 : aw_cv "RoleAnalyserLaw" 56 mm_ra_roles := ⟨(aw_m3 73 rfl rfl), (aw_m3 74 rfl rfl), (aw_m3 75 rfl rfl), by decide, by decide⟩
theorem cv_lw_60 : aw_cv "RoleAnalyserLaw" 60 mm_ra_open := ⟨(aw_m3 80 rfl rfl), (aw_m3 81 rfl rfl), (aw_m3 82 rfl rfl), by decide, by decide⟩
theorem th_ra_48_156 : ax_thr "RoleAnalyser" 48 156 52 7 "java/lang/IllegalStateException" "4 sessions are open" ["java/lang/RuntimeException", "java/lang/Exception"] := ⟨by decide +kernel, by decide +kernel, by decide, (aw_m1 143 rfl rfl), (aw_m1 12 rfl rfl), List.mem_of_getElem? (i := 13) rfl, rfl, tp_e0 _ _ (aw_m1 186 rfl rfl)⟩
theorem cv_lw_64 : aw_cv "RoleAnalyserLaw" 64 mm_ra_close := ⟨(aw_m3 88 rfl rfl), (aw_m3 89 rfl rfl), (aw_m3 90 rfl rfl), by decide, by decide⟩
theorem cv_ra_158 : aw_cv "RoleAnalyser" 158 mm_ra_checkSession := ⟨(aw_m3 92 rfl rfl), (aw_m3 94 rfl rfl), (aw_ms 14 rfl rfl), by decide, by decide⟩
theorem th_ra_195_202 : ax_thr "RoleAnalyser" 195 202 199 8 "java/lang/IndexOutOfBoundsException" "no such session is open" ["java/lang/RuntimeException", "java/lang/Exception"] := ⟨by decide +kernel, by decide +kernel, by decide, (aw_m1 233 rfl rfl), (aw_m1 13 rfl rfl), List.mem_of_getElem? (i := 14) rfl, rfl, tp_e1 _ _ (aw_m2 3 rfl rfl)⟩
theorem cv_lw_68 : aw_cv "RoleAnalyserLaw" 68 mm_ra_activate := ⟨(aw_m3 100 rfl rfl), (aw_m3 101 rfl rfl), (aw_m3 102 rfl rfl), by decide, by decide⟩
theorem th_ra_161_163 : ax_thr "RoleAnalyser" 161 163 165 10 "java/lang/UnsupportedOperationException" "the user is not authorized for the role" ["java/lang/RuntimeException", "java/lang/Exception"] := ⟨by decide +kernel, by decide +kernel, by decide, (aw_m3 47 rfl rfl), (aw_m1 23 rfl rfl), List.mem_of_getElem? (i := 15) rfl, rfl, tp_e3 _ _ (aw_m3 57 rfl rfl)⟩
theorem th_ra_48_170 : ax_thr "RoleAnalyser" 48 170 52 7 "java/lang/IllegalStateException" "a dynamic limit would not be kept" ["java/lang/RuntimeException", "java/lang/Exception"] := ⟨by decide +kernel, by decide +kernel, by decide, (aw_m1 143 rfl rfl), (aw_m1 12 rfl rfl), List.mem_of_getElem? (i := 16) rfl, rfl, tp_e0 _ _ (aw_m1 186 rfl rfl)⟩
theorem cv_lw_71 : aw_cv "RoleAnalyserLaw" 71 mm_ra_rest := ⟨(aw_m3 109 rfl rfl), (aw_m3 110 rfl rfl), (aw_m3 111 rfl rfl), by decide, by decide⟩
theorem cv_lw_74 : aw_cv "RoleAnalyserLaw" 74 mm_ra_active := ⟨(aw_m3 116 rfl rfl), (aw_m3 117 rfl rfl), (aw_m3 118 rfl rfl), by decide, by decide⟩
theorem cv_lw_77 : aw_cv "RoleAnalyserLaw" 77 mm_ra_may := ⟨(aw_m3 123 rfl rfl), (aw_m3 124 rfl rfl), (aw_m3 125 rfl rfl), by decide, by decide⟩
theorem cv_lw_80 : aw_cv "RoleAnalyserLaw" 80 mm_ra_distance := ⟨(aw_m3 130 rfl rfl), (aw_m3 131 rfl rfl), (aw_m3 132 rfl rfl), by decide, by decide⟩
theorem cv_ra_175 : aw_cv "RoleAnalyser" 175 mm_ra_checkQuestion := ⟨(aw_m3 134 rfl rfl), (aw_m3 136 rfl rfl), (aw_ms 15 rfl rfl), by decide, by decide⟩
theorem cv_ra_178 : aw_cv "RoleAnalyser" 178 mm_se_nearestGoal := ⟨(aw_m3 139 rfl rfl), (aw_m3 140 rfl rfl), (aw_m3 141 rfl rfl), by decide, by decide⟩
theorem cv_ra_182 : aw_cv "RoleAnalyser" 182 mm_se_stepsTo := ⟨(aw_m3 179 rfl rfl), (aw_m3 180 rfl rfl), (aw_m3 181 rfl rfl), by decide, by decide⟩
theorem th_ra_161_204 : ax_thr "RoleAnalyser" 161 204 165 10 "java/lang/UnsupportedOperationException" "there are more than 12 pairs" ["java/lang/RuntimeException", "java/lang/Exception"] := ⟨by decide +kernel, by decide +kernel, by decide, (aw_m3 47 rfl rfl), (aw_m1 23 rfl rfl), List.mem_of_getElem? (i := 17) rfl, rfl, tp_e3 _ _ (aw_m3 57 rfl rfl)⟩
theorem fl_se_22 : aw_fl "RoleAnalyser$Search" 22 2 4 := ⟨_, "RoleAnalyser$Search", rfl, by decide, (aw_m1 98 rfl rfl), Or.inl rfl⟩
theorem cv_se_26 : aw_cv "RoleAnalyser$Search" 26 mm_se_begin := ⟨(aw_m3 143 rfl rfl), (aw_m3 145 rfl rfl), (aw_ms 16 rfl rfl), by decide, by decide⟩
theorem fl_se_30 : aw_fl "RoleAnalyser$Search" 30 2 3 := ⟨_, "RoleAnalyser$Search", rfl, by decide, (aw_m1 97 rfl rfl), Or.inl rfl⟩
theorem cv_se_33 : aw_cv "RoleAnalyser$Search" 33 mm_se_authorizedIn := ⟨(aw_m3 156 rfl rfl), (aw_m3 158 rfl rfl), (aw_ms 19 rfl rfl), by decide, by decide⟩
theorem cs_se_37 : aw_cn "RoleAnalyser$Search" 37 "RoleAnalyser" mm_ra_has := ⟨List.mem_of_getElem? (i := 12) rfl, (aw_m2 14 rfl rfl), (aw_m1 1 rfl rfl), by decide, by decide⟩
theorem cv_se_41 : aw_cv "RoleAnalyser$Search" 41 mm_se_takeSteps := ⟨(aw_m3 165 rfl rfl), (aw_m3 167 rfl rfl), (aw_ms 21 rfl rfl), by decide, by decide⟩
theorem cv_se_52 : aw_cv "RoleAnalyser$Search" 52 mm_se_pairBit := ⟨(aw_m3 147 rfl rfl), (aw_m3 149 rfl rfl), (aw_ms 17 rfl rfl), by decide, by decide⟩
theorem cs_se_55 : aw_cs "RoleAnalyser$Search" 55 mm_ar_fill := ⟨(aw_m3 151 rfl rfl), (aw_m1 111 rfl rfl), (aw_m1 7 rfl rfl), by decide, by decide⟩
theorem cv_se_61 : aw_cv "RoleAnalyser$Search" 61 mm_se_reach := ⟨(aw_m3 152 rfl rfl), (aw_m3 154 rfl rfl), (aw_ms 18 rfl rfl), by decide, by decide⟩
theorem fl_se_71 : aw_fl "RoleAnalyser$Search" 71 1 0 := ⟨_, "RoleAnalyser$Policy", rfl, by decide, (aw_m1 66 rfl rfl), Or.inl rfl⟩
theorem fl_se_80 : aw_fl "RoleAnalyser$Search" 80 1 1 := ⟨_, "RoleAnalyser$Policy", rfl, by decide, (aw_m1 68 rfl rfl), Or.inl rfl⟩
theorem cv_se_68 : aw_cv "RoleAnalyser$Search" 68 mm_se_assignedIn := ⟨(aw_m3 160 rfl rfl), (aw_m3 162 rfl rfl), (aw_ms 20 rfl rfl), by decide, by decide⟩
theorem cv_se_65 : aw_cv "RoleAnalyser$Search" 65 mm_se_authorizedOfAll := ⟨(aw_m3 169 rfl rfl), (aw_m3 171 rfl rfl), (aw_ms 22 rfl rfl), by decide, by decide⟩
theorem cv_se_76 : aw_cv "RoleAnalyser$Search" 76 mm_se_isStep := ⟨(aw_m3 173 rfl rfl), (aw_m3 175 rfl rfl), (aw_ms 23 rfl rfl), by decide, by decide⟩
theorem cv_se_83 : aw_cv "RoleAnalyser$Search" 83 mm_po_isAllowed := ⟨(aw_m3 177 rfl rfl), (aw_m3 33 rfl rfl), (aw_m3 34 rfl rfl), by decide, by decide⟩
theorem fl_se_87 : aw_fl "RoleAnalyser$Search" 87 1 2 := ⟨_, "RoleAnalyser$Policy", rfl, by decide, (aw_m1 72 rfl rfl), Or.inl rfl⟩
theorem cs_se_91 : aw_cn "RoleAnalyser$Search" 91 "RoleAnalyser" mm_ra_areKept := ⟨List.mem_of_getElem? (i := 13) rfl, (aw_m2 45 rfl rfl), (aw_m1 1 rfl rfl), by decide, by decide⟩
theorem cv_se_45 : aw_cv "RoleAnalyser$Search" 45 mm_se_stateBefore := ⟨(aw_m3 183 rfl rfl), (aw_m3 185 rfl rfl), (aw_ms 24 rfl rfl), by decide, by decide⟩
theorem cv_lw_83 : aw_cv "RoleAnalyserLaw" 83 mm_ra_plan := ⟨(aw_m3 190 rfl rfl), (aw_m3 191 rfl rfl), (aw_m3 192 rfl rfl), by decide, by decide⟩
theorem th_ra_48_185 : ax_thr "RoleAnalyser" 48 185 52 7 "java/lang/IllegalStateException" "no steps lead there" ["java/lang/RuntimeException", "java/lang/Exception"] := ⟨by decide +kernel, by decide +kernel, by decide, (aw_m1 143 rfl rfl), (aw_m1 12 rfl rfl), List.mem_of_getElem? (i := 18) rfl, rfl, tp_e0 _ _ (aw_m1 186 rfl rfl)⟩
theorem cv_ra_187 : aw_cv "RoleAnalyser" 187 mm_se_stepCode := ⟨(aw_m3 195 rfl rfl), (aw_m3 196 rfl rfl), (aw_m3 197 rfl rfl), by decide, by decide⟩
theorem cv_se_49 : aw_cv "RoleAnalyser$Search" 49 mm_se_stepsTo := ⟨(aw_m3 199 rfl rfl), (aw_m3 180 rfl rfl), (aw_m3 181 rfl rfl), by decide, by decide⟩
theorem ob_mo_1 : Cond.methodLink "RoleAnalyserModel" 1 objectInit ∈ aw_T ∧ Cond.instanceMethod objectInit ∈ aw_T ∧ Cond.code objectInit ⟨#[0xb1]⟩ 1 none ∈ aw_T := ⟨(aw_m3 205 rfl rfl), (aw_m1 30 rfl rfl), (aw_m1 31 rfl rfl)⟩
theorem fl_mo_7 : aw_fl "RoleAnalyserModel" 7 5 3 := ⟨_, "RoleAnalyserModel", rfl, by decide, (aw_m3 209 rfl rfl), Or.inl rfl⟩
theorem fl_mo_13 : aw_fl "RoleAnalyserModel" 13 5 4 := ⟨_, "RoleAnalyserModel", rfl, by decide, (aw_m3 210 rfl rfl), Or.inl rfl⟩
theorem fl_mo_16 : aw_fl "RoleAnalyserModel" 16 5 5 := ⟨_, "RoleAnalyserModel", rfl, by decide, (aw_m3 211 rfl rfl), Or.inl rfl⟩
theorem fl_mo_19 : aw_fl "RoleAnalyserModel" 19 5 6 := ⟨_, "RoleAnalyserModel", rfl, by decide, (aw_m3 212 rfl rfl), Or.inl rfl⟩
theorem fl_mo_22 : aw_fl "RoleAnalyserModel" 22 5 7 := ⟨_, "RoleAnalyserModel", rfl, by decide, (aw_m3 213 rfl rfl), Or.inl rfl⟩
theorem fl_mo_25 : aw_fl "RoleAnalyserModel" 25 5 8 := ⟨_, "RoleAnalyserModel", rfl, by decide, (aw_m3 214 rfl rfl), Or.inl rfl⟩
theorem fl_mo_28 : aw_fl "RoleAnalyserModel" 28 5 9 := ⟨_, "RoleAnalyserModel", rfl, by decide, (aw_m3 215 rfl rfl), Or.inl rfl⟩
theorem fl_mo_31 : aw_fl "RoleAnalyserModel" 31 5 10 := ⟨_, "RoleAnalyserModel", rfl, by decide, (aw_m3 216 rfl rfl), Or.inl rfl⟩
theorem fl_mo_35 : aw_fl "RoleAnalyserModel" 35 5 11 := ⟨_, "RoleAnalyserModel", rfl, by decide, (aw_m3 217 rfl rfl), Or.inl rfl⟩
theorem fl_mo_38 : aw_fl "RoleAnalyserModel" 38 5 12 := ⟨_, "RoleAnalyserModel", rfl, by decide, (aw_m3 218 rfl rfl), Or.inl rfl⟩
theorem fl_mo_41 : aw_fl "RoleAnalyserModel" 41 5 14 := ⟨_, "RoleAnalyserModel", rfl, by decide, (aw_m3 220 rfl rfl), Or.inl rfl⟩
theorem fl_mo_44 : aw_fl "RoleAnalyserModel" 44 5 15 := ⟨_, "RoleAnalyserModel", rfl, by decide, (aw_m3 221 rfl rfl), Or.inl rfl⟩
theorem fl_mo_47 : aw_fl "RoleAnalyserModel" 47 5 16 := ⟨_, "RoleAnalyserModel", rfl, by decide, (aw_m3 222 rfl rfl), Or.inl rfl⟩
theorem fl_mo_50 : aw_fl "RoleAnalyserModel" 50 5 17 := ⟨_, "RoleAnalyserModel", rfl, by decide, (aw_m3 223 rfl rfl), Or.inl rfl⟩
theorem fl_mo_53 : aw_fl "RoleAnalyserModel" 53 5 18 := ⟨_, "RoleAnalyserModel", rfl, by decide, (aw_m3 224 rfl rfl), Or.inl rfl⟩
theorem fl_mo_56 : aw_fl "RoleAnalyserModel" 56 5 19 := ⟨_, "RoleAnalyserModel", rfl, by decide, (aw_m3 225 rfl rfl), Or.inl rfl⟩
theorem fl_mo_59 : aw_fl "RoleAnalyserModel" 59 5 20 := ⟨_, "RoleAnalyserModel", rfl, by decide, (aw_m3 226 rfl rfl), Or.inl rfl⟩
theorem fl_mo_62 : aw_fl "RoleAnalyserModel" 62 5 21 := ⟨_, "RoleAnalyserModel", rfl, by decide, (aw_m3 227 rfl rfl), Or.inl rfl⟩
theorem fl_mo_65 : aw_fl "RoleAnalyserModel" 65 5 0 := ⟨_, "RoleAnalyserModel", rfl, by decide, (aw_m3 206 rfl rfl), Or.inl rfl⟩
theorem fl_mo_69 : aw_fl "RoleAnalyserModel" 69 5 1 := ⟨_, "RoleAnalyserModel", rfl, by decide, (aw_m3 207 rfl rfl), Or.inl rfl⟩
theorem cv_mo_86 : aw_cv "RoleAnalyserModel" 86 mm_mo_when := ⟨(aw_m4 48 rfl rfl), (aw_m4 50 rfl rfl), (aw_ms 25 rfl rfl), by decide, by decide⟩
theorem fl_mo_72 : aw_fl "RoleAnalyserModel" 72 5 2 := ⟨_, "RoleAnalyserModel", rfl, by decide, (aw_m3 208 rfl rfl), Or.inl rfl⟩
theorem cv_mo_90 : aw_cv "RoleAnalyserModel" 90 mm_mo_isRole := ⟨(aw_m4 60 rfl rfl), (aw_m4 62 rfl rfl), (aw_ms 26 rfl rfl), by decide, by decide⟩
theorem cv_mo_93 : aw_cv "RoleAnalyserModel" 93 mm_mo_allStaticKept := ⟨(aw_m4 64 rfl rfl), (aw_m4 66 rfl rfl), (aw_ms 27 rfl rfl), by decide, by decide⟩
theorem cv_mo_82 : aw_cv "RoleAnalyserModel" 82 mm_mo_staticKept := ⟨(aw_m4 68 rfl rfl), (aw_m4 70 rfl rfl), (aw_ms 28 rfl rfl), by decide, by decide⟩
theorem cv_mo_75 : aw_cv "RoleAnalyserModel" 75 mm_mo_closed := ⟨(aw_m4 72 rfl rfl), (aw_m4 74 rfl rfl), (aw_ms 29 rfl rfl), by decide, by decide⟩
theorem cs_mo_79 : aw_cs "RoleAnalyserModel" 79 mm_mo_count := ⟨(aw_m4 76 rfl rfl), (aw_m4 77 rfl rfl), (aw_m1 8 rfl rfl), by decide, by decide⟩
theorem cv_mo_97 : aw_cv "RoleAnalyserModel" 97 mm_mo_dynamicKept := ⟨(aw_m4 87 rfl rfl), (aw_m4 89 rfl rfl), (aw_ms 30 rfl rfl), by decide, by decide⟩
theorem cs_mo_103 : aw_cs "RoleAnalyserModel" 103 mm_mo_isSet := ⟨(aw_m4 95 rfl rfl), (aw_m4 96 rfl rfl), (aw_m1 8 rfl rfl), by decide, by decide⟩
theorem fl_mo_100 : aw_fl "RoleAnalyserModel" 100 5 13 := ⟨_, "RoleAnalyserModel", rfl, by decide, (aw_m3 219 rfl rfl), Or.inl rfl⟩
theorem cv_mo_106 : aw_cv "RoleAnalyserModel" 106 mm_mo_addRule := ⟨(aw_m4 98 rfl rfl), (aw_m4 100 rfl rfl), (aw_ms 31 rfl rfl), by decide, by decide⟩
theorem cv_mo_113 : aw_cv "RoleAnalyserModel" 113 mm_mo_isUser := ⟨(aw_m4 110 rfl rfl), (aw_m4 112 rfl rfl), (aw_ms 32 rfl rfl), by decide, by decide⟩
theorem cv_mo_116 : aw_cv "RoleAnalyserModel" 116 mm_mo_put := ⟨(aw_m4 114 rfl rfl), (aw_m4 116 rfl rfl), (aw_ms 33 rfl rfl), by decide, by decide⟩
theorem cv_mo_120 : aw_cv "RoleAnalyserModel" 120 mm_mo_drop := ⟨(aw_m4 122 rfl rfl), (aw_m4 124 rfl rfl), (aw_ms 34 rfl rfl), by decide, by decide⟩
theorem cv_mo_110 : aw_cv "RoleAnalyserModel" 110 mm_mo_cutSessions := ⟨(aw_m4 126 rfl rfl), (aw_m4 128 rfl rfl), (aw_ms 35 rfl rfl), by decide, by decide⟩
theorem cv_mo_124 : aw_cv "RoleAnalyserModel" 124 mm_mo_lets := ⟨(aw_m4 134 rfl rfl), (aw_m4 136 rfl rfl), (aw_ms 36 rfl rfl), by decide, by decide⟩
theorem cv_mo_128 : aw_cv "RoleAnalyserModel" 128 mm_mo_isSession := ⟨(aw_m4 154 rfl rfl), (aw_m4 156 rfl rfl), (aw_ms 37 rfl rfl), by decide, by decide⟩
theorem cv_mo_148 : aw_cv "RoleAnalyserModel" 148 mm_mo_search := ⟨(aw_m4 178 rfl rfl), (aw_m4 180 rfl rfl), (aw_ms 38 rfl rfl), by decide, by decide⟩
theorem fl_mo_138 : aw_fl "RoleAnalyserModel" 138 5 23 := ⟨_, "RoleAnalyserModel", rfl, by decide, (aw_m3 229 rfl rfl), Or.inl rfl⟩
theorem fl_mo_135 : aw_fl "RoleAnalyserModel" 135 5 22 := ⟨_, "RoleAnalyserModel", rfl, by decide, (aw_m3 228 rfl rfl), Or.inl rfl⟩
theorem cv_mo_141 : aw_cv "RoleAnalyserModel" 141 mm_mo_has := ⟨(aw_m4 182 rfl rfl), (aw_m4 184 rfl rfl), (aw_ms 39 rfl rfl), by decide, by decide⟩
theorem cv_mo_144 : aw_cv "RoleAnalyserModel" 144 mm_mo_stepTo := ⟨(aw_m4 190 rfl rfl), (aw_m4 192 rfl rfl), (aw_ms 41 rfl rfl), by decide, by decide⟩
theorem cv_mo_131 : aw_cv "RoleAnalyserModel" 131 mm_mo_rolesIn := ⟨(aw_m4 186 rfl rfl), (aw_m4 188 rfl rfl), (aw_ms 40 rfl rfl), by decide, by decide⟩
theorem cv_mo_152 : aw_cv "RoleAnalyserModel" 152 mm_mo_mark := ⟨(aw_m4 198 rfl rfl), (aw_m4 200 rfl rfl), (aw_ms 42 rfl rfl), by decide, by decide⟩
theorem nl_lw_8 : aw_nl "RoleAnalyserLaw" 8 0 7 := ⟨_, rfl, rfl, (aw_m1 24 rfl rfl), (aw_m1 25 rfl rfl), (aw_m1 1 rfl rfl)⟩
theorem ci_lw_87 : aw_ci "RoleAnalyserLaw" 87 mm_ra_init := ⟨(aw_m1 26 rfl rfl), (aw_m1 27 rfl rfl), rfl, rfl, rfl, (aw_m1 28 rfl rfl), by decide, by decide⟩
theorem nl_lw_88 : aw_nl "RoleAnalyserLaw" 88 5 24 := ⟨_, rfl, rfl, (aw_m3 200 rfl rfl), (aw_m3 201 rfl rfl), (aw_m1 8 rfl rfl)⟩
theorem ci_lw_90 : aw_ci "RoleAnalyserLaw" 90 mm_mo_init := ⟨(aw_m3 202 rfl rfl), (aw_m3 203 rfl rfl), rfl, rfl, rfl, (aw_m3 204 rfl rfl), by decide, by decide⟩
theorem cs_lw_91 : aw_cs "RoleAnalyserLaw" 91 mm_lw_role := ⟨(aw_m1 135 rfl rfl), (aw_m1 136 rfl rfl), (aw_m1 0 rfl rfl), by decide, by decide⟩
theorem cv_lw_96 : aw_cv "RoleAnalyserLaw" 96 mm_mo_role := ⟨(aw_m4 44 rfl rfl), (aw_m4 45 rfl rfl), (aw_m4 46 rfl rfl), by decide, by decide⟩
theorem cv_lw_97 : aw_cv "RoleAnalyserLaw" 97 mm_mo_thrown := ⟨(aw_m4 40 rfl rfl), (aw_m4 41 rfl rfl), (aw_m4 42 rfl rfl), by decide, by decide⟩
theorem cs_lw_100 : aw_cs "RoleAnalyserLaw" 100 mm_lw_user := ⟨(aw_m1 212 rfl rfl), (aw_m1 213 rfl rfl), (aw_m1 0 rfl rfl), by decide, by decide⟩
theorem cv_lw_102 : aw_cv "RoleAnalyserLaw" 102 mm_mo_user := ⟨(aw_m4 52 rfl rfl), (aw_m4 53 rfl rfl), (aw_m4 54 rfl rfl), by decide, by decide⟩
theorem cs_lw_103 : aw_cs "RoleAnalyserLaw" 103 mm_lw_above := ⟨(aw_m1 220 rfl rfl), (aw_m1 221 rfl rfl), (aw_m1 0 rfl rfl), by decide, by decide⟩
theorem cv_lw_106 : aw_cv "RoleAnalyserLaw" 106 mm_mo_above := ⟨(aw_m4 56 rfl rfl), (aw_m4 57 rfl rfl), (aw_m4 58 rfl rfl), by decide, by decide⟩
theorem cs_lw_107 : aw_cs "RoleAnalyserLaw" 107 mm_lw_grant := ⟨(aw_m2 82 rfl rfl), (aw_m2 83 rfl rfl), (aw_m1 0 rfl rfl), by decide, by decide⟩
theorem cv_lw_109 : aw_cv "RoleAnalyserLaw" 109 mm_mo_grant := ⟨(aw_m4 79 rfl rfl), (aw_m4 80 rfl rfl), (aw_m4 81 rfl rfl), by decide, by decide⟩
theorem cs_lw_110 : aw_cs "RoleAnalyserLaw" 110 mm_lw_limit := ⟨(aw_m2 94 rfl rfl), (aw_m2 95 rfl rfl), (aw_m1 0 rfl rfl), by decide, by decide⟩
theorem cv_lw_113 : aw_cv "RoleAnalyserLaw" 113 mm_mo_limit := ⟨(aw_m4 83 rfl rfl), (aw_m4 84 rfl rfl), (aw_m4 85 rfl rfl), by decide, by decide⟩
theorem cs_lw_114 : aw_cs "RoleAnalyserLaw" 114 mm_lw_giveRule := ⟨(aw_m2 186 rfl rfl), (aw_m2 187 rfl rfl), (aw_m1 0 rfl rfl), by decide, by decide⟩
theorem cv_lw_117 : aw_cv "RoleAnalyserLaw" 117 mm_mo_giveRule := ⟨(aw_m4 91 rfl rfl), (aw_m4 92 rfl rfl), (aw_m4 93 rfl rfl), by decide, by decide⟩
theorem cs_lw_118 : aw_cs "RoleAnalyserLaw" 118 mm_lw_takeRule := ⟨(aw_m2 226 rfl rfl), (aw_m2 227 rfl rfl), (aw_m1 0 rfl rfl), by decide, by decide⟩
theorem cv_lw_120 : aw_cv "RoleAnalyserLaw" 120 mm_mo_takeRule := ⟨(aw_m4 102 rfl rfl), (aw_m4 103 rfl rfl), (aw_m4 104 rfl rfl), by decide, by decide⟩
theorem cs_lw_121 : aw_cs "RoleAnalyserLaw" 121 mm_lw_assign := ⟨(aw_m2 233 rfl rfl), (aw_m2 234 rfl rfl), (aw_m1 0 rfl rfl), by decide, by decide⟩
theorem cv_lw_123 : aw_cv "RoleAnalyserLaw" 123 mm_mo_assign := ⟨(aw_m4 106 rfl rfl), (aw_m4 107 rfl rfl), (aw_m4 108 rfl rfl), by decide, by decide⟩
theorem cs_lw_124 : aw_cs "RoleAnalyserLaw" 124 mm_lw_remove := ⟨(aw_m3 9 rfl rfl), (aw_m3 10 rfl rfl), (aw_m1 0 rfl rfl), by decide, by decide⟩
theorem cv_lw_126 : aw_cv "RoleAnalyserLaw" 126 mm_mo_remove := ⟨(aw_m4 118 rfl rfl), (aw_m4 119 rfl rfl), (aw_m4 120 rfl rfl), by decide, by decide⟩
theorem cs_lw_127 : aw_cs "RoleAnalyserLaw" 127 mm_lw_give := ⟨(aw_m3 20 rfl rfl), (aw_m3 21 rfl rfl), (aw_m1 0 rfl rfl), by decide, by decide⟩
theorem cv_lw_130 : aw_cv "RoleAnalyserLaw" 130 mm_mo_give := ⟨(aw_m4 130 rfl rfl), (aw_m4 131 rfl rfl), (aw_m4 132 rfl rfl), by decide, by decide⟩
theorem cs_lw_131 : aw_cs "RoleAnalyserLaw" 131 mm_lw_take := ⟨(aw_m3 63 rfl rfl), (aw_m3 64 rfl rfl), (aw_m1 0 rfl rfl), by decide, by decide⟩
theorem cv_lw_133 : aw_cv "RoleAnalyserLaw" 133 mm_mo_take := ⟨(aw_m4 138 rfl rfl), (aw_m4 139 rfl rfl), (aw_m4 140 rfl rfl), by decide, by decide⟩
theorem cs_lw_134 : aw_cs "RoleAnalyserLaw" 134 mm_lw_roles := ⟨(aw_m3 70 rfl rfl), (aw_m3 71 rfl rfl), (aw_m1 0 rfl rfl), by decide, by decide⟩
theorem cv_lw_137 : aw_cv "RoleAnalyserLaw" 137 mm_mo_roles := ⟨(aw_m4 142 rfl rfl), (aw_m4 143 rfl rfl), (aw_m4 144 rfl rfl), by decide, by decide⟩
theorem cs_lw_138 : aw_cs "RoleAnalyserLaw" 138 mm_lw_open := ⟨(aw_m3 77 rfl rfl), (aw_m3 78 rfl rfl), (aw_m1 0 rfl rfl), by decide, by decide⟩
theorem cv_lw_141 : aw_cv "RoleAnalyserLaw" 141 mm_mo_open := ⟨(aw_m4 146 rfl rfl), (aw_m4 147 rfl rfl), (aw_m4 148 rfl rfl), by decide, by decide⟩
theorem cs_lw_142 : aw_cs "RoleAnalyserLaw" 142 mm_lw_close := ⟨(aw_m3 85 rfl rfl), (aw_m3 86 rfl rfl), (aw_m1 0 rfl rfl), by decide, by decide⟩
theorem cv_lw_145 : aw_cv "RoleAnalyserLaw" 145 mm_mo_close := ⟨(aw_m4 150 rfl rfl), (aw_m4 151 rfl rfl), (aw_m4 152 rfl rfl), by decide, by decide⟩
theorem cs_lw_146 : aw_cs "RoleAnalyserLaw" 146 mm_lw_activate := ⟨(aw_m3 97 rfl rfl), (aw_m3 98 rfl rfl), (aw_m1 0 rfl rfl), by decide, by decide⟩
theorem cv_lw_148 : aw_cv "RoleAnalyserLaw" 148 mm_mo_activate := ⟨(aw_m4 158 rfl rfl), (aw_m4 159 rfl rfl), (aw_m4 160 rfl rfl), by decide, by decide⟩
theorem cs_lw_149 : aw_cs "RoleAnalyserLaw" 149 mm_lw_rest := ⟨(aw_m3 106 rfl rfl), (aw_m3 107 rfl rfl), (aw_m1 0 rfl rfl), by decide, by decide⟩
theorem cv_lw_151 : aw_cv "RoleAnalyserLaw" 151 mm_mo_rest := ⟨(aw_m4 162 rfl rfl), (aw_m4 163 rfl rfl), (aw_m4 164 rfl rfl), by decide, by decide⟩
theorem cs_lw_152 : aw_cs "RoleAnalyserLaw" 152 mm_lw_active := ⟨(aw_m3 113 rfl rfl), (aw_m3 114 rfl rfl), (aw_m1 0 rfl rfl), by decide, by decide⟩
theorem cv_lw_154 : aw_cv "RoleAnalyserLaw" 154 mm_mo_active := ⟨(aw_m4 166 rfl rfl), (aw_m4 167 rfl rfl), (aw_m4 168 rfl rfl), by decide, by decide⟩
theorem cs_lw_155 : aw_cs "RoleAnalyserLaw" 155 mm_lw_may := ⟨(aw_m3 120 rfl rfl), (aw_m3 121 rfl rfl), (aw_m1 0 rfl rfl), by decide, by decide⟩
theorem cv_lw_157 : aw_cv "RoleAnalyserLaw" 157 mm_mo_may := ⟨(aw_m4 170 rfl rfl), (aw_m4 171 rfl rfl), (aw_m4 172 rfl rfl), by decide, by decide⟩
theorem cs_lw_158 : aw_cs "RoleAnalyserLaw" 158 mm_lw_distance := ⟨(aw_m3 127 rfl rfl), (aw_m3 128 rfl rfl), (aw_m1 0 rfl rfl), by decide, by decide⟩
theorem cv_lw_160 : aw_cv "RoleAnalyserLaw" 160 mm_mo_distance := ⟨(aw_m4 174 rfl rfl), (aw_m4 175 rfl rfl), (aw_m4 176 rfl rfl), by decide, by decide⟩
theorem cs_lw_161 : aw_cs "RoleAnalyserLaw" 161 mm_lw_plan := ⟨(aw_m3 187 rfl rfl), (aw_m3 188 rfl rfl), (aw_m1 0 rfl rfl), by decide, by decide⟩
theorem cv_lw_163 : aw_cv "RoleAnalyserLaw" 163 mm_mo_plan := ⟨(aw_m4 194 rfl rfl), (aw_m4 195 rfl rfl), (aw_m4 196 rfl rfl), by decide, by decide⟩
theorem ac_int : Cond.arrayClass .int ∈ aw_T := aw_m1 64 rfl rfl
theorem ac_bool : Cond.arrayClass .boolean ∈ aw_T := aw_m4 39 rfl rfl
theorem ac_long : Cond.arrayClass .long ∈ aw_T := aw_m4 202 rfl rfl
theorem np_ra_init : aw_np mm_ra_init 0 := by unfold aw_np; decide +kernel
theorem np_po_init : aw_np mm_po_init 0 := by unfold aw_np; decide +kernel
theorem np_al_init : aw_np mm_al_init 0 := by unfold aw_np; decide +kernel
theorem np_bl_init : aw_np mm_bl_init 0 := by unfold aw_np; decide +kernel
theorem np_bc_init : aw_np mm_bc_init 0 := by unfold aw_np; decide +kernel
theorem np_se_init : aw_np mm_se_init 1 := by unfold aw_np; decide +kernel
theorem np_ar_fill : aw_np mm_ar_fill 2 := by unfold aw_np; decide +kernel
theorem np_lw_role : aw_np mm_lw_role 2 := by unfold aw_np; decide +kernel
theorem np_ra_role : aw_np mm_ra_role 0 := by unfold aw_np; decide +kernel
theorem np_lw_user : aw_np mm_lw_user 2 := by unfold aw_np; decide +kernel
theorem np_ra_user : aw_np mm_ra_user 0 := by unfold aw_np; decide +kernel
theorem np_lw_above : aw_np mm_lw_above 4 := by unfold aw_np; decide +kernel
theorem np_ra_above : aw_np mm_ra_above 2 := by unfold aw_np; decide +kernel
theorem np_ra_checkRole : aw_np mm_ra_checkRole 1 := by unfold aw_np; decide +kernel
theorem np_po_standsAbove : aw_np mm_po_standsAbove 2 := by unfold aw_np; decide +kernel
theorem np_ra_has : aw_np mm_ra_has 2 := by unfold aw_np; decide +kernel
theorem np_ra_authorizedRoles : aw_np mm_ra_authorizedRoles 1 := by unfold aw_np; decide +kernel
theorem np_po_widened : aw_np mm_po_widened 3 := by unfold aw_np; decide +kernel
theorem np_ra_checkStaticLimits : aw_np mm_ra_checkStaticLimits 1 := by unfold aw_np; decide +kernel
theorem np_ra_areKept : aw_np mm_ra_areKept 2 := by unfold aw_np; decide +kernel
theorem np_al_size : aw_np mm_al_size 0 := by unfold aw_np; decide +kernel
theorem np_al_get : aw_np mm_al_get 1 := by unfold aw_np; decide +kernel
theorem np_ot_checkIndex : aw_np mm_ot_checkIndex 2 := by unfold aw_np; decide +kernel
theorem np_pc_checkIndex : aw_np mm_pc_checkIndex 3 := by unfold aw_np; decide +kernel
theorem np_al_elementData : aw_np mm_al_elementData 1 := by unfold aw_np; decide +kernel
theorem np_li_isKept : aw_np mm_li_isKept 1 := by unfold aw_np; decide +kernel
theorem np_ig_bitCount : aw_np mm_ig_bitCount 1 := by unfold aw_np; decide +kernel
theorem np_po_putAbove : aw_np mm_po_putAbove 2 := by unfold aw_np; decide +kernel
theorem np_lw_grant : aw_np mm_lw_grant 4 := by unfold aw_np; decide +kernel
theorem np_ra_grant : aw_np mm_ra_grant 2 := by unfold aw_np; decide +kernel
theorem np_ra_checkPermission : aw_np mm_ra_checkPermission 1 := by unfold aw_np; decide +kernel
theorem np_lw_limit : aw_np mm_lw_limit 4 := by unfold aw_np; decide +kernel
theorem np_ra_limit : aw_np mm_ra_limit 3 := by unfold aw_np; decide +kernel
theorem np_ra_checkRoleSet : aw_np mm_ra_checkRoleSet 1 := by unfold aw_np; decide +kernel
theorem np_li_init : aw_np mm_li_init 2 := by unfold aw_np; decide +kernel
theorem np_ra_isKeptBySessions : aw_np mm_ra_isKeptBySessions 1 := by unfold aw_np; decide +kernel
theorem np_ra_isKeptByUsers : aw_np mm_ra_isKeptByUsers 1 := by unfold aw_np; decide +kernel
theorem np_al_add1 : aw_np mm_al_add1 1 := by unfold aw_np; decide +kernel
theorem np_al_add2 : aw_np mm_al_add2 3 := by unfold aw_np; decide +kernel
theorem np_al_grow1 : aw_np mm_al_grow1 0 := by unfold aw_np; decide +kernel
theorem np_al_grow2 : aw_np mm_al_grow2 1 := by unfold aw_np; decide +kernel
theorem np_su_newLength : aw_np mm_su_newLength 3 := by unfold aw_np; decide +kernel
theorem np_ma_max : aw_np mm_ma_max 2 := by unfold aw_np; decide +kernel
theorem np_su_hugeLength : aw_np mm_su_hugeLength 2 := by unfold aw_np; decide +kernel
theorem np_ar_copyOf1 : aw_np mm_ar_copyOf1 2 := by unfold aw_np; decide +kernel
theorem np_ar_copyOf2 : aw_np mm_ar_copyOf2 3 := by unfold aw_np; decide +kernel
theorem np_ma_min : aw_np mm_ma_min 2 := by unfold aw_np; decide +kernel
theorem np_lw_giveRule : aw_np mm_lw_giveRule 6 := by unfold aw_np; decide +kernel
theorem np_ra_giveRule : aw_np mm_ra_giveRule 4 := by unfold aw_np; decide +kernel
theorem np_ra_checkRoomForRule : aw_np mm_ra_checkRoomForRule 0 := by unfold aw_np; decide +kernel
theorem np_ru_init : aw_np mm_ru_init 5 := by unfold aw_np; decide +kernel
theorem np_po_addRule : aw_np mm_po_addRule 1 := by unfold aw_np; decide +kernel
theorem np_lw_takeRule : aw_np mm_lw_takeRule 4 := by unfold aw_np; decide +kernel
theorem np_ra_takeRule : aw_np mm_ra_takeRule 2 := by unfold aw_np; decide +kernel
theorem np_lw_assign : aw_np mm_lw_assign 4 := by unfold aw_np; decide +kernel
theorem np_ra_assign : aw_np mm_ra_assign 2 := by unfold aw_np; decide +kernel
theorem np_ra_checkUser : aw_np mm_ra_checkUser 1 := by unfold aw_np; decide +kernel
theorem np_ra_addAssignment : aw_np mm_ra_addAssignment 2 := by unfold aw_np; decide +kernel
theorem np_lw_remove : aw_np mm_lw_remove 4 := by unfold aw_np; decide +kernel
theorem np_ra_remove : aw_np mm_ra_remove 2 := by unfold aw_np; decide +kernel
theorem np_ra_dropAssignment : aw_np mm_ra_dropAssignment 2 := by unfold aw_np; decide +kernel
theorem np_lw_give : aw_np mm_lw_give 5 := by unfold aw_np; decide +kernel
theorem np_ra_give : aw_np mm_ra_give 3 := by unfold aw_np; decide +kernel
theorem np_ra_checkLeave : aw_np mm_ra_checkLeave 4 := by unfold aw_np; decide +kernel
theorem np_po_isAllowed : aw_np mm_po_isAllowed 4 := by unfold aw_np; decide +kernel
theorem np_ru_isFor : aw_np mm_ru_isFor 2 := by unfold aw_np; decide +kernel
theorem np_ru_allows : aw_np mm_ru_allows 2 := by unfold aw_np; decide +kernel
theorem np_lw_take : aw_np mm_lw_take 5 := by unfold aw_np; decide +kernel
theorem np_ra_take : aw_np mm_ra_take 3 := by unfold aw_np; decide +kernel
theorem np_lw_roles : aw_np mm_lw_roles 4 := by unfold aw_np; decide +kernel
theorem np_ra_roles : aw_np mm_ra_roles 2 := by unfold aw_np; decide +kernel
theorem np_lw_open : aw_np mm_lw_open 3 := by unfold aw_np; decide +kernel
theorem np_ra_open : aw_np mm_ra_open 1 := by unfold aw_np; decide +kernel
theorem np_lw_close : aw_np mm_lw_close 2 := by unfold aw_np; decide +kernel
theorem np_ra_close : aw_np mm_ra_close 1 := by unfold aw_np; decide +kernel
theorem np_ra_checkSession : aw_np mm_ra_checkSession 1 := by unfold aw_np; decide +kernel
theorem np_lw_activate : aw_np mm_lw_activate 4 := by unfold aw_np; decide +kernel
theorem np_ra_activate : aw_np mm_ra_activate 2 := by unfold aw_np; decide +kernel
theorem np_lw_rest : aw_np mm_lw_rest 4 := by unfold aw_np; decide +kernel
theorem np_ra_rest : aw_np mm_ra_rest 2 := by unfold aw_np; decide +kernel
theorem np_lw_active : aw_np mm_lw_active 3 := by unfold aw_np; decide +kernel
theorem np_ra_active : aw_np mm_ra_active 1 := by unfold aw_np; decide +kernel
theorem np_lw_may : aw_np mm_lw_may 4 := by unfold aw_np; decide +kernel
theorem np_ra_may : aw_np mm_ra_may 2 := by unfold aw_np; decide +kernel
theorem np_lw_distance : aw_np mm_lw_distance 4 := by unfold aw_np; decide +kernel
theorem np_ra_distance : aw_np mm_ra_distance 2 := by unfold aw_np; decide +kernel
theorem np_ra_checkQuestion : aw_np mm_ra_checkQuestion 2 := by unfold aw_np; decide +kernel
theorem np_se_nearestGoal : aw_np mm_se_nearestGoal 4 := by unfold aw_np; decide +kernel
theorem np_se_begin : aw_np mm_se_begin 1 := by unfold aw_np; decide +kernel
theorem np_se_pairBit : aw_np mm_se_pairBit 2 := by unfold aw_np; decide +kernel
theorem np_se_reach : aw_np mm_se_reach 2 := by unfold aw_np; decide +kernel
theorem np_se_authorizedIn : aw_np mm_se_authorizedIn 2 := by unfold aw_np; decide +kernel
theorem np_se_assignedIn : aw_np mm_se_assignedIn 2 := by unfold aw_np; decide +kernel
theorem np_se_takeSteps : aw_np mm_se_takeSteps 1 := by unfold aw_np; decide +kernel
theorem np_se_authorizedOfAll : aw_np mm_se_authorizedOfAll 1 := by unfold aw_np; decide +kernel
theorem np_se_isStep : aw_np mm_se_isStep 3 := by unfold aw_np; decide +kernel
theorem np_se_stepsTo : aw_np mm_se_stepsTo 1 := by unfold aw_np; decide +kernel
theorem np_se_stateBefore : aw_np mm_se_stateBefore 1 := by unfold aw_np; decide +kernel
theorem np_lw_plan : aw_np mm_lw_plan 5 := by unfold aw_np; decide +kernel
theorem np_ra_plan : aw_np mm_ra_plan 3 := by unfold aw_np; decide +kernel
theorem np_se_stepCode : aw_np mm_se_stepCode 2 := by unfold aw_np; decide +kernel
theorem np_mo_init : aw_np mm_mo_init 0 := by unfold aw_np; decide +kernel
theorem np_mo_thrown : aw_np mm_mo_thrown 0 := by unfold aw_np; decide +kernel
theorem np_mo_role : aw_np mm_mo_role 0 := by unfold aw_np; decide +kernel
theorem np_mo_when : aw_np mm_mo_when 2 := by unfold aw_np; decide +kernel
theorem np_mo_user : aw_np mm_mo_user 0 := by unfold aw_np; decide +kernel
theorem np_mo_above : aw_np mm_mo_above 2 := by unfold aw_np; decide +kernel
theorem np_mo_isRole : aw_np mm_mo_isRole 1 := by unfold aw_np; decide +kernel
theorem np_mo_allStaticKept : aw_np mm_mo_allStaticKept 0 := by unfold aw_np; decide +kernel
theorem np_mo_staticKept : aw_np mm_mo_staticKept 1 := by unfold aw_np; decide +kernel
theorem np_mo_closed : aw_np mm_mo_closed 1 := by unfold aw_np; decide +kernel
theorem np_mo_count : aw_np mm_mo_count 1 := by unfold aw_np; decide +kernel
theorem np_mo_grant : aw_np mm_mo_grant 2 := by unfold aw_np; decide +kernel
theorem np_mo_limit : aw_np mm_mo_limit 3 := by unfold aw_np; decide +kernel
theorem np_mo_dynamicKept : aw_np mm_mo_dynamicKept 1 := by unfold aw_np; decide +kernel
theorem np_mo_giveRule : aw_np mm_mo_giveRule 4 := by unfold aw_np; decide +kernel
theorem np_mo_isSet : aw_np mm_mo_isSet 1 := by unfold aw_np; decide +kernel
theorem np_mo_addRule : aw_np mm_mo_addRule 5 := by unfold aw_np; decide +kernel
theorem np_mo_takeRule : aw_np mm_mo_takeRule 2 := by unfold aw_np; decide +kernel
theorem np_mo_assign : aw_np mm_mo_assign 2 := by unfold aw_np; decide +kernel
theorem np_mo_isUser : aw_np mm_mo_isUser 1 := by unfold aw_np; decide +kernel
theorem np_mo_put : aw_np mm_mo_put 3 := by unfold aw_np; decide +kernel
theorem np_mo_remove : aw_np mm_mo_remove 2 := by unfold aw_np; decide +kernel
theorem np_mo_drop : aw_np mm_mo_drop 2 := by unfold aw_np; decide +kernel
theorem np_mo_cutSessions : aw_np mm_mo_cutSessions 0 := by unfold aw_np; decide +kernel
theorem np_mo_give : aw_np mm_mo_give 3 := by unfold aw_np; decide +kernel
theorem np_mo_lets : aw_np mm_mo_lets 4 := by unfold aw_np; decide +kernel
theorem np_mo_take : aw_np mm_mo_take 3 := by unfold aw_np; decide +kernel
theorem np_mo_roles : aw_np mm_mo_roles 2 := by unfold aw_np; decide +kernel
theorem np_mo_open : aw_np mm_mo_open 1 := by unfold aw_np; decide +kernel
theorem np_mo_close : aw_np mm_mo_close 1 := by unfold aw_np; decide +kernel
theorem np_mo_isSession : aw_np mm_mo_isSession 1 := by unfold aw_np; decide +kernel
theorem np_mo_activate : aw_np mm_mo_activate 2 := by unfold aw_np; decide +kernel
theorem np_mo_rest : aw_np mm_mo_rest 2 := by unfold aw_np; decide +kernel
theorem np_mo_active : aw_np mm_mo_active 1 := by unfold aw_np; decide +kernel
theorem np_mo_may : aw_np mm_mo_may 2 := by unfold aw_np; decide +kernel
theorem np_mo_distance : aw_np mm_mo_distance 2 := by unfold aw_np; decide +kernel
theorem np_mo_search : aw_np mm_mo_search 2 := by unfold aw_np; decide +kernel
theorem np_mo_has : aw_np mm_mo_has 3 := by unfold aw_np; decide +kernel
theorem np_mo_rolesIn : aw_np mm_mo_rolesIn 2 := by unfold aw_np; decide +kernel
theorem np_mo_stepTo : aw_np mm_mo_stepTo 4 := by unfold aw_np; decide +kernel
theorem np_mo_plan : aw_np mm_mo_plan 3 := by unfold aw_np; decide +kernel
theorem np_mo_mark : aw_np mm_mo_mark 2 := by unfold aw_np; decide +kernel
theorem ff_ra_0 : aw_ff "RoleAnalyser" 0 0 := fun r h => by cases h; exact ⟨rfl, rfl⟩
theorem ff_ra_1 : aw_ff "RoleAnalyser" 0 1 := fun r h => by cases h; exact ⟨rfl, rfl⟩
theorem ff_ra_2 : aw_ff "RoleAnalyser" 0 2 := fun r h => by cases h; exact ⟨rfl, rfl⟩
theorem ff_ra_3 : aw_ff "RoleAnalyser" 0 3 := fun r h => by cases h; exact ⟨rfl, rfl⟩
theorem ff_ra_4 : aw_ff "RoleAnalyser" 0 4 := fun r h => by cases h; exact ⟨rfl, rfl⟩
theorem ff_ra_5 : aw_ff "RoleAnalyser" 0 5 := fun r h => by cases h; exact ⟨rfl, rfl⟩
theorem nf_ra_6 : aw_nf 0 6 := fun r h => by cases h; rfl
theorem nf_po_0 : aw_nf 1 0 := fun r h => by cases h; rfl
theorem ff_po_1 : aw_ff "RoleAnalyser$Policy" 1 1 := fun r h => by cases h; exact ⟨rfl, rfl⟩
theorem ff_po_2 : aw_ff "RoleAnalyser$Policy" 1 2 := fun r h => by cases h; exact ⟨rfl, rfl⟩
theorem ff_po_3 : aw_ff "RoleAnalyser$Policy" 1 3 := fun r h => by cases h; exact ⟨rfl, rfl⟩
theorem ff_po_4 : aw_ff "RoleAnalyser$Policy" 1 4 := fun r h => by cases h; exact ⟨rfl, rfl⟩
theorem ff_se_0 : aw_ff "RoleAnalyser$Search" 2 0 := fun r h => by cases h; exact ⟨rfl, rfl⟩
theorem ff_se_1 : aw_ff "RoleAnalyser$Search" 2 1 := fun r h => by cases h; exact ⟨rfl, rfl⟩
theorem ff_se_2 : aw_ff "RoleAnalyser$Search" 2 2 := fun r h => by cases h; exact ⟨rfl, rfl⟩
theorem nf_se_3 : aw_nf 2 3 := fun r h => by cases h; rfl
theorem nf_se_4 : aw_nf 2 4 := fun r h => by cases h; rfl
theorem ff_li_0 : aw_ff "RoleAnalyser$Limit" 3 0 := fun r h => by cases h; exact ⟨rfl, rfl⟩
theorem ff_li_1 : aw_ff "RoleAnalyser$Limit" 3 1 := fun r h => by cases h; exact ⟨rfl, rfl⟩
theorem ff_ru_0 : aw_ff "RoleAnalyser$Rule" 4 0 := fun r h => by cases h; exact ⟨rfl, rfl⟩
theorem ff_ru_1 : aw_ff "RoleAnalyser$Rule" 4 1 := fun r h => by cases h; exact ⟨rfl, rfl⟩
theorem ff_ru_2 : aw_ff "RoleAnalyser$Rule" 4 2 := fun r h => by cases h; exact ⟨rfl, rfl⟩
theorem ff_ru_3 : aw_ff "RoleAnalyser$Rule" 4 3 := fun r h => by cases h; exact ⟨rfl, rfl⟩
theorem ff_ru_4 : aw_ff "RoleAnalyser$Rule" 4 4 := fun r h => by cases h; exact ⟨rfl, rfl⟩
theorem nf_mo_0 : aw_nf 5 0 := fun r h => by cases h; rfl
theorem nf_mo_1 : aw_nf 5 1 := fun r h => by cases h; rfl
theorem nf_mo_2 : aw_nf 5 2 := fun r h => by cases h; rfl
theorem ff_mo_3 : aw_ff "RoleAnalyserModel" 5 3 := fun r h => by cases h; exact ⟨rfl, rfl⟩
theorem ff_mo_4 : aw_ff "RoleAnalyserModel" 5 4 := fun r h => by cases h; exact ⟨rfl, rfl⟩
theorem ff_mo_5 : aw_ff "RoleAnalyserModel" 5 5 := fun r h => by cases h; exact ⟨rfl, rfl⟩
theorem ff_mo_6 : aw_ff "RoleAnalyserModel" 5 6 := fun r h => by cases h; exact ⟨rfl, rfl⟩
theorem ff_mo_7 : aw_ff "RoleAnalyserModel" 5 7 := fun r h => by cases h; exact ⟨rfl, rfl⟩
theorem ff_mo_8 : aw_ff "RoleAnalyserModel" 5 8 := fun r h => by cases h; exact ⟨rfl, rfl⟩
theorem ff_mo_9 : aw_ff "RoleAnalyserModel" 5 9 := fun r h => by cases h; exact ⟨rfl, rfl⟩
theorem ff_mo_10 : aw_ff "RoleAnalyserModel" 5 10 := fun r h => by cases h; exact ⟨rfl, rfl⟩
theorem ff_mo_11 : aw_ff "RoleAnalyserModel" 5 11 := fun r h => by cases h; exact ⟨rfl, rfl⟩
theorem ff_mo_12 : aw_ff "RoleAnalyserModel" 5 12 := fun r h => by cases h; exact ⟨rfl, rfl⟩
theorem nf_mo_13 : aw_nf 5 13 := fun r h => by cases h; rfl
theorem ff_mo_14 : aw_ff "RoleAnalyserModel" 5 14 := fun r h => by cases h; exact ⟨rfl, rfl⟩
theorem ff_mo_15 : aw_ff "RoleAnalyserModel" 5 15 := fun r h => by cases h; exact ⟨rfl, rfl⟩
theorem ff_mo_16 : aw_ff "RoleAnalyserModel" 5 16 := fun r h => by cases h; exact ⟨rfl, rfl⟩
theorem ff_mo_17 : aw_ff "RoleAnalyserModel" 5 17 := fun r h => by cases h; exact ⟨rfl, rfl⟩
theorem ff_mo_18 : aw_ff "RoleAnalyserModel" 5 18 := fun r h => by cases h; exact ⟨rfl, rfl⟩
theorem ff_mo_19 : aw_ff "RoleAnalyserModel" 5 19 := fun r h => by cases h; exact ⟨rfl, rfl⟩
theorem ff_mo_20 : aw_ff "RoleAnalyserModel" 5 20 := fun r h => by cases h; exact ⟨rfl, rfl⟩
theorem ff_mo_21 : aw_ff "RoleAnalyserModel" 5 21 := fun r h => by cases h; exact ⟨rfl, rfl⟩
theorem nf_mo_22 : aw_nf 5 22 := fun r h => by cases h; rfl
theorem nf_mo_23 : aw_nf 5 23 := fun r h => by cases h; rfl
theorem nf_al_0 : aw_nf 6 0 := fun r h => by cases h; rfl
theorem nf_al_1 : aw_nf 6 1 := fun r h => by cases h; rfl
theorem nf_al_2 : aw_nf 6 2 := fun r h => by cases h; rfl
end
section
/-! ===== derived rows: ends as values, calls by contracts that are equations, arrays by number ===== -/
def q_i (v : Int32) (h1 : List va_E) : aq_T := fun o h' => o = .inl (some (.int v)) ∧ h' = h1
def q_r (v : Value) (h1 : List va_E) : aq_T := fun o h' => o = .inl (some v) ∧ h' = h1
def q_v (h1 : List va_E) : aq_T := fun o h' => o = .inl none ∧ h' = h1
def q_x (ci : Nat) (h1 : List va_E) : aq_T := fun o h' => o = .inr ci ∧ h' = h1
def zb_i (b : Bool) : Int32 := if b then 1 else 0
theorem zb_t {b : Bool} (h : b = true) : zb_i b = 1 := by rw [h]; rfl
theorem zb_f {b : Bool} (h : b = false) : zb_i b = 0 := by rw [h]; rfl
theorem zb_01 (b : Bool) : zb_i b = 0 ∨ zb_i b = 1 := by cases b; exact Or.inl rfl; exact Or.inr rfl
theorem zb_e0 {b : Bool} (h : zb_i b = 0) : b = false := by cases b; rfl; exact absurd h (by decide)
theorem zb_n0 {b : Bool} (h : ¬ zb_i b = 0) : b = true := by cases b; exact absurd rfl h; rfl
section AWD
variable {G : ag_T} {M : am_M} {fr lo kc ks pc : Nat} {lv : List (Nat × Value)} {st : List Value} {h : List va_E} {Q : aq_T}
/-- a contract under another end -/
theorem aw_to {Q' : aq_T} (k : aw_w G M fr lo kc ks pc lv st h Q') (hq : ∀ o h', Q' o h' → Q o h') : aw_w G M fr lo kc ks pc lv st h Q := aw_mono hq k
theorem aw_iaN (i : Nat) {n : Nat} {f : Nat → Int32} (j : Nat) (hd : decode M.2.2.1 pc = .ok (.iaload, 1)) (hh : h[i]? = some (.inl (G.2.2.1 0, n, .inl f))) (hj : j < n) (hn : n < 2 ^ 31) (k : aw_w G M fr lo kc ks (pc + 1) lv (.int (f j) :: st) h Q) : aw_w G M fr lo kc ks pc lv (.int (nI j) :: .ref (G.1 + i) :: st) h Q :=
  aw_iald i hd hh (vp_in_nI hj hn) (by rw [nI_clamp (by omega)]; exact k)
theorem aw_zaN (i : Nat) {n : Nat} {f : Nat → Int32} (j : Nat) (hd : decode M.2.2.1 pc = .ok (.baload, 1)) (hh : h[i]? = some (.inl (G.2.2.1 1, n, .inl f))) (hj : j < n) (hn : n < 2 ^ 31) (k : aw_w G M fr lo kc ks (pc + 1) lv (.int (f j) :: st) h Q) : aw_w G M fr lo kc ks pc lv (.int (nI j) :: .ref (G.1 + i) :: st) h Q :=
  aw_zald i hd hh (vp_in_nI hj hn) (by rw [nI_clamp (by omega)]; exact k)
theorem aw_isN (i : Nat) {n : Nat} {f : Nat → Int32} {x : Int32} (j : Nat) (hd : decode M.2.2.1 pc = .ok (.iastore, 1)) (hh : h[i]? = some (.inl (G.2.2.1 0, n, .inl f))) (hj : j < n) (hn : n < 2 ^ 31) (k : aw_w G M fr lo kc ks (pc + 1) lv st (h.set i (.inl (G.2.2.1 0, n, .inl (upd f j x)))) Q) : aw_w G M fr lo kc ks pc lv (.int x :: .int (nI j) :: .ref (G.1 + i) :: st) h Q :=
  aw_iast i hd hh (vp_in_nI hj hn) (by rw [nI_clamp (by omega)]; exact k)
theorem aw_zsN (i : Nat) {n : Nat} {f : Nat → Int32} {x : Int32} (j : Nat) (hd : decode M.2.2.1 pc = .ok (.bastore, 1)) (hh : h[i]? = some (.inl (G.2.2.1 1, n, .inl f))) (hj : j < n) (hn : n < 2 ^ 31) (hx : x = 0 ∨ x = 1) (k : aw_w G M fr lo kc ks (pc + 1) lv st (h.set i (.inl (G.2.2.1 1, n, .inl (upd f j x)))) Q) : aw_w G M fr lo kc ks pc lv (.int x :: .int (nI j) :: .ref (G.1 + i) :: st) h Q := by
  refine aw_zast i hd hh (vp_in_nI hj hn) ?_
  rw [nI_clamp (by omega), show vp_nar .boolean x = x by rcases hx with rfl | rfl <;> decide]
  exact k
theorem aw_cSi (Y : am_M) {idx fr' lo' kc1 ks1 : Nat} (kc' ks' : Nat) (as rest : List Value) {v : Int32} {h1 : List va_E} (hent : aw_w G Y fr' lo' kc1 ks1 0 (lv_args 0 as) [] h (q_i v h1)) (hd : decode M.2.2.1 pc = .ok (.invokestatic idx, 3)) (hC : aw_cs M.1 idx Y) (hY : aw_my Y) (hp : aw_np Y as.length) (hst : st = as.reverse ++ rest) (hf9 : fr' + 1 ≤ fr) (hk1 : kc = kc1 + kc') (hk2 : ks = ks1 + ks') (hrest : (rest.map fun v => v.category).sum + (Y.2.2.2.1 + 11) + lo' ≤ lo) (hlen : (lg_sl as).length ≤ Y.2.2.2.1) (k : aw_w G M fr lo kc' ks' (pc + 3) lv (.int v :: rest) h1 Q) : aw_w G M fr lo kc ks pc lv st h Q :=
  aw_callS Y as rest hd hC hY hp hst hf9 hk1 hk2 hrest hlen hent (fun v9 h9 hq => by obtain ⟨e1, e2⟩ := hq; cases e1; subst e2; exact k) (fun k9 c9 h9 hq => by cases hq.1)
theorem aw_cSr (Y : am_M) {idx fr' lo' kc1 ks1 : Nat} (kc' ks' : Nat) (as rest : List Value) {v : Value} {h1 : List va_E} (hent : aw_w G Y fr' lo' kc1 ks1 0 (lv_args 0 as) [] h (q_r v h1)) (hd : decode M.2.2.1 pc = .ok (.invokestatic idx, 3)) (hC : aw_cs M.1 idx Y) (hY : aw_my Y) (hp : aw_np Y as.length) (hst : st = as.reverse ++ rest) (hf9 : fr' + 1 ≤ fr) (hk1 : kc = kc1 + kc') (hk2 : ks = ks1 + ks') (hrest : (rest.map fun v => v.category).sum + (Y.2.2.2.1 + 11) + lo' ≤ lo) (hlen : (lg_sl as).length ≤ Y.2.2.2.1) (k : aw_w G M fr lo kc' ks' (pc + 3) lv (v :: rest) h1 Q) : aw_w G M fr lo kc ks pc lv st h Q :=
  aw_callS Y as rest hd hC hY hp hst hf9 hk1 hk2 hrest hlen hent (fun v9 h9 hq => by obtain ⟨e1, e2⟩ := hq; cases e1; subst e2; exact k) (fun k9 c9 h9 hq => by cases hq.1)
theorem aw_cSv (Y : am_M) {idx fr' lo' kc1 ks1 : Nat} (kc' ks' : Nat) (as rest : List Value) {h1 : List va_E} (hent : aw_w G Y fr' lo' kc1 ks1 0 (lv_args 0 as) [] h (q_v h1)) (hd : decode M.2.2.1 pc = .ok (.invokestatic idx, 3)) (hC : aw_cs M.1 idx Y) (hY : aw_my Y) (hp : aw_np Y as.length) (hst : st = as.reverse ++ rest) (hf9 : fr' + 1 ≤ fr) (hk1 : kc = kc1 + kc') (hk2 : ks = ks1 + ks') (hrest : (rest.map fun v => v.category).sum + (Y.2.2.2.1 + 11) + lo' ≤ lo) (hlen : (lg_sl as).length ≤ Y.2.2.2.1) (k : aw_w G M fr lo kc' ks' (pc + 3) lv (rest) h1 Q) : aw_w G M fr lo kc ks pc lv st h Q :=
  aw_callS Y as rest hd hC hY hp hst hf9 hk1 hk2 hrest hlen hent (fun v9 h9 hq => by obtain ⟨e1, e2⟩ := hq; cases e1; subst e2; exact k) (fun k9 c9 h9 hq => by cases hq.1)
theorem aw_cSx (Y : am_M) {idx fr' lo' kc1 ks1 : Nat} (kc' ks' : Nat) (as rest : List Value) {cx : Nat} {h1 : List va_E} (hent : aw_w G Y fr' lo' kc1 ks1 0 (lv_args 0 as) [] h (q_x cx h1)) (hd : decode M.2.2.1 pc = .ok (.invokestatic idx, 3)) (hC : aw_cs M.1 idx Y) (hY : aw_my Y) (hp : aw_np Y as.length) (hst : st = as.reverse ++ rest) (hf9 : fr' + 1 ≤ fr) (hk1 : kc = kc1 + kc') (hk2 : ks = ks1 + ks') (hrest : (rest.map fun v => v.category).sum + (Y.2.2.2.1 + 11) + lo' ≤ lo) (hlen : (lg_sl as).length ≤ Y.2.2.2.1) (k : ∀ k9 : Nat, aw_x G M fr lo kc' ks' pc lv rest h1 k9 cx Q) : aw_w G M fr lo kc ks pc lv st h Q :=
  aw_callS Y as rest hd hC hY hp hst hf9 hk1 hk2 hrest hlen hent (fun v9 h9 hq => by cases hq.1) (fun k9 c9 h9 hq => by obtain ⟨e1, e2⟩ := hq; cases e1; subst e2; exact k k9)
theorem aw_cNi (Y : am_M) {idx fr' lo' kc1 ks1 : Nat} (kc' ks' : Nat) (host : String) (as rest : List Value) {v : Int32} {h1 : List va_E} (hent : aw_w G Y fr' lo' kc1 ks1 0 (lv_args 0 as) [] h (q_i v h1)) (hd : decode M.2.2.1 pc = .ok (.invokestatic idx, 3)) (hC : aw_cn M.1 idx host Y) (hY : aw_my Y) (hp : aw_np Y as.length) (hst : st = as.reverse ++ rest) (hf9 : fr' + 1 ≤ fr) (hk1 : kc = kc1 + kc') (hk2 : ks = ks1 + ks') (hrest : (rest.map fun v => v.category).sum + (Y.2.2.2.1 + 11) + lo' ≤ lo) (hlen : (lg_sl as).length ≤ Y.2.2.2.1) (k : aw_w G M fr lo kc' ks' (pc + 3) lv (.int v :: rest) h1 Q) : aw_w G M fr lo kc ks pc lv st h Q :=
  aw_callSN Y host as rest hd hC hY hp hst hf9 hk1 hk2 hrest hlen hent (fun v9 h9 hq => by obtain ⟨e1, e2⟩ := hq; cases e1; subst e2; exact k) (fun k9 c9 h9 hq => by cases hq.1)
theorem aw_cNr (Y : am_M) {idx fr' lo' kc1 ks1 : Nat} (kc' ks' : Nat) (host : String) (as rest : List Value) {v : Value} {h1 : List va_E} (hent : aw_w G Y fr' lo' kc1 ks1 0 (lv_args 0 as) [] h (q_r v h1)) (hd : decode M.2.2.1 pc = .ok (.invokestatic idx, 3)) (hC : aw_cn M.1 idx host Y) (hY : aw_my Y) (hp : aw_np Y as.length) (hst : st = as.reverse ++ rest) (hf9 : fr' + 1 ≤ fr) (hk1 : kc = kc1 + kc') (hk2 : ks = ks1 + ks') (hrest : (rest.map fun v => v.category).sum + (Y.2.2.2.1 + 11) + lo' ≤ lo) (hlen : (lg_sl as).length ≤ Y.2.2.2.1) (k : aw_w G M fr lo kc' ks' (pc + 3) lv (v :: rest) h1 Q) : aw_w G M fr lo kc ks pc lv st h Q :=
  aw_callSN Y host as rest hd hC hY hp hst hf9 hk1 hk2 hrest hlen hent (fun v9 h9 hq => by obtain ⟨e1, e2⟩ := hq; cases e1; subst e2; exact k) (fun k9 c9 h9 hq => by cases hq.1)
theorem aw_cNv (Y : am_M) {idx fr' lo' kc1 ks1 : Nat} (kc' ks' : Nat) (host : String) (as rest : List Value) {h1 : List va_E} (hent : aw_w G Y fr' lo' kc1 ks1 0 (lv_args 0 as) [] h (q_v h1)) (hd : decode M.2.2.1 pc = .ok (.invokestatic idx, 3)) (hC : aw_cn M.1 idx host Y) (hY : aw_my Y) (hp : aw_np Y as.length) (hst : st = as.reverse ++ rest) (hf9 : fr' + 1 ≤ fr) (hk1 : kc = kc1 + kc') (hk2 : ks = ks1 + ks') (hrest : (rest.map fun v => v.category).sum + (Y.2.2.2.1 + 11) + lo' ≤ lo) (hlen : (lg_sl as).length ≤ Y.2.2.2.1) (k : aw_w G M fr lo kc' ks' (pc + 3) lv (rest) h1 Q) : aw_w G M fr lo kc ks pc lv st h Q :=
  aw_callSN Y host as rest hd hC hY hp hst hf9 hk1 hk2 hrest hlen hent (fun v9 h9 hq => by obtain ⟨e1, e2⟩ := hq; cases e1; subst e2; exact k) (fun k9 c9 h9 hq => by cases hq.1)
theorem aw_cNx (Y : am_M) {idx fr' lo' kc1 ks1 : Nat} (kc' ks' : Nat) (host : String) (as rest : List Value) {cx : Nat} {h1 : List va_E} (hent : aw_w G Y fr' lo' kc1 ks1 0 (lv_args 0 as) [] h (q_x cx h1)) (hd : decode M.2.2.1 pc = .ok (.invokestatic idx, 3)) (hC : aw_cn M.1 idx host Y) (hY : aw_my Y) (hp : aw_np Y as.length) (hst : st = as.reverse ++ rest) (hf9 : fr' + 1 ≤ fr) (hk1 : kc = kc1 + kc') (hk2 : ks = ks1 + ks') (hrest : (rest.map fun v => v.category).sum + (Y.2.2.2.1 + 11) + lo' ≤ lo) (hlen : (lg_sl as).length ≤ Y.2.2.2.1) (k : ∀ k9 : Nat, aw_x G M fr lo kc' ks' pc lv rest h1 k9 cx Q) : aw_w G M fr lo kc ks pc lv st h Q :=
  aw_callSN Y host as rest hd hC hY hp hst hf9 hk1 hk2 hrest hlen hent (fun v9 h9 hq => by cases hq.1) (fun k9 c9 h9 hq => by obtain ⟨e1, e2⟩ := hq; cases e1; subst e2; exact k k9)
theorem aw_cVi (Y : am_M) {idx fr' lo' kc1 ks1 : Nat} (kc' ks' : Nat) (i ci : Nat) (as rest : List Value) {fs : List Value} {v : Int32} {h1 : List va_E} (hent : aw_w G Y fr' lo' kc1 ks1 0 (lv_args 0 (.ref (G.1 + i) :: as)) [] h (q_i v h1)) (hd : decode M.2.2.1 pc = .ok (.invokevirtual idx, 3)) (hC : aw_cv M.1 idx Y) (hY : aw_my Y) (hp : aw_np Y as.length) (hh : h[i]? = some (.inr (ci, fs))) (hci : (am_cl[ci]?).map (·.1) = some Y.2.1.cls) (hst : st = as.reverse ++ .ref (G.1 + i) :: rest) (hf9 : fr' + 1 ≤ fr) (hk1 : kc = kc1 + kc') (hk2 : ks = ks1 + ks') (hrest : (rest.map fun v => v.category).sum + (Y.2.2.2.1 + 11) + lo' ≤ lo) (hlen : (lg_sl (.ref (G.1 + i) :: as)).length ≤ Y.2.2.2.1) (k : aw_w G M fr lo kc' ks' (pc + 3) lv (.int v :: rest) h1 Q) : aw_w G M fr lo kc ks pc lv st h Q :=
  aw_callV Y i ci as rest hd hC hY hp hh hci hst hf9 hk1 hk2 hrest hlen hent (fun v9 h9 hq => by obtain ⟨e1, e2⟩ := hq; cases e1; subst e2; exact k) (fun k9 c9 h9 hq => by cases hq.1)
theorem aw_cVr (Y : am_M) {idx fr' lo' kc1 ks1 : Nat} (kc' ks' : Nat) (i ci : Nat) (as rest : List Value) {fs : List Value} {v : Value} {h1 : List va_E} (hent : aw_w G Y fr' lo' kc1 ks1 0 (lv_args 0 (.ref (G.1 + i) :: as)) [] h (q_r v h1)) (hd : decode M.2.2.1 pc = .ok (.invokevirtual idx, 3)) (hC : aw_cv M.1 idx Y) (hY : aw_my Y) (hp : aw_np Y as.length) (hh : h[i]? = some (.inr (ci, fs))) (hci : (am_cl[ci]?).map (·.1) = some Y.2.1.cls) (hst : st = as.reverse ++ .ref (G.1 + i) :: rest) (hf9 : fr' + 1 ≤ fr) (hk1 : kc = kc1 + kc') (hk2 : ks = ks1 + ks') (hrest : (rest.map fun v => v.category).sum + (Y.2.2.2.1 + 11) + lo' ≤ lo) (hlen : (lg_sl (.ref (G.1 + i) :: as)).length ≤ Y.2.2.2.1) (k : aw_w G M fr lo kc' ks' (pc + 3) lv (v :: rest) h1 Q) : aw_w G M fr lo kc ks pc lv st h Q :=
  aw_callV Y i ci as rest hd hC hY hp hh hci hst hf9 hk1 hk2 hrest hlen hent (fun v9 h9 hq => by obtain ⟨e1, e2⟩ := hq; cases e1; subst e2; exact k) (fun k9 c9 h9 hq => by cases hq.1)
theorem aw_cVv (Y : am_M) {idx fr' lo' kc1 ks1 : Nat} (kc' ks' : Nat) (i ci : Nat) (as rest : List Value) {fs : List Value} {h1 : List va_E} (hent : aw_w G Y fr' lo' kc1 ks1 0 (lv_args 0 (.ref (G.1 + i) :: as)) [] h (q_v h1)) (hd : decode M.2.2.1 pc = .ok (.invokevirtual idx, 3)) (hC : aw_cv M.1 idx Y) (hY : aw_my Y) (hp : aw_np Y as.length) (hh : h[i]? = some (.inr (ci, fs))) (hci : (am_cl[ci]?).map (·.1) = some Y.2.1.cls) (hst : st = as.reverse ++ .ref (G.1 + i) :: rest) (hf9 : fr' + 1 ≤ fr) (hk1 : kc = kc1 + kc') (hk2 : ks = ks1 + ks') (hrest : (rest.map fun v => v.category).sum + (Y.2.2.2.1 + 11) + lo' ≤ lo) (hlen : (lg_sl (.ref (G.1 + i) :: as)).length ≤ Y.2.2.2.1) (k : aw_w G M fr lo kc' ks' (pc + 3) lv (rest) h1 Q) : aw_w G M fr lo kc ks pc lv st h Q :=
  aw_callV Y i ci as rest hd hC hY hp hh hci hst hf9 hk1 hk2 hrest hlen hent (fun v9 h9 hq => by obtain ⟨e1, e2⟩ := hq; cases e1; subst e2; exact k) (fun k9 c9 h9 hq => by cases hq.1)
theorem aw_cVx (Y : am_M) {idx fr' lo' kc1 ks1 : Nat} (kc' ks' : Nat) (i ci : Nat) (as rest : List Value) {fs : List Value} {cx : Nat} {h1 : List va_E} (hent : aw_w G Y fr' lo' kc1 ks1 0 (lv_args 0 (.ref (G.1 + i) :: as)) [] h (q_x cx h1)) (hd : decode M.2.2.1 pc = .ok (.invokevirtual idx, 3)) (hC : aw_cv M.1 idx Y) (hY : aw_my Y) (hp : aw_np Y as.length) (hh : h[i]? = some (.inr (ci, fs))) (hci : (am_cl[ci]?).map (·.1) = some Y.2.1.cls) (hst : st = as.reverse ++ .ref (G.1 + i) :: rest) (hf9 : fr' + 1 ≤ fr) (hk1 : kc = kc1 + kc') (hk2 : ks = ks1 + ks') (hrest : (rest.map fun v => v.category).sum + (Y.2.2.2.1 + 11) + lo' ≤ lo) (hlen : (lg_sl (.ref (G.1 + i) :: as)).length ≤ Y.2.2.2.1) (k : ∀ k9 : Nat, aw_x G M fr lo kc' ks' pc lv rest h1 k9 cx Q) : aw_w G M fr lo kc ks pc lv st h Q :=
  aw_callV Y i ci as rest hd hC hY hp hh hci hst hf9 hk1 hk2 hrest hlen hent (fun v9 h9 hq => by cases hq.1) (fun k9 c9 h9 hq => by obtain ⟨e1, e2⟩ := hq; cases e1; subst e2; exact k k9)
theorem aw_cIv (Y : am_M) {idx fr' lo' kc1 ks1 : Nat} (kc' ks' : Nat) (i : Nat) (as rest : List Value) {h1 : List va_E} (hent : aw_w G Y fr' lo' kc1 ks1 0 (lv_args 0 (.ref (G.1 + i) :: as)) [] h (q_v h1)) (hd : decode M.2.2.1 pc = .ok (.invokespecial idx, 3)) (hC : aw_ci M.1 idx Y) (hY : aw_my Y) (hp : aw_np Y as.length) (hst : st = as.reverse ++ .ref (G.1 + i) :: rest) (hf9 : fr' + 1 ≤ fr) (hk1 : kc = kc1 + kc') (hk2 : ks = ks1 + ks') (hrest : (rest.map fun v => v.category).sum + (Y.2.2.2.1 + 11) + lo' ≤ lo) (hlen : (lg_sl (.ref (G.1 + i) :: as)).length ≤ Y.2.2.2.1) (k : aw_w G M fr lo kc' ks' (pc + 3) lv (rest) h1 Q) : aw_w G M fr lo kc ks pc lv st h Q :=
  aw_callI Y i as rest hd hC hY hp hst hf9 hk1 hk2 hrest hlen hent (fun v9 h9 hq => by obtain ⟨e1, e2⟩ := hq; cases e1; subst e2; exact k) (fun k9 c9 h9 hq => by cases hq.1)
theorem aw_cIx (Y : am_M) {idx fr' lo' kc1 ks1 : Nat} (kc' ks' : Nat) (i : Nat) (as rest : List Value) {cx : Nat} {h1 : List va_E} (hent : aw_w G Y fr' lo' kc1 ks1 0 (lv_args 0 (.ref (G.1 + i) :: as)) [] h (q_x cx h1)) (hd : decode M.2.2.1 pc = .ok (.invokespecial idx, 3)) (hC : aw_ci M.1 idx Y) (hY : aw_my Y) (hp : aw_np Y as.length) (hst : st = as.reverse ++ .ref (G.1 + i) :: rest) (hf9 : fr' + 1 ≤ fr) (hk1 : kc = kc1 + kc') (hk2 : ks = ks1 + ks') (hrest : (rest.map fun v => v.category).sum + (Y.2.2.2.1 + 11) + lo' ≤ lo) (hlen : (lg_sl (.ref (G.1 + i) :: as)).length ≤ Y.2.2.2.1) (k : ∀ k9 : Nat, aw_x G M fr lo kc' ks' pc lv rest h1 k9 cx Q) : aw_w G M fr lo kc ks pc lv st h Q :=
  aw_callI Y i as rest hd hC hY hp hst hf9 hk1 hk2 hrest hlen hent (fun v9 h9 hq => by cases hq.1) (fun k9 c9 h9 hq => by obtain ⟨e1, e2⟩ := hq; cases e1; subst e2; exact k k9)
/-- the script -/
theorem aw_sld {j : Nat} (hd : decode M.2.2.1 pc = .ok (.iaload, 1)) (hj : j < G.2.2.2.1.2.1) (hL : G.2.2.2.1.2.1 < 2 ^ 31) (k : aw_w G M fr lo kc ks (pc + 1) lv (.int (G.2.2.2.1.2.2 j) :: st) h Q) : aw_w G M fr lo kc ks pc lv (.int (nI j) :: .ref G.2.2.2.1.1 :: st) h Q := by
  intro p l e R s m args below meth c H locs cells slots mc ms ls C hl hR hO hS hG h1 h2 h3 h4
  obtain ⟨hx, hb, hml, hown, hts, hret, htab, hlk, hnm, hst9, hK, hfr, hlo⟩ := id C
  obtain ⟨o1, o2, -⟩ := id hO
  refine va_sld hx hb o1 (Nat.lt_of_lt_of_le o2 hG) (Nat.not_le.mpr o2) hS (vp_in_nI hj hL) hd ?_
  rw [nI_clamp (by omega)]
  exact k p l e R s m args below meth c H locs cells slots mc ms ls C hl hR hO hS hG h1 h2 h3 h4
theorem aw_slen (hd : decode M.2.2.1 pc = .ok (.arraylength, 1)) (k : aw_w G M fr lo kc ks (pc + 1) lv (.int (nI G.2.2.2.1.2.1) :: st) h Q) : aw_w G M fr lo kc ks pc lv (.ref G.2.2.2.1.1 :: st) h Q := by
  intro p l e R s m args below meth c H locs cells slots mc ms ls C hl hR hO hS hG h1 h2 h3 h4
  obtain ⟨hx, hb, hml, hown, hts, hret, htab, hlk, hnm, hst9, hK, hfr, hlo⟩ := id C
  obtain ⟨o1, o2, -⟩ := id hO
  exact va_slen hx hb o1 (Nat.lt_of_lt_of_le o2 hG) (Nat.not_le.mpr o2) hS hd (k p l e R s m args below meth c H locs cells slots mc ms ls C hl hR hO hS hG h1 h2 h3 h4)
/-- ArrayList's empty array: the static, its length -/
theorem aw_gets {idx : Nat} (hd : decode M.2.2.1 pc = .ok (.getstatic idx, 3)) (hw : Cond.fieldLink M.1 idx "java/util/ArrayList" "DEFAULTCAPACITY_EMPTY_ELEMENTDATA" "[Ljava/lang/Object;" ∈ aw_T) (k : aw_w G M fr lo kc ks (pc + 3) lv (.ref G.2.2.2.2 :: st) h Q) : aw_w G M fr lo kc ks pc lv st h Q := by
  intro p l e R s m args below meth c H locs cells slots mc ms ls C hl hR hO hS hG h1 h2 h3 h4
  obtain ⟨hx, hb, hml, hown, hts, hret, htab, hlk, hnm, hst9, hK, hfr, hlo⟩ := id C
  obtain ⟨o1, o2, o3, o4, o5, o6⟩ := id hO
  exact va_gets hx hb o5 hS hown (hts _ hw) (fun x9 h9 => h9) hd (k p l e R s m args below meth c H locs cells slots mc ms ls C hl hR hO hS hG h1 h2 h3 h4)
theorem aw_elen (hd : decode M.2.2.1 pc = .ok (.arraylength, 1)) (k : aw_w G M fr lo kc ks (pc + 1) lv (.int 0 :: st) h Q) : aw_w G M fr lo kc ks pc lv (.ref G.2.2.2.2 :: st) h Q := by
  intro p l e R s m args below meth c H locs cells slots mc ms ls C hl hR hO hS hG h1 h2 h3 h4
  obtain ⟨hx, hb, hml, hown, hts, hret, htab, hlk, hnm, hst9, hK, hfr, hlo⟩ := id C
  obtain ⟨o1, o2, o3, o4, o5, cell, ty, e1, e2, e3, e4⟩ := id hO
  exact W.alen (n := 0) hx hb (by rw [hS.2.1 _ (Array.getElem?_eq_some_iff.mp e1).1 e4]; exact e1) e2 (by rw [e3]; rfl) rfl rfl hd (k p l e R s m args below meth c H locs cells slots mc ms ls C hl hR hO hS hG h1 h2 h3 h4)
/-- new Object[n], a reference stored in it -/
theorem aw_newq {idx : Nat} {n : Int32} {N kc' ks' : Nat} (hd : decode M.2.2.1 pc = .ok (.anewarray idx, 3)) (hw : Cond.classLink M.1 idx "java/lang/Object" ∈ aw_T) (hn : ¬ n < 0) (hN : n.toNatClampNeg = N) (hb9 : N ≤ 100000) (hk1 : kc = kc' + 1) (hk2 : ks = ks' + N)
    (k : aw_w G M fr lo kc' ks' (pc + 3) lv (.ref (G.1 + h.length) :: st) (h ++ [.inl (G.2.2.1 3, N, .inr (.inr (.inr (.inr (fun _ => none)))))]) Q) : aw_w G M fr lo kc ks pc lv (.int n :: st) h Q := by
  intro p l e R s m args below meth c H locs cells slots mc ms ls C hl hR hO hS hG h1 h2 h3 h4
  obtain ⟨hx, hb, hml, hown, hts, hret, htab, hlk, hnm, hst9, hK, hfr, hlo⟩ := id C
  subst hN
  refine W.anew hx hb hown (hts _ hw) (va_AO.use hK.2.2.2.2) rfl hd rfl hn (by omega) (by omega) (by omega) fun cA kA comp f1 f2 f3 f4 => ?_
  have hcA : cA = G.2.2.1 3 := by
    obtain ⟨kA9, comp9, g1, g2, g3, g4⟩ := (hK.1.2 3 _ rfl).2
    exact Option.some.inj (f1.symm.trans g4)
  subst hcA
  generalize hH1 : H.push ({ cls := G.2.2.1 3, slots := Array.replicate n.toNatClampNeg .null, vm := .none } : Cell) = H1
  have z1 : H1.size = H.size + 1 := by rw [← hH1, Array.size_push]
  have e1 : H1[H.size]? = some (arrV (G.2.2.1 3) n.toNatClampNeg (fun _ => .null)) := by rw [← hH1, Array.getElem?_push_size, ← arrV_new]
  have o1 : ∀ q : Nat, q < H.size → H1[q]? = H[q]? := fun q hq => by rw [← hH1, Array.getElem?_push, if_neg (Nat.ne_of_lt hq)]
  have eH : H.size = G.1 + h.length := hR.2
  rw [eH]
  refine k p l e R s m args below meth c H1 locs (cells + 1) (slots + n.toNatClampNeg) mc ms ls C hl (hR.push z1 o1 ?_) hO (aw_Sp hS (by omega) o1) hG (by omega) (by omega) h3 h4
  show H1[G.1 + h.length]? = some (vp_cell _ _)
  rw [vp_cell_q, ← eH]
  exact e1
theorem aw_aast (i i2 ci : Nat) {n : Nat} {f : Nat → Option Nat} {fs : List Value} (j : Nat) (hd : decode M.2.2.1 pc = .ok (.aastore, 1)) (hh : h[i]? = some (.inl (G.2.2.1 3, n, .inr (.inr (.inr (.inr f)))))) (h2 : h[i2]? = some (.inr (ci, fs))) (hc9 : ∃ r, am_cl[ci]? = some r ∧ Cond.castable r.1 "java/lang/Object" ∈ aw_N) (hj : j < n) (hn : n < 2 ^ 31)
    (k : aw_w G M fr lo kc ks (pc + 1) lv st (h.set i (.inl (G.2.2.1 3, n, .inr (.inr (.inr (.inr (va_up f j (some (G.1 + i2)))))))) ) Q) : aw_w G M fr lo kc ks pc lv (.ref (G.1 + i2) :: .int (nI j) :: .ref (G.1 + i) :: st) h Q := by
  intro p l e R s m args below meth c H locs cells slots mc ms ls C hl hR hO hS hG h1 h2' h3 h4
  obtain ⟨hx, hb, hml, hown, hts, hret, htab, hlk, hnm, hst9, hK, hfr, hlo⟩ := id C
  have ecl : (nI j).toNatClampNeg = j := nI_clamp (by omega)
  obtain ⟨r, hr, hca⟩ := hc9
  obtain ⟨r', hr', cellV, g1, g2, g3, -⟩ := hR.cell h2
  have hcls := (hK.1.1 ci r hr).2
  obtain ⟨kA, comp, k1, k2, k3, -⟩ := (hK.1.2 3 _ rfl).2
  obtain ⟨kE, hkE, -⟩ := Vm.findClass_spec k3
  obtain ⟨c0, t1, f1, f2, f3⟩ := Cond.castable_spec (va_Nw.use (A := args) rfl (hK.2.1 _ hca))
  cases Option.some.inj (hcls.1.symm.trans f1)
  cases Option.some.inj (k3.symm.trans f2)
  obtain ⟨kC, hkC, -⟩ := hcls.2
  refine W.aast hx hb (hR.cell hh) (fun q h9 => by cases h9) (fun h9 => by cases h9) k1 k2 rfl hkE ⟨nI_pos (by omega), by show _ < (arrV _ _ _).slots.size; rw [arrV_size, ecl]; exact hj⟩ g1 (fun q h9 => by rw [g3] at h9; cases h9) (by rw [g2]; exact hkC) (by rw [g2]; exact f3) rfl rfl hd fun H1 e1 z oq => ?_
  refine k p l e R s m args below meth c H1 _ cells slots mc ms ls C hl (hR.set hh z oq ?_) hO (hS.put z oq (Nat.le_add_right _ _)) hG h1 h2' h3 h4
  show H1[G.1 + i]? = some (vp_cell _ _)
  rw [e1, ecl, vp_cell_q, vp_cell_q, arrV_store]
  congr 2
  funext q
  by_cases hq : q = j
  · subst hq
    simp [updV, va_up, va_rf]
  · simp [updV, va_up, hq]
theorem aw_cast (i ci : Nat) {idx : Nat} {nm : String} {fs : List Value} (hd : decode M.2.2.1 pc = .ok (.checkcast idx, 3)) (hw : Cond.classLink M.1 idx nm ∈ aw_T) (hh : h[i]? = some (.inr (ci, fs))) (hc9 : ∃ r, am_cl[ci]? = some r ∧ Cond.castable r.1 nm ∈ aw_N) (k : aw_w G M fr lo kc ks (pc + 3) lv (.ref (G.1 + i) :: st) h Q) : aw_w G M fr lo kc ks pc lv (.ref (G.1 + i) :: st) h Q := by
  intro p l e R s m args below meth c H locs cells slots mc ms ls C hl hR hO hS hG h1 h2 h3 h4
  obtain ⟨hx, hb, hml, hown, hts, hret, htab, hlk, hnm, hst9, hK, hfr, hlo⟩ := id C
  obtain ⟨r, hr, hca⟩ := hc9
  obtain ⟨r', hr', cellV, g1, g2, g3, -⟩ := hR.cell hh
  exact va_castY hx hb hown (hts _ hw) (hK.2.1 _ hca) ⟨cellV, g1, by rw [g3]; rfl, by rw [g2]; exact (hK.1.1 ci r hr).2.1⟩ hd (k p l e R s m args below meth c H locs cells slots mc ms ls C hl hR hO hS hG h1 h2 h3 h4)
theorem aw_ldcw {idx : Nat} {v : Int32} (hd : decode M.2.2.1 pc = .ok (.ldc_w idx, 3)) (hw : Cond.constant M.1 idx v ∈ aw_T) (k : aw_w G M fr lo kc ks (pc + 3) lv (.int v :: st) h Q) : aw_w G M fr lo kc ks pc lv st h Q := by
  intro p l e R s m args below meth c H locs cells slots mc ms ls C hl hR hO hS hG h1 h2 h3 h4
  obtain ⟨hx, hb, hml, hown, hts, hret, htab, hlk, hnm, hst9, hK, hfr, hlo⟩ := id C
  exact lv_ldcw hx hb hown (hts _ hw) hd (k p l e R s m args below meth c H locs cells slots mc ms ls C hl hR hO hS hG h1 h2 h3 h4)
end AWD
end
section
/-! ===== the heap of the run: the class's cells (0 to 12), the reference's (13 to 31), the law's array (32), what came later ===== -/
abbrev ck_T : Type := (Nat → Int32) × (Nat → Nat → Int32) × (Nat → Value)
abbrev cm_T : Type := (Nat → Int32) × (Nat → Nat → Int32)
def hp_f (G : ag_T) (κ : ck_T) (μ : cm_T) (o : Nat → Int64) (rest : List va_E) : List va_E :=
  .inr (0, [.ref (G.1 + 1), .ref (G.1 + 6), .ref (G.1 + 9), .ref (G.1 + 10), .ref (G.1 + 11), .ref (G.1 + 12), .int (κ.1 3)]) ::
  .inr (1, [.int (κ.1 0), .ref (G.1 + 2), .ref (G.1 + 3), .ref (G.1 + 4), .ref (G.1 + 5)]) ::
  .inl (G.2.2.1 0, 64, .inl (κ.2.1 0)) ::
  .inr (6, [.int (κ.1 4), κ.2.2 0, .int (κ.1 5)]) ::
  .inr (6, [.int (κ.1 6), κ.2.2 1, .int (κ.1 7)]) ::
  .inr (6, [.int (κ.1 8), κ.2.2 2, .int (κ.1 9)]) ::
  .inr (2, [.ref (G.1 + 1), .ref (G.1 + 7), .ref (G.1 + 8), .int (κ.1 1), .int (κ.1 2)]) ::
  .inl (G.2.2.1 0, 4096, .inl (κ.2.1 1)) ::
  .inl (G.2.2.1 0, 4096, .inl (κ.2.1 2)) ::
  .inl (G.2.2.1 0, 5, .inl (κ.2.1 3)) ::
  .inl (G.2.2.1 0, 6, .inl (κ.2.1 4)) ::
  .inl (G.2.2.1 0, 4, .inl (κ.2.1 5)) ::
  .inl (G.2.2.1 0, 4, .inl (κ.2.1 6)) ::
  .inr (5, [.int (μ.1 0), .int (μ.1 1), .int (μ.1 2), .ref (G.1 + 14), .ref (G.1 + 15), .ref (G.1 + 16), .ref (G.1 + 17), .ref (G.1 + 18), .ref (G.1 + 19), .ref (G.1 + 20), .ref (G.1 + 21), .ref (G.1 + 22), .ref (G.1 + 23), .int (μ.1 3), .ref (G.1 + 24), .ref (G.1 + 25), .ref (G.1 + 26), .ref (G.1 + 27), .ref (G.1 + 28), .ref (G.1 + 29), .ref (G.1 + 30), .ref (G.1 + 31), .int (μ.1 4), .int (μ.1 5)]) ::
  .inl (G.2.2.1 0, 6, .inl (μ.2 0)) ::
  .inl (G.2.2.1 0, 6, .inl (μ.2 1)) ::
  .inl (G.2.2.1 0, 6, .inl (μ.2 2)) ::
  .inl (G.2.2.1 0, 5, .inl (μ.2 3)) ::
  .inl (G.2.2.1 0, 2, .inl (μ.2 4)) ::
  .inl (G.2.2.1 0, 8, .inl (μ.2 5)) ::
  .inl (G.2.2.1 0, 8, .inl (μ.2 6)) ::
  .inl (G.2.2.1 1, 4, .inl (μ.2 7)) ::
  .inl (G.2.2.1 0, 4, .inl (μ.2 8)) ::
  .inl (G.2.2.1 0, 4, .inl (μ.2 9)) ::
  .inl (G.2.2.1 1, 8, .inl (μ.2 10)) ::
  .inl (G.2.2.1 0, 8, .inl (μ.2 11)) ::
  .inl (G.2.2.1 0, 8, .inl (μ.2 12)) ::
  .inl (G.2.2.1 0, 8, .inl (μ.2 13)) ::
  .inl (G.2.2.1 0, 8, .inl (μ.2 14)) ::
  .inl (G.2.2.1 0, 4096, .inl (μ.2 15)) ::
  .inl (G.2.2.1 1, 4096, .inl (μ.2 16)) ::
  .inl (G.2.2.1 0, 4096, .inl (μ.2 17)) ::
  .inl (G.2.2.1 2, 1, .inr (.inl o)) :: rest
/-- one number, one place of an array changed -/
def km_s (μ : cm_T) (k : Nat) (v : Int32) : cm_T := (va_up μ.1 k v, μ.2)
def km_a (μ : cm_T) (k i : Nat) (v : Int32) : cm_T := (μ.1, va_up μ.2 k (upd (μ.2 k) i v))
def kk_s (κ : ck_T) (k : Nat) (v : Int32) : ck_T := (va_up κ.1 k v, κ.2)
def kk_a (κ : ck_T) (k i : Nat) (v : Int32) : ck_T := (κ.1, va_up κ.2.1 k (upd (κ.2.1 k) i v), κ.2.2)
def kk_r (κ : ck_T) (k : Nat) (v : Value) : ck_T := (κ.1, κ.2.1, va_up κ.2.2 k v)
end
section
/-! ===== bits of numbers: Int32 and Nat ===== -/
theorem iB_e {x y : Int32} (h : x.toBitVec = y.toBitVec) : x = y := Int32.toBitVec_inj.mp h
theorem nI_bv (n : Nat) : (nI n).toBitVec = BitVec.ofNat 32 n := rfl
theorem nI_or (a b : Nat) : nI a ||| nI b = nI (a ||| b) := by
  apply iB_e
  show BitVec.ofNat 32 a ||| BitVec.ofNat 32 b = BitVec.ofNat 32 (a ||| b)
  apply BitVec.eq_of_getLsbD_eq
  intro i hi
  simp [BitVec.getLsbD_ofNat, Nat.testBit_or, hi]
theorem nI_and (a b : Nat) : nI a &&& nI b = nI (a &&& b) := by
  apply iB_e
  show BitVec.ofNat 32 a &&& BitVec.ofNat 32 b = BitVec.ofNat 32 (a &&& b)
  apply BitVec.eq_of_getLsbD_eq
  intro i hi
  simp [BitVec.getLsbD_ofNat, Nat.testBit_and, hi]
theorem nI_xor (a b : Nat) : nI a ^^^ nI b = nI (a ^^^ b) := by
  apply iB_e
  show BitVec.ofNat 32 a ^^^ BitVec.ofNat 32 b = BitVec.ofNat 32 (a ^^^ b)
  apply BitVec.eq_of_getLsbD_eq
  intro i hi
  simp [BitVec.getLsbD_ofNat, Nat.testBit_xor, hi]
theorem nI_mul (a b : Nat) : nI a * nI b = nI (a * b) := (Int32.ofNat_mul a b).symm
theorem nI_sub {a b : Nat} (h : b ≤ a) : nI a - nI b = nI (a - b) := by
  obtain ⟨c, rfl⟩ := Nat.exists_eq_add_of_le h
  rw [← nI_add, Nat.add_sub_cancel_left, Int32.add_comm, Int32.add_sub_cancel]
theorem nI_31 : ∀ k, k < 32 → nI k &&& 31 = nI k := by decide +kernel
theorem nI_sm : ∀ k, k < 32 → ((nI k).toBitVec.smod 32).toNat = k := by decide +kernel
theorem nI_shl (a : Nat) {k : Nat} (hk : k < 32) : nI a <<< (nI k &&& 31) = nI (a <<< k) := by
  rw [nI_31 k hk]
  apply iB_e
  show BitVec.ofNat 32 a <<< ((nI k).toBitVec.smod 32) = BitVec.ofNat 32 (a <<< k)
  rw [BitVec.shiftLeft_eq', nI_sm k hk]
  apply BitVec.eq_of_getLsbD_eq
  intro i hi
  simp only [BitVec.getLsbD_shiftLeft, BitVec.getLsbD_ofNat, Nat.testBit_shiftLeft, hi, decide_true, Bool.true_and]
  by_cases hik : i < k
  · simp [hik, Nat.not_le.mpr hik]
  · have h1 : k ≤ i := Nat.le_of_not_lt hik
    have h2 : i - k < 32 := by omega
    simp [hik, h1, h2]
theorem nI_shr {a k : Nat} (ha : a < 2 ^ 31) (hk : k < 32) : nI a >>> (nI k &&& 31) = nI (a >>> k) := by
  rw [nI_31 k hk]
  apply iB_e
  show (BitVec.ofNat 32 a).sshiftRight' ((nI k).toBitVec.smod 32) = BitVec.ofNat 32 (a >>> k)
  rw [BitVec.sshiftRight', nI_sm k hk]
  have hm : (BitVec.ofNat 32 a).msb = false := by
    rw [BitVec.msb_eq_decide]
    simp only [BitVec.toNat_ofNat, decide_eq_false_iff_not, Nat.not_le]
    rw [Nat.mod_eq_of_lt (by omega)]
    exact ha
  rw [BitVec.sshiftRight_eq_of_msb_false hm]
  apply BitVec.eq_of_toNat_eq
  rw [BitVec.toNat_ushiftRight, BitVec.toNat_ofNat, BitVec.toNat_ofNat, Nat.mod_eq_of_lt (show a < 2 ^ 32 by omega), Nat.mod_eq_of_lt]
  exact Nat.lt_of_le_of_lt (Nat.shiftRight_le a k) (by omega)
theorem nI_div {a b : Nat} (ha : a < 2 ^ 31) (hb : b < 2 ^ 31) : nI a / nI b = nI (a / b) := by
  have hq := Nat.lt_of_le_of_lt (Nat.div_le_self a b) ha
  apply Int32.toInt_inj.mp
  rw [Int32.toInt_div, nI_toInt ha, nI_toInt hb, nI_toInt hq, ← Int.ofNat_tdiv]
  generalize a / b = q at *
  rw [Int.bmod_eq_of_le]
  · omega
  · omega
theorem nI_rem {a b : Nat} (ha : a < 2 ^ 31) (hb : b < 2 ^ 31) : nI a - nI a / nI b * nI b = nI (a % b) := by
  rw [nI_div ha hb, nI_mul, nI_sub (Nat.div_mul_le_self a b)]
  congr 1
  have := Nat.div_add_mod a b
  rw [Nat.mul_comm] at this
  omega
theorem bt_01 (a k : Nat) : (a >>> k) &&& 1 = if a.testBit k then 1 else 0 := by
  rw [Nat.testBit, Nat.and_comm 1, Nat.and_one_is_mod]
  rcases Nat.mod_two_eq_zero_or_one (a >>> k) with h | h <;> simp [h]
theorem nI_bit {a k : Nat} (ha : a < 2 ^ 31) (hk : k < 32) : (nI a >>> (nI k &&& 31)) &&& 1 = zb_i (a.testBit k) := by
  rw [nI_shr ha hk]
  show nI _ &&& nI 1 = _
  rw [nI_and, bt_01]
  cases a.testBit k <;> rfl
/-- a set without one member -/
def bt_c (a k : Nat) : Nat := a ^^^ (a &&& (1 <<< k))
theorem bt_cb (a k j : Nat) : (bt_c a k).testBit j = (a.testBit j && !decide (j = k)) := by
  unfold bt_c
  rw [Nat.testBit_xor, Nat.testBit_and, Nat.one_shiftLeft, Nat.testBit_two_pow]
  by_cases h : k = j
  · subst h; simp
  · have : ¬ j = k := fun e => h e.symm
    simp [h, this]
theorem nI_clr (a : Nat) {k : Nat} (hk : k < 32) : nI a &&& (((1 : Int32) <<< (nI k &&& 31)) ^^^ -1) = nI (bt_c a k) := by
  show nI a &&& ((nI 1 <<< (nI k &&& 31)) ^^^ -1) = _
  rw [nI_shl 1 hk]
  apply iB_e
  show BitVec.ofNat 32 a &&& (BitVec.ofNat 32 (1 <<< k) ^^^ BitVec.allOnes 32) = BitVec.ofNat 32 (bt_c a k)
  apply BitVec.eq_of_getLsbD_eq
  intro i hi
  rw [BitVec.getLsbD_and, BitVec.getLsbD_xor, BitVec.getLsbD_allOnes, BitVec.getLsbD_ofNat, BitVec.getLsbD_ofNat, BitVec.getLsbD_ofNat, bt_cb, Nat.one_shiftLeft, Nat.testBit_two_pow]
  by_cases h : k = i
  · subst h; simp [hi]
  · have : ¬ i = k := fun e => h e.symm
    simp [hi, h, this]
/-- sets and their sizes -/
theorem bt_ext {a b : Nat} (h : ∀ i, a.testBit i = b.testBit i) : a = b := Nat.eq_of_testBit_eq h
theorem bt_or {a b n : Nat} (ha : a < 2 ^ n) (hb : b < 2 ^ n) : a ||| b < 2 ^ n := Nat.or_lt_two_pow ha hb
theorem bt_and {a b n : Nat} (ha : a < 2 ^ n) : a &&& b < 2 ^ n := Nat.lt_of_le_of_lt Nat.and_le_left ha
theorem bt_cl {a k n : Nat} (ha : a < 2 ^ n) : bt_c a k < 2 ^ n := Nat.xor_lt_two_pow ha (bt_and ha)
theorem bt_1 {r n : Nat} (h : r < n) : 1 <<< r < 2 ^ n := by rw [Nat.one_shiftLeft]; exact Nat.pow_lt_pow_right (by decide) h
theorem bt_n {a n i : Nat} (ha : a < 2 ^ n) (hi : n ≤ i) : a.testBit i = false := Nat.testBit_lt_two_pow (Nat.lt_of_lt_of_le ha (Nat.pow_le_pow_right (by decide) hi))
theorem bt_lt {a n : Nat} (h : ∀ i, n ≤ i → a.testBit i = false) : a < 2 ^ n := Nat.lt_pow_two_of_testBit a h
/-- a ⊆ b -/
def bt_s (a b : Nat) : Prop := ∀ i, a.testBit i = true → b.testBit i = true
theorem bt_s.and {a b : Nat} (h : bt_s a b) : a &&& b = a := bt_ext fun i => by
  rw [Nat.testBit_and]
  cases ha : a.testBit i
  · rfl
  · rw [h i ha]; rfl
theorem bt_s.or {a b : Nat} (h : bt_s a b) : b ||| a = b := bt_ext fun i => by
  rw [Nat.testBit_or]
  cases ha : a.testBit i
  · simp
  · rw [h i ha]; rfl
theorem bt_s.trans {a b c : Nat} (h : bt_s a b) (h2 : bt_s b c) : bt_s a c := fun i hi => h2 i (h i hi)
theorem bt_s.refl (a : Nat) : bt_s a a := fun _ h => h
theorem bt_s.of_and (a b : Nat) : bt_s (a &&& b) a := fun i h => by rw [Nat.testBit_and] at h; simp only [Bool.and_eq_true] at h; exact h.1
theorem bt_s.l (a b : Nat) : bt_s a (a ||| b) := fun i h => by rw [Nat.testBit_or, h]; rfl
theorem bt_s.r (a b : Nat) : bt_s b (a ||| b) := fun i h => by rw [Nat.testBit_or, h, Bool.or_true]
theorem bt_s.un {a b c : Nat} (h : bt_s a c) (h2 : bt_s b c) : bt_s (a ||| b) c := fun i hi => by
  rw [Nat.testBit_or, Bool.or_eq_true] at hi
  exact hi.elim (h i) (h2 i)
theorem bt_s.clr (a k : Nat) : bt_s (bt_c a k) a := fun i h => by rw [bt_cb] at h; simp only [Bool.and_eq_true] at h; exact h.1
/-! ===== what both sides compute: closures, counts, limits, rules ===== -/
def pc_f (bel : Nat → Nat) (s : Nat) : Nat → Nat
  | 0 => s
  | r + 1 => if s.testBit r then pc_f bel s r ||| bel r else pc_f bel s r
def pk_f (s : Nat) : Nat → Nat
  | 0 => 0
  | k + 1 => pk_f s k + (if s.testBit k then 1 else 0)
abbrev pl_T : Type := List (Nat × Int32)
abbrev pr_T : Type := List (Bool × Nat × Nat × Nat × Nat)
def pk_1 (l : Nat × Int32) (held : Nat) : Bool := decide (nI (pk_f (held &&& l.1) 31) < l.2)
def pk_l (ls : pl_T) (held : Nat) : Bool := ls.all fun l => pk_1 l held
def pr_1 (x : Bool × Nat × Nat × Nat × Nat) (g : Bool) (mine theirs r : Nat) : Bool := decide (x.1 = g) && (decide (x.2.2.2.2 = r) && (mine.testBit x.2.1 && (decide (theirs &&& x.2.2.1 = x.2.2.1) && decide (theirs &&& x.2.2.2.1 = 0))))
def pr_l (rs : pr_T) (g : Bool) (mine theirs r : Nat) : Bool := rs.any fun x => pr_1 x g mine theirs r
theorem pc_lt {bel : Nat → Nat} {s N : Nat} (hs : s < 2 ^ N) (hb : ∀ r, bel r < 2 ^ N) : ∀ k, pc_f bel s k < 2 ^ N
  | 0 => hs
  | k + 1 => by
    unfold pc_f
    split
    · exact bt_or (pc_lt hs hb k) (hb k)
    · exact pc_lt hs hb k
/-- the members of a closure -/
theorem pc_tb (bel : Nat → Nat) (s i : Nat) : ∀ k, (pc_f bel s k).testBit i = true ↔ (s.testBit i = true ∨ ∃ r, r < k ∧ s.testBit r = true ∧ (bel r).testBit i = true)
  | 0 => by
    unfold pc_f
    constructor
    · exact Or.inl
    · rintro (h | ⟨r, hr, -⟩)
      · exact h
      · omega
  | k + 1 => by
    have ih := pc_tb bel s i k
    unfold pc_f
    split
    · rename_i hk
      rw [Nat.testBit_or, Bool.or_eq_true, ih]
      constructor
      · rintro ((h | ⟨r, hr, h⟩) | h)
        · exact Or.inl h
        · exact Or.inr ⟨r, by omega, h⟩
        · exact Or.inr ⟨k, by omega, hk, h⟩
      · rintro (h | ⟨r, hr, h1, h2⟩)
        · exact Or.inl (Or.inl h)
        · by_cases e : r = k
          · subst e; exact Or.inr h2
          · exact Or.inl (Or.inr ⟨r, by omega, h1, h2⟩)
    · rename_i hk
      rw [ih]
      constructor
      · rintro (h | ⟨r, hr, h⟩)
        · exact Or.inl h
        · exact Or.inr ⟨r, by omega, h⟩
      · rintro (h | ⟨r, hr, h1, h2⟩)
        · exact Or.inl h
        · by_cases e : r = k
          · subst e; exact absurd h1 hk
          · exact Or.inr ⟨r, by omega, h1, h2⟩
theorem pc_self (bel : Nat → Nat) (s k : Nat) : bt_s s (pc_f bel s k) := fun i h => (pc_tb bel s i k).mpr (Or.inl h)
theorem pc_mono {bel : Nat → Nat} {s t : Nat} (h : bt_s s t) (k : Nat) : bt_s (pc_f bel s k) (pc_f bel t k) := fun i hi => by
  rw [pc_tb] at hi ⊢
  rcases hi with hi | ⟨r, hr, h1, h2⟩
  · exact Or.inl (h i hi)
  · exact Or.inr ⟨r, hr, h r h1, h2⟩
theorem pk_mono {s t : Nat} (h : bt_s s t) : ∀ k, pk_f s k ≤ pk_f t k
  | 0 => Nat.le_refl _
  | k + 1 => by
    have ih := pk_mono h k
    unfold pk_f
    cases hs : s.testBit k
    · simp; omega
    · rw [h k hs]; simp; omega
theorem pk_b (s : Nat) : ∀ k, pk_f s k ≤ k
  | 0 => Nat.le_refl _
  | k + 1 => by
    have ih := pk_b s k
    unfold pk_f
    split <;> omega
theorem pk_1m {l : Nat × Int32} {a b : Nat} (h : bt_s a b) (hb : pk_1 l b = true) : pk_1 l a = true := by
  unfold pk_1 at *
  rw [decide_eq_true_iff] at *
  have h1 : bt_s (a &&& l.1) (b &&& l.1) := fun i hi => by
    rw [Nat.testBit_and, Bool.and_eq_true] at *
    exact ⟨h i hi.1, hi.2⟩
  have h2 := pk_mono h1 31
  have h3 := pk_b (b &&& l.1) 31
  have h4 : nI (pk_f (a &&& l.1) 31) ≤ nI (pk_f (b &&& l.1) 31) := nI_le h2 (by omega)
  rw [Int32.lt_iff_toInt_lt] at *
  rw [Int32.le_iff_toInt_le] at h4
  omega
theorem pk_lm {ls : pl_T} {a b : Nat} (h : bt_s a b) (hb : pk_l ls b = true) : pk_l ls a = true := by
  unfold pk_l at *
  rw [List.all_eq_true] at *
  exact fun l hl => pk_1m h (hb l hl)
end
section
/-! ===== the heap after a store ===== -/
theorem hs_ks3 (G : ag_T) (κ : ck_T) (μ : cm_T) (o : Nat → Int64) (rest : List va_E) (v : Int32) : (hp_f G κ μ o rest).set 0 (.inr (0, [.ref (G.1 + 1), .ref (G.1 + 6), .ref (G.1 + 9), .ref (G.1 + 10), .ref (G.1 + 11), .ref (G.1 + 12), .int (κ.1 3)].set 6 (.int v))) = hp_f G (kk_s κ 3 v) μ o rest := rfl
theorem hs_ks0 (G : ag_T) (κ : ck_T) (μ : cm_T) (o : Nat → Int64) (rest : List va_E) (v : Int32) : (hp_f G κ μ o rest).set 1 (.inr (1, [.int (κ.1 0), .ref (G.1 + 2), .ref (G.1 + 3), .ref (G.1 + 4), .ref (G.1 + 5)].set 0 (.int v))) = hp_f G (kk_s κ 0 v) μ o rest := rfl
theorem hs_ka0 (G : ag_T) (κ : ck_T) (μ : cm_T) (o : Nat → Int64) (rest : List va_E) (j : Nat) (v : Int32) : (hp_f G κ μ o rest).set 2 (.inl (G.2.2.1 0, 64, .inl (upd (κ.2.1 0) j v))) = hp_f G (kk_a κ 0 j v) μ o rest := rfl
theorem hs_ks4 (G : ag_T) (κ : ck_T) (μ : cm_T) (o : Nat → Int64) (rest : List va_E) (v : Int32) : (hp_f G κ μ o rest).set 3 (.inr (6, [.int (κ.1 4), κ.2.2 0, .int (κ.1 5)].set 0 (.int v))) = hp_f G (kk_s κ 4 v) μ o rest := rfl
theorem hs_kr0 (G : ag_T) (κ : ck_T) (μ : cm_T) (o : Nat → Int64) (rest : List va_E) (v : Value) : (hp_f G κ μ o rest).set 3 (.inr (6, [.int (κ.1 4), κ.2.2 0, .int (κ.1 5)].set 1 v)) = hp_f G (kk_r κ 0 v) μ o rest := rfl
theorem hs_ks5 (G : ag_T) (κ : ck_T) (μ : cm_T) (o : Nat → Int64) (rest : List va_E) (v : Int32) : (hp_f G κ μ o rest).set 3 (.inr (6, [.int (κ.1 4), κ.2.2 0, .int (κ.1 5)].set 2 (.int v))) = hp_f G (kk_s κ 5 v) μ o rest := rfl
theorem hs_ks6 (G : ag_T) (κ : ck_T) (μ : cm_T) (o : Nat → Int64) (rest : List va_E) (v : Int32) : (hp_f G κ μ o rest).set 4 (.inr (6, [.int (κ.1 6), κ.2.2 1, .int (κ.1 7)].set 0 (.int v))) = hp_f G (kk_s κ 6 v) μ o rest := rfl
theorem hs_kr1 (G : ag_T) (κ : ck_T) (μ : cm_T) (o : Nat → Int64) (rest : List va_E) (v : Value) : (hp_f G κ μ o rest).set 4 (.inr (6, [.int (κ.1 6), κ.2.2 1, .int (κ.1 7)].set 1 v)) = hp_f G (kk_r κ 1 v) μ o rest := rfl
theorem hs_ks7 (G : ag_T) (κ : ck_T) (μ : cm_T) (o : Nat → Int64) (rest : List va_E) (v : Int32) : (hp_f G κ μ o rest).set 4 (.inr (6, [.int (κ.1 6), κ.2.2 1, .int (κ.1 7)].set 2 (.int v))) = hp_f G (kk_s κ 7 v) μ o rest := rfl
theorem hs_ks8 (G : ag_T) (κ : ck_T) (μ : cm_T) (o : Nat → Int64) (rest : List va_E) (v : Int32) : (hp_f G κ μ o rest).set 5 (.inr (6, [.int (κ.1 8), κ.2.2 2, .int (κ.1 9)].set 0 (.int v))) = hp_f G (kk_s κ 8 v) μ o rest := rfl
theorem hs_kr2 (G : ag_T) (κ : ck_T) (μ : cm_T) (o : Nat → Int64) (rest : List va_E) (v : Value) : (hp_f G κ μ o rest).set 5 (.inr (6, [.int (κ.1 8), κ.2.2 2, .int (κ.1 9)].set 1 v)) = hp_f G (kk_r κ 2 v) μ o rest := rfl
theorem hs_ks9 (G : ag_T) (κ : ck_T) (μ : cm_T) (o : Nat → Int64) (rest : List va_E) (v : Int32) : (hp_f G κ μ o rest).set 5 (.inr (6, [.int (κ.1 8), κ.2.2 2, .int (κ.1 9)].set 2 (.int v))) = hp_f G (kk_s κ 9 v) μ o rest := rfl
theorem hs_ks1 (G : ag_T) (κ : ck_T) (μ : cm_T) (o : Nat → Int64) (rest : List va_E) (v : Int32) : (hp_f G κ μ o rest).set 6 (.inr (2, [.ref (G.1 + 1), .ref (G.1 + 7), .ref (G.1 + 8), .int (κ.1 1), .int (κ.1 2)].set 3 (.int v))) = hp_f G (kk_s κ 1 v) μ o rest := rfl
theorem hs_ks2 (G : ag_T) (κ : ck_T) (μ : cm_T) (o : Nat → Int64) (rest : List va_E) (v : Int32) : (hp_f G κ μ o rest).set 6 (.inr (2, [.ref (G.1 + 1), .ref (G.1 + 7), .ref (G.1 + 8), .int (κ.1 1), .int (κ.1 2)].set 4 (.int v))) = hp_f G (kk_s κ 2 v) μ o rest := rfl
theorem hs_ka1 (G : ag_T) (κ : ck_T) (μ : cm_T) (o : Nat → Int64) (rest : List va_E) (j : Nat) (v : Int32) : (hp_f G κ μ o rest).set 7 (.inl (G.2.2.1 0, 4096, .inl (upd (κ.2.1 1) j v))) = hp_f G (kk_a κ 1 j v) μ o rest := rfl
theorem hs_ka2 (G : ag_T) (κ : ck_T) (μ : cm_T) (o : Nat → Int64) (rest : List va_E) (j : Nat) (v : Int32) : (hp_f G κ μ o rest).set 8 (.inl (G.2.2.1 0, 4096, .inl (upd (κ.2.1 2) j v))) = hp_f G (kk_a κ 2 j v) μ o rest := rfl
theorem hs_ka3 (G : ag_T) (κ : ck_T) (μ : cm_T) (o : Nat → Int64) (rest : List va_E) (j : Nat) (v : Int32) : (hp_f G κ μ o rest).set 9 (.inl (G.2.2.1 0, 5, .inl (upd (κ.2.1 3) j v))) = hp_f G (kk_a κ 3 j v) μ o rest := rfl
theorem hs_ka4 (G : ag_T) (κ : ck_T) (μ : cm_T) (o : Nat → Int64) (rest : List va_E) (j : Nat) (v : Int32) : (hp_f G κ μ o rest).set 10 (.inl (G.2.2.1 0, 6, .inl (upd (κ.2.1 4) j v))) = hp_f G (kk_a κ 4 j v) μ o rest := rfl
theorem hs_ka5 (G : ag_T) (κ : ck_T) (μ : cm_T) (o : Nat → Int64) (rest : List va_E) (j : Nat) (v : Int32) : (hp_f G κ μ o rest).set 11 (.inl (G.2.2.1 0, 4, .inl (upd (κ.2.1 5) j v))) = hp_f G (kk_a κ 5 j v) μ o rest := rfl
theorem hs_ka6 (G : ag_T) (κ : ck_T) (μ : cm_T) (o : Nat → Int64) (rest : List va_E) (j : Nat) (v : Int32) : (hp_f G κ μ o rest).set 12 (.inl (G.2.2.1 0, 4, .inl (upd (κ.2.1 6) j v))) = hp_f G (kk_a κ 6 j v) μ o rest := rfl
theorem hs_ms0 (G : ag_T) (κ : ck_T) (μ : cm_T) (o : Nat → Int64) (rest : List va_E) (v : Int32) : (hp_f G κ μ o rest).set 13 (.inr (5, [.int (μ.1 0), .int (μ.1 1), .int (μ.1 2), .ref (G.1 + 14), .ref (G.1 + 15), .ref (G.1 + 16), .ref (G.1 + 17), .ref (G.1 + 18), .ref (G.1 + 19), .ref (G.1 + 20), .ref (G.1 + 21), .ref (G.1 + 22), .ref (G.1 + 23), .int (μ.1 3), .ref (G.1 + 24), .ref (G.1 + 25), .ref (G.1 + 26), .ref (G.1 + 27), .ref (G.1 + 28), .ref (G.1 + 29), .ref (G.1 + 30), .ref (G.1 + 31), .int (μ.1 4), .int (μ.1 5)].set 0 (.int v))) = hp_f G κ (km_s μ 0 v) o rest := rfl
theorem hs_ms1 (G : ag_T) (κ : ck_T) (μ : cm_T) (o : Nat → Int64) (rest : List va_E) (v : Int32) : (hp_f G κ μ o rest).set 13 (.inr (5, [.int (μ.1 0), .int (μ.1 1), .int (μ.1 2), .ref (G.1 + 14), .ref (G.1 + 15), .ref (G.1 + 16), .ref (G.1 + 17), .ref (G.1 + 18), .ref (G.1 + 19), .ref (G.1 + 20), .ref (G.1 + 21), .ref (G.1 + 22), .ref (G.1 + 23), .int (μ.1 3), .ref (G.1 + 24), .ref (G.1 + 25), .ref (G.1 + 26), .ref (G.1 + 27), .ref (G.1 + 28), .ref (G.1 + 29), .ref (G.1 + 30), .ref (G.1 + 31), .int (μ.1 4), .int (μ.1 5)].set 1 (.int v))) = hp_f G κ (km_s μ 1 v) o rest := rfl
theorem hs_ms2 (G : ag_T) (κ : ck_T) (μ : cm_T) (o : Nat → Int64) (rest : List va_E) (v : Int32) : (hp_f G κ μ o rest).set 13 (.inr (5, [.int (μ.1 0), .int (μ.1 1), .int (μ.1 2), .ref (G.1 + 14), .ref (G.1 + 15), .ref (G.1 + 16), .ref (G.1 + 17), .ref (G.1 + 18), .ref (G.1 + 19), .ref (G.1 + 20), .ref (G.1 + 21), .ref (G.1 + 22), .ref (G.1 + 23), .int (μ.1 3), .ref (G.1 + 24), .ref (G.1 + 25), .ref (G.1 + 26), .ref (G.1 + 27), .ref (G.1 + 28), .ref (G.1 + 29), .ref (G.1 + 30), .ref (G.1 + 31), .int (μ.1 4), .int (μ.1 5)].set 2 (.int v))) = hp_f G κ (km_s μ 2 v) o rest := rfl
theorem hs_ms3 (G : ag_T) (κ : ck_T) (μ : cm_T) (o : Nat → Int64) (rest : List va_E) (v : Int32) : (hp_f G κ μ o rest).set 13 (.inr (5, [.int (μ.1 0), .int (μ.1 1), .int (μ.1 2), .ref (G.1 + 14), .ref (G.1 + 15), .ref (G.1 + 16), .ref (G.1 + 17), .ref (G.1 + 18), .ref (G.1 + 19), .ref (G.1 + 20), .ref (G.1 + 21), .ref (G.1 + 22), .ref (G.1 + 23), .int (μ.1 3), .ref (G.1 + 24), .ref (G.1 + 25), .ref (G.1 + 26), .ref (G.1 + 27), .ref (G.1 + 28), .ref (G.1 + 29), .ref (G.1 + 30), .ref (G.1 + 31), .int (μ.1 4), .int (μ.1 5)].set 13 (.int v))) = hp_f G κ (km_s μ 3 v) o rest := rfl
theorem hs_ms4 (G : ag_T) (κ : ck_T) (μ : cm_T) (o : Nat → Int64) (rest : List va_E) (v : Int32) : (hp_f G κ μ o rest).set 13 (.inr (5, [.int (μ.1 0), .int (μ.1 1), .int (μ.1 2), .ref (G.1 + 14), .ref (G.1 + 15), .ref (G.1 + 16), .ref (G.1 + 17), .ref (G.1 + 18), .ref (G.1 + 19), .ref (G.1 + 20), .ref (G.1 + 21), .ref (G.1 + 22), .ref (G.1 + 23), .int (μ.1 3), .ref (G.1 + 24), .ref (G.1 + 25), .ref (G.1 + 26), .ref (G.1 + 27), .ref (G.1 + 28), .ref (G.1 + 29), .ref (G.1 + 30), .ref (G.1 + 31), .int (μ.1 4), .int (μ.1 5)].set 22 (.int v))) = hp_f G κ (km_s μ 4 v) o rest := rfl
theorem hs_ms5 (G : ag_T) (κ : ck_T) (μ : cm_T) (o : Nat → Int64) (rest : List va_E) (v : Int32) : (hp_f G κ μ o rest).set 13 (.inr (5, [.int (μ.1 0), .int (μ.1 1), .int (μ.1 2), .ref (G.1 + 14), .ref (G.1 + 15), .ref (G.1 + 16), .ref (G.1 + 17), .ref (G.1 + 18), .ref (G.1 + 19), .ref (G.1 + 20), .ref (G.1 + 21), .ref (G.1 + 22), .ref (G.1 + 23), .int (μ.1 3), .ref (G.1 + 24), .ref (G.1 + 25), .ref (G.1 + 26), .ref (G.1 + 27), .ref (G.1 + 28), .ref (G.1 + 29), .ref (G.1 + 30), .ref (G.1 + 31), .int (μ.1 4), .int (μ.1 5)].set 23 (.int v))) = hp_f G κ (km_s μ 5 v) o rest := rfl
theorem hs_ma0 (G : ag_T) (κ : ck_T) (μ : cm_T) (o : Nat → Int64) (rest : List va_E) (j : Nat) (v : Int32) : (hp_f G κ μ o rest).set 14 (.inl (G.2.2.1 0, 6, .inl (upd (μ.2 0) j v))) = hp_f G κ (km_a μ 0 j v) o rest := rfl
theorem hs_ma1 (G : ag_T) (κ : ck_T) (μ : cm_T) (o : Nat → Int64) (rest : List va_E) (j : Nat) (v : Int32) : (hp_f G κ μ o rest).set 15 (.inl (G.2.2.1 0, 6, .inl (upd (μ.2 1) j v))) = hp_f G κ (km_a μ 1 j v) o rest := rfl
theorem hs_ma2 (G : ag_T) (κ : ck_T) (μ : cm_T) (o : Nat → Int64) (rest : List va_E) (j : Nat) (v : Int32) : (hp_f G κ μ o rest).set 16 (.inl (G.2.2.1 0, 6, .inl (upd (μ.2 2) j v))) = hp_f G κ (km_a μ 2 j v) o rest := rfl
theorem hs_ma3 (G : ag_T) (κ : ck_T) (μ : cm_T) (o : Nat → Int64) (rest : List va_E) (j : Nat) (v : Int32) : (hp_f G κ μ o rest).set 17 (.inl (G.2.2.1 0, 5, .inl (upd (μ.2 3) j v))) = hp_f G κ (km_a μ 3 j v) o rest := rfl
theorem hs_ma4 (G : ag_T) (κ : ck_T) (μ : cm_T) (o : Nat → Int64) (rest : List va_E) (j : Nat) (v : Int32) : (hp_f G κ μ o rest).set 18 (.inl (G.2.2.1 0, 2, .inl (upd (μ.2 4) j v))) = hp_f G κ (km_a μ 4 j v) o rest := rfl
theorem hs_ma5 (G : ag_T) (κ : ck_T) (μ : cm_T) (o : Nat → Int64) (rest : List va_E) (j : Nat) (v : Int32) : (hp_f G κ μ o rest).set 19 (.inl (G.2.2.1 0, 8, .inl (upd (μ.2 5) j v))) = hp_f G κ (km_a μ 5 j v) o rest := rfl
theorem hs_ma6 (G : ag_T) (κ : ck_T) (μ : cm_T) (o : Nat → Int64) (rest : List va_E) (j : Nat) (v : Int32) : (hp_f G κ μ o rest).set 20 (.inl (G.2.2.1 0, 8, .inl (upd (μ.2 6) j v))) = hp_f G κ (km_a μ 6 j v) o rest := rfl
theorem hs_ma7 (G : ag_T) (κ : ck_T) (μ : cm_T) (o : Nat → Int64) (rest : List va_E) (j : Nat) (v : Int32) : (hp_f G κ μ o rest).set 21 (.inl (G.2.2.1 1, 4, .inl (upd (μ.2 7) j v))) = hp_f G κ (km_a μ 7 j v) o rest := rfl
theorem hs_ma8 (G : ag_T) (κ : ck_T) (μ : cm_T) (o : Nat → Int64) (rest : List va_E) (j : Nat) (v : Int32) : (hp_f G κ μ o rest).set 22 (.inl (G.2.2.1 0, 4, .inl (upd (μ.2 8) j v))) = hp_f G κ (km_a μ 8 j v) o rest := rfl
theorem hs_ma9 (G : ag_T) (κ : ck_T) (μ : cm_T) (o : Nat → Int64) (rest : List va_E) (j : Nat) (v : Int32) : (hp_f G κ μ o rest).set 23 (.inl (G.2.2.1 0, 4, .inl (upd (μ.2 9) j v))) = hp_f G κ (km_a μ 9 j v) o rest := rfl
theorem hs_ma10 (G : ag_T) (κ : ck_T) (μ : cm_T) (o : Nat → Int64) (rest : List va_E) (j : Nat) (v : Int32) : (hp_f G κ μ o rest).set 24 (.inl (G.2.2.1 1, 8, .inl (upd (μ.2 10) j v))) = hp_f G κ (km_a μ 10 j v) o rest := rfl
theorem hs_ma11 (G : ag_T) (κ : ck_T) (μ : cm_T) (o : Nat → Int64) (rest : List va_E) (j : Nat) (v : Int32) : (hp_f G κ μ o rest).set 25 (.inl (G.2.2.1 0, 8, .inl (upd (μ.2 11) j v))) = hp_f G κ (km_a μ 11 j v) o rest := rfl
theorem hs_ma12 (G : ag_T) (κ : ck_T) (μ : cm_T) (o : Nat → Int64) (rest : List va_E) (j : Nat) (v : Int32) : (hp_f G κ μ o rest).set 26 (.inl (G.2.2.1 0, 8, .inl (upd (μ.2 12) j v))) = hp_f G κ (km_a μ 12 j v) o rest := rfl
theorem hs_ma13 (G : ag_T) (κ : ck_T) (μ : cm_T) (o : Nat → Int64) (rest : List va_E) (j : Nat) (v : Int32) : (hp_f G κ μ o rest).set 27 (.inl (G.2.2.1 0, 8, .inl (upd (μ.2 13) j v))) = hp_f G κ (km_a μ 13 j v) o rest := rfl
theorem hs_ma14 (G : ag_T) (κ : ck_T) (μ : cm_T) (o : Nat → Int64) (rest : List va_E) (j : Nat) (v : Int32) : (hp_f G κ μ o rest).set 28 (.inl (G.2.2.1 0, 8, .inl (upd (μ.2 14) j v))) = hp_f G κ (km_a μ 14 j v) o rest := rfl
theorem hs_ma15 (G : ag_T) (κ : ck_T) (μ : cm_T) (o : Nat → Int64) (rest : List va_E) (j : Nat) (v : Int32) : (hp_f G κ μ o rest).set 29 (.inl (G.2.2.1 0, 4096, .inl (upd (μ.2 15) j v))) = hp_f G κ (km_a μ 15 j v) o rest := rfl
theorem hs_ma16 (G : ag_T) (κ : ck_T) (μ : cm_T) (o : Nat → Int64) (rest : List va_E) (j : Nat) (v : Int32) : (hp_f G κ μ o rest).set 30 (.inl (G.2.2.1 1, 4096, .inl (upd (μ.2 16) j v))) = hp_f G κ (km_a μ 16 j v) o rest := rfl
theorem hs_ma17 (G : ag_T) (κ : ck_T) (μ : cm_T) (o : Nat → Int64) (rest : List va_E) (j : Nat) (v : Int32) : (hp_f G κ μ o rest).set 31 (.inl (G.2.2.1 0, 4096, .inl (upd (μ.2 17) j v))) = hp_f G κ (km_a μ 17 j v) o rest := rfl
theorem hs_o (G : ag_T) (κ : ck_T) (μ : cm_T) (o : Nat → Int64) (rest : List va_E) (f : Nat → Int64) : (hp_f G κ μ o rest).set 32 (.inl (G.2.2.1 2, 1, .inr (.inl f))) = hp_f G κ μ f rest := rfl
theorem hs_r (G : ag_T) (κ : ck_T) (μ : cm_T) (o : Nat → Int64) (rest : List va_E) (j : Nat) (c : va_E) : (hp_f G κ μ o rest).set (j + 33) c = hp_f G κ μ o (rest.set j c) := rfl
theorem hp_l (G : ag_T) (κ : ck_T) (μ : cm_T) (o : Nat → Int64) (rest : List va_E) : (hp_f G κ μ o rest).length = rest.length + 33 := rfl
theorem hp_g (G : ag_T) (κ : ck_T) (μ : cm_T) (o : Nat → Int64) (rest : List va_E) (j : Nat) : (hp_f G κ μ o rest)[j + 33]? = rest[j]? := rfl
theorem hp_a (G : ag_T) (κ : ck_T) (μ : cm_T) (o : Nat → Int64) (rest : List va_E) (c : va_E) : hp_f G κ μ o rest ++ [c] = hp_f G κ μ o (rest ++ [c]) := rfl
end
section
/-! ===== joins; how the reference's cells stand for sets, limits, rules, sessions ===== -/
section AWJ
variable {G : ag_T} {M : am_M} {fr lo kc ks pc : Nat} {lv : List (Nat × Value)} {st : List Value} {h : List va_E} {Q : aq_T}
theorem aw_join {tgt : Nat} {v : Int32} (k2 : aw_w G M fr lo kc ks tgt lv (.int v :: st) h Q) (k1 : aw_w G M fr lo kc ks tgt lv (.int v :: st) h Q → aw_w G M fr lo kc ks pc lv st h Q) : aw_w G M fr lo kc ks pc lv st h Q := k1 k2
theorem aw_le {fr' lo' kc' ks' : Nat} (k : aw_w G M fr' lo' kc' ks' pc lv st h Q) (hf9 : fr' ≤ fr) (hl9 : lo' ≤ lo) (hc : kc' ≤ kc) (hs : ks' ≤ ks) : aw_w G M fr lo kc ks pc lv st h Q := aw_room hf9 hl9 hc hs k
end AWJ
theorem zb_q0 (b : Bool) : (zb_i b = 0) = (b = false) := by cases b <;> simp [zb_i]
theorem zb_q1 (b : Bool) : (zb_i b = 1) = (b = true) := by cases b <;> simp [zb_i]
theorem zb_inj {a b : Bool} : zb_i a = zb_i b ↔ a = b := by cases a <;> cases b <;> simp [zb_i]
/-- the order and the closure; n roles -/
def rm_c (μ : cm_T) (n : Nat) (bel : Nat → Nat) : Prop := μ.1 1 = nI n ∧ n ≤ 6 ∧ (∀ r, r < 6 → μ.2 0 r = nI (bel r)) ∧ ∀ r, bel r < 64
/-- limits: kind k, from place off -/
def rm_l (μ : cm_T) (k off : Nat) (ls : pl_T) : Prop := μ.2 4 k = nI ls.length ∧ ls.length ≤ 4 ∧ ∀ i l, ls[i]? = some l → μ.2 5 (off + i) = nI l.1 ∧ μ.2 6 (off + i) = l.2 ∧ l.1 < 64
/-- users -/
def rm_u (μ : cm_T) (u : Nat) (asg : Nat → Nat) : Prop := μ.1 2 = nI u ∧ u ≤ 5 ∧ (∀ v, v < 5 → μ.2 3 v = nI (asg v)) ∧ ∀ v, asg v < 64
/-- rules -/
def rm_r (μ : cm_T) (rs : pr_T) : Prop := μ.1 3 = nI rs.length ∧ rs.length ≤ 8 ∧ ∀ i x, rs[i]? = some x → μ.2 10 i = zb_i x.1 ∧ μ.2 11 i = nI x.2.1 ∧ μ.2 12 i = nI x.2.2.1 ∧ μ.2 13 i = nI x.2.2.2.1 ∧ μ.2 14 i = nI x.2.2.2.2 ∧ x.2.1 < 6 ∧ x.2.2.1 < 64 ∧ x.2.2.2.1 < 64 ∧ x.2.2.2.2 < 6
theorem tk_1 {α : Type} {ls : List α} {k : Nat} {l : α} (h : ls[k]? = some l) : ls.take (k + 1) = ls.take k ++ [l] := by
  rw [List.take_add_one, h]; rfl
theorem tk_k {ls : pl_T} {k : Nat} {l : Nat × Int32} (h : ls[k]? = some l) (a : Nat) : pk_l (ls.take (k + 1)) a = (pk_l (ls.take k) a && pk_1 l a) := by
  unfold pk_l
  rw [tk_1 h, List.all_append]; simp
theorem tk_r {rs : pr_T} {k : Nat} {x : Bool × Nat × Nat × Nat × Nat} (h : rs[k]? = some x) (g : Bool) (a b r : Nat) : pr_l (rs.take (k + 1)) g a b r = (pr_l (rs.take k) g a b r || pr_1 x g a b r) := by
  unfold pr_l
  rw [tk_1 h, List.any_append]; simp
theorem tk_g {α : Type} {ls : List α} {k : Nat} (h : k < ls.length) : ∃ l, ls[k]? = some l := ⟨_, List.getElem?_eq_getElem h⟩
def pa_k (f : Nat → Bool) : Nat → Bool
  | 0 => true
  | v + 1 => pa_k f v && f v
theorem pa_ki (f : Nat → Bool) : ∀ n, pa_k f n = true ↔ ∀ v, v < n → f v = true
  | 0 => by simp [pa_k]
  | n + 1 => by
    unfold pa_k
    rw [Bool.and_eq_true, pa_ki f n]
    constructor
    · rintro ⟨h1, h2⟩ v hv
      by_cases e : v = n
      · subst e; exact h2
      · exact h1 v (by omega)
    · exact fun h => ⟨fun v hv => h v (by omega), h n (by omega)⟩
def pn_k (f : Nat → Bool) : Nat → Bool
  | 0 => false
  | v + 1 => pn_k f v || f v
/-- states of the search: the roles of one, of all; one step -/
def pi_r (n s v : Nat) : Nat := (s >>> (v * n)) &&& (2 ^ n - 1)
def pi_a (n : Nat) (cl : Nat → Nat) (s : Nat) : Nat → Nat
  | 0 => 0
  | x + 1 => pi_a n cl s x ||| cl (pi_r n s x)
def po_i : Option Nat → Int32
  | none => -1
  | some t => nI t
theorem pi_lt (n s v : Nat) (hn : n ≤ 6) : pi_r n s v < 64 := by
  unfold pi_r
  have h1 : 2 ^ n - 1 < 2 ^ n := Nat.sub_lt (Nat.two_pow_pos n) (by decide)
  have h2 : (2 : Nat) ^ n ≤ 2 ^ 6 := Nat.pow_le_pow_right (by decide) hn
  have h3 := Nat.and_lt_two_pow (s >>> (v * n)) h1
  omega
theorem pi_al {n : Nat} {cl : Nat → Nat} (hcl : ∀ s, s < 64 → cl s < 64) (hn : n ≤ 6) (s : Nat) : ∀ x, pi_a n cl s x < 64
  | 0 => by unfold pi_a; omega
  | x + 1 => by unfold pi_a; exact bt_or (n := 6) (pi_al hcl hn s x) (hcl _ (pi_lt n s x hn))
theorem pc_64 {bel : Nat → Nat} (hb : ∀ r, bel r < 64) {s : Nat} (hs : s < 64) (k : Nat) : pc_f bel s k < 64 := pc_lt (N := 6) hs hb k
/-- one step of the search: cl the closure, sl the static limits, rs the rules -/
def ps_s (n u : Nat) (cl : Nat → Nat) (sl : pl_T) (rs : pr_T) (s v r : Nat) (g : Bool) : Option Nat :=
  if (pi_r n s v).testBit r = g then none
  else if pr_l rs g (pi_a n cl s u) (cl (pi_r n s v)) r = false then none
  else if g = true ∧ pk_l sl (cl (pi_r n s v ||| 1 <<< r)) = false then none
  else some (s ^^^ 1 <<< (v * n + r))
end
section
/-! ===== calls by contracts that are relations ===== -/
def qe_i (P : Int32 → List va_E → Prop) : aq_T := fun o h' => ∃ w, o = .inl (some (.int w)) ∧ P w h'
def qe_r (P : Value → List va_E → Prop) : aq_T := fun o h' => ∃ w, o = .inl (some w) ∧ P w h'
def qe_v (P : List va_E → Prop) : aq_T := fun o h' => o = .inl none ∧ P h'
section AWE
variable {G : ag_T} {M : am_M} {fr lo kc ks pc : Nat} {lv : List (Nat × Value)} {st : List Value} {h : List va_E} {Q : aq_T}
theorem aw_cSe (Y : am_M) {idx fr' lo' kc1 ks1 : Nat} (kc' ks' : Nat) (as rest : List Value) {P : Int32 → List va_E → Prop} (hent : aw_w G Y fr' lo' kc1 ks1 0 (lv_args 0 as) [] h (qe_i P)) (hd : decode M.2.2.1 pc = .ok (.invokestatic idx, 3)) (hC : aw_cs M.1 idx Y) (hY : aw_my Y) (hp : aw_np Y as.length) (hst : st = as.reverse ++ rest) (hf9 : fr' + 1 ≤ fr) (hk1 : kc = kc1 + kc') (hk2 : ks = ks1 + ks') (hrest : (rest.map fun v => v.category).sum + (Y.2.2.2.1 + 11) + lo' ≤ lo) (hlen : (lg_sl as).length ≤ Y.2.2.2.1) (k : ∀ w h1, P w h1 → aw_w G M fr lo kc' ks' (pc + 3) lv (.int w :: rest) h1 Q) : aw_w G M fr lo kc ks pc lv st h Q :=
  aw_callS Y as rest hd hC hY hp hst hf9 hk1 hk2 hrest hlen hent (fun v9 h9 hq => by obtain ⟨w, e1, e2⟩ := hq; cases e1; exact k w h9 e2) (fun k9 c9 h9 hq => by obtain ⟨w, e1, e2⟩ := hq; cases e1)
theorem aw_cSg (Y : am_M) {idx fr' lo' kc1 ks1 : Nat} (kc' ks' : Nat) (as rest : List Value) {P : Value → List va_E → Prop} (hent : aw_w G Y fr' lo' kc1 ks1 0 (lv_args 0 as) [] h (qe_r P)) (hd : decode M.2.2.1 pc = .ok (.invokestatic idx, 3)) (hC : aw_cs M.1 idx Y) (hY : aw_my Y) (hp : aw_np Y as.length) (hst : st = as.reverse ++ rest) (hf9 : fr' + 1 ≤ fr) (hk1 : kc = kc1 + kc') (hk2 : ks = ks1 + ks') (hrest : (rest.map fun v => v.category).sum + (Y.2.2.2.1 + 11) + lo' ≤ lo) (hlen : (lg_sl as).length ≤ Y.2.2.2.1) (k : ∀ w h1, P w h1 → aw_w G M fr lo kc' ks' (pc + 3) lv (w :: rest) h1 Q) : aw_w G M fr lo kc ks pc lv st h Q :=
  aw_callS Y as rest hd hC hY hp hst hf9 hk1 hk2 hrest hlen hent (fun v9 h9 hq => by obtain ⟨w, e1, e2⟩ := hq; cases e1; exact k w h9 e2) (fun k9 c9 h9 hq => by obtain ⟨w, e1, e2⟩ := hq; cases e1)
theorem aw_cSf (Y : am_M) {idx fr' lo' kc1 ks1 : Nat} (kc' ks' : Nat) (as rest : List Value) {P : List va_E → Prop} (hent : aw_w G Y fr' lo' kc1 ks1 0 (lv_args 0 as) [] h (qe_v P)) (hd : decode M.2.2.1 pc = .ok (.invokestatic idx, 3)) (hC : aw_cs M.1 idx Y) (hY : aw_my Y) (hp : aw_np Y as.length) (hst : st = as.reverse ++ rest) (hf9 : fr' + 1 ≤ fr) (hk1 : kc = kc1 + kc') (hk2 : ks = ks1 + ks') (hrest : (rest.map fun v => v.category).sum + (Y.2.2.2.1 + 11) + lo' ≤ lo) (hlen : (lg_sl as).length ≤ Y.2.2.2.1) (k : ∀ h1, P h1 → aw_w G M fr lo kc' ks' (pc + 3) lv (rest) h1 Q) : aw_w G M fr lo kc ks pc lv st h Q :=
  aw_callS Y as rest hd hC hY hp hst hf9 hk1 hk2 hrest hlen hent (fun v9 h9 hq => by obtain ⟨e1, e2⟩ := hq; cases e1; exact k h9 e2) (fun k9 c9 h9 hq => by cases hq.1)
theorem aw_cNe (Y : am_M) {idx fr' lo' kc1 ks1 : Nat} (kc' ks' : Nat) (host : String) (as rest : List Value) {P : Int32 → List va_E → Prop} (hent : aw_w G Y fr' lo' kc1 ks1 0 (lv_args 0 as) [] h (qe_i P)) (hd : decode M.2.2.1 pc = .ok (.invokestatic idx, 3)) (hC : aw_cn M.1 idx host Y) (hY : aw_my Y) (hp : aw_np Y as.length) (hst : st = as.reverse ++ rest) (hf9 : fr' + 1 ≤ fr) (hk1 : kc = kc1 + kc') (hk2 : ks = ks1 + ks') (hrest : (rest.map fun v => v.category).sum + (Y.2.2.2.1 + 11) + lo' ≤ lo) (hlen : (lg_sl as).length ≤ Y.2.2.2.1) (k : ∀ w h1, P w h1 → aw_w G M fr lo kc' ks' (pc + 3) lv (.int w :: rest) h1 Q) : aw_w G M fr lo kc ks pc lv st h Q :=
  aw_callSN Y host as rest hd hC hY hp hst hf9 hk1 hk2 hrest hlen hent (fun v9 h9 hq => by obtain ⟨w, e1, e2⟩ := hq; cases e1; exact k w h9 e2) (fun k9 c9 h9 hq => by obtain ⟨w, e1, e2⟩ := hq; cases e1)
theorem aw_cNg (Y : am_M) {idx fr' lo' kc1 ks1 : Nat} (kc' ks' : Nat) (host : String) (as rest : List Value) {P : Value → List va_E → Prop} (hent : aw_w G Y fr' lo' kc1 ks1 0 (lv_args 0 as) [] h (qe_r P)) (hd : decode M.2.2.1 pc = .ok (.invokestatic idx, 3)) (hC : aw_cn M.1 idx host Y) (hY : aw_my Y) (hp : aw_np Y as.length) (hst : st = as.reverse ++ rest) (hf9 : fr' + 1 ≤ fr) (hk1 : kc = kc1 + kc') (hk2 : ks = ks1 + ks') (hrest : (rest.map fun v => v.category).sum + (Y.2.2.2.1 + 11) + lo' ≤ lo) (hlen : (lg_sl as).length ≤ Y.2.2.2.1) (k : ∀ w h1, P w h1 → aw_w G M fr lo kc' ks' (pc + 3) lv (w :: rest) h1 Q) : aw_w G M fr lo kc ks pc lv st h Q :=
  aw_callSN Y host as rest hd hC hY hp hst hf9 hk1 hk2 hrest hlen hent (fun v9 h9 hq => by obtain ⟨w, e1, e2⟩ := hq; cases e1; exact k w h9 e2) (fun k9 c9 h9 hq => by obtain ⟨w, e1, e2⟩ := hq; cases e1)
theorem aw_cNf (Y : am_M) {idx fr' lo' kc1 ks1 : Nat} (kc' ks' : Nat) (host : String) (as rest : List Value) {P : List va_E → Prop} (hent : aw_w G Y fr' lo' kc1 ks1 0 (lv_args 0 as) [] h (qe_v P)) (hd : decode M.2.2.1 pc = .ok (.invokestatic idx, 3)) (hC : aw_cn M.1 idx host Y) (hY : aw_my Y) (hp : aw_np Y as.length) (hst : st = as.reverse ++ rest) (hf9 : fr' + 1 ≤ fr) (hk1 : kc = kc1 + kc') (hk2 : ks = ks1 + ks') (hrest : (rest.map fun v => v.category).sum + (Y.2.2.2.1 + 11) + lo' ≤ lo) (hlen : (lg_sl as).length ≤ Y.2.2.2.1) (k : ∀ h1, P h1 → aw_w G M fr lo kc' ks' (pc + 3) lv (rest) h1 Q) : aw_w G M fr lo kc ks pc lv st h Q :=
  aw_callSN Y host as rest hd hC hY hp hst hf9 hk1 hk2 hrest hlen hent (fun v9 h9 hq => by obtain ⟨e1, e2⟩ := hq; cases e1; exact k h9 e2) (fun k9 c9 h9 hq => by cases hq.1)
theorem aw_cVe (Y : am_M) {idx fr' lo' kc1 ks1 : Nat} (kc' ks' : Nat) (i ci : Nat) (as rest : List Value) {fs : List Value} {P : Int32 → List va_E → Prop} (hent : aw_w G Y fr' lo' kc1 ks1 0 (lv_args 0 (.ref (G.1 + i) :: as)) [] h (qe_i P)) (hd : decode M.2.2.1 pc = .ok (.invokevirtual idx, 3)) (hC : aw_cv M.1 idx Y) (hY : aw_my Y) (hp : aw_np Y as.length) (hh : h[i]? = some (.inr (ci, fs))) (hci : (am_cl[ci]?).map (·.1) = some Y.2.1.cls) (hst : st = as.reverse ++ .ref (G.1 + i) :: rest) (hf9 : fr' + 1 ≤ fr) (hk1 : kc = kc1 + kc') (hk2 : ks = ks1 + ks') (hrest : (rest.map fun v => v.category).sum + (Y.2.2.2.1 + 11) + lo' ≤ lo) (hlen : (lg_sl (.ref (G.1 + i) :: as)).length ≤ Y.2.2.2.1) (k : ∀ w h1, P w h1 → aw_w G M fr lo kc' ks' (pc + 3) lv (.int w :: rest) h1 Q) : aw_w G M fr lo kc ks pc lv st h Q :=
  aw_callV Y i ci as rest hd hC hY hp hh hci hst hf9 hk1 hk2 hrest hlen hent (fun v9 h9 hq => by obtain ⟨w, e1, e2⟩ := hq; cases e1; exact k w h9 e2) (fun k9 c9 h9 hq => by obtain ⟨w, e1, e2⟩ := hq; cases e1)
theorem aw_cVg (Y : am_M) {idx fr' lo' kc1 ks1 : Nat} (kc' ks' : Nat) (i ci : Nat) (as rest : List Value) {fs : List Value} {P : Value → List va_E → Prop} (hent : aw_w G Y fr' lo' kc1 ks1 0 (lv_args 0 (.ref (G.1 + i) :: as)) [] h (qe_r P)) (hd : decode M.2.2.1 pc = .ok (.invokevirtual idx, 3)) (hC : aw_cv M.1 idx Y) (hY : aw_my Y) (hp : aw_np Y as.length) (hh : h[i]? = some (.inr (ci, fs))) (hci : (am_cl[ci]?).map (·.1) = some Y.2.1.cls) (hst : st = as.reverse ++ .ref (G.1 + i) :: rest) (hf9 : fr' + 1 ≤ fr) (hk1 : kc = kc1 + kc') (hk2 : ks = ks1 + ks') (hrest : (rest.map fun v => v.category).sum + (Y.2.2.2.1 + 11) + lo' ≤ lo) (hlen : (lg_sl (.ref (G.1 + i) :: as)).length ≤ Y.2.2.2.1) (k : ∀ w h1, P w h1 → aw_w G M fr lo kc' ks' (pc + 3) lv (w :: rest) h1 Q) : aw_w G M fr lo kc ks pc lv st h Q :=
  aw_callV Y i ci as rest hd hC hY hp hh hci hst hf9 hk1 hk2 hrest hlen hent (fun v9 h9 hq => by obtain ⟨w, e1, e2⟩ := hq; cases e1; exact k w h9 e2) (fun k9 c9 h9 hq => by obtain ⟨w, e1, e2⟩ := hq; cases e1)
theorem aw_cVf (Y : am_M) {idx fr' lo' kc1 ks1 : Nat} (kc' ks' : Nat) (i ci : Nat) (as rest : List Value) {fs : List Value} {P : List va_E → Prop} (hent : aw_w G Y fr' lo' kc1 ks1 0 (lv_args 0 (.ref (G.1 + i) :: as)) [] h (qe_v P)) (hd : decode M.2.2.1 pc = .ok (.invokevirtual idx, 3)) (hC : aw_cv M.1 idx Y) (hY : aw_my Y) (hp : aw_np Y as.length) (hh : h[i]? = some (.inr (ci, fs))) (hci : (am_cl[ci]?).map (·.1) = some Y.2.1.cls) (hst : st = as.reverse ++ .ref (G.1 + i) :: rest) (hf9 : fr' + 1 ≤ fr) (hk1 : kc = kc1 + kc') (hk2 : ks = ks1 + ks') (hrest : (rest.map fun v => v.category).sum + (Y.2.2.2.1 + 11) + lo' ≤ lo) (hlen : (lg_sl (.ref (G.1 + i) :: as)).length ≤ Y.2.2.2.1) (k : ∀ h1, P h1 → aw_w G M fr lo kc' ks' (pc + 3) lv (rest) h1 Q) : aw_w G M fr lo kc ks pc lv st h Q :=
  aw_callV Y i ci as rest hd hC hY hp hh hci hst hf9 hk1 hk2 hrest hlen hent (fun v9 h9 hq => by obtain ⟨e1, e2⟩ := hq; cases e1; exact k h9 e2) (fun k9 c9 h9 hq => by cases hq.1)
theorem aw_cIf (Y : am_M) {idx fr' lo' kc1 ks1 : Nat} (kc' ks' : Nat) (i : Nat) (as rest : List Value) {P : List va_E → Prop} (hent : aw_w G Y fr' lo' kc1 ks1 0 (lv_args 0 (.ref (G.1 + i) :: as)) [] h (qe_v P)) (hd : decode M.2.2.1 pc = .ok (.invokespecial idx, 3)) (hC : aw_ci M.1 idx Y) (hY : aw_my Y) (hp : aw_np Y as.length) (hst : st = as.reverse ++ .ref (G.1 + i) :: rest) (hf9 : fr' + 1 ≤ fr) (hk1 : kc = kc1 + kc') (hk2 : ks = ks1 + ks') (hrest : (rest.map fun v => v.category).sum + (Y.2.2.2.1 + 11) + lo' ≤ lo) (hlen : (lg_sl (.ref (G.1 + i) :: as)).length ≤ Y.2.2.2.1) (k : ∀ h1, P h1 → aw_w G M fr lo kc' ks' (pc + 3) lv (rest) h1 Q) : aw_w G M fr lo kc ks pc lv st h Q :=
  aw_callI Y i as rest hd hC hY hp hst hf9 hk1 hk2 hrest hlen hent (fun v9 h9 hq => by obtain ⟨e1, e2⟩ := hq; cases e1; exact k h9 e2) (fun k9 c9 h9 hq => by cases hq.1)
end AWE
end
section
/-! ===== the calls in themselves: state and answer (fault, value, state after) ===== -/
/-- (roles, users), below, granted, assigned, static limits, dynamic limits, rules, users of sessions, their active roles -/
abbrev aa_T : Type := (Nat × Nat) × (Nat → Nat) × (Nat → Nat) × (Nat → Nat) × pl_T × pl_T × pr_T × (Nat → Option Nat) × (Nat → Nat)
abbrev ar_T : Type := Int32 × Int32 × aa_T
abbrev ga_n (A : aa_T) : Nat := A.1.1
abbrev ga_u (A : aa_T) : Nat := A.1.2
abbrev ga_b (A : aa_T) : Nat → Nat := A.2.1
abbrev ga_g (A : aa_T) : Nat → Nat := A.2.2.1
abbrev ga_a (A : aa_T) : Nat → Nat := A.2.2.2.1
abbrev ga_s (A : aa_T) : pl_T := A.2.2.2.2.1
abbrev ga_d (A : aa_T) : pl_T := A.2.2.2.2.2.1
abbrev ga_r (A : aa_T) : pr_T := A.2.2.2.2.2.2.1
abbrev ga_o (A : aa_T) : Nat → Option Nat := A.2.2.2.2.2.2.2.1
abbrev ga_c (A : aa_T) : Nat → Nat := A.2.2.2.2.2.2.2.2
abbrev sa_n (A : aa_T) (x : Nat) : aa_T := ((x, A.1.2), A.2)
abbrev sa_u (A : aa_T) (x : Nat) : aa_T := ((A.1.1, x), A.2)
abbrev sa_b (A : aa_T) (x : Nat → Nat) : aa_T := (A.1, x, A.2.2)
abbrev sa_g (A : aa_T) (x : Nat → Nat) : aa_T := (A.1, A.2.1, x, A.2.2.2)
abbrev sa_a (A : aa_T) (x : Nat → Nat) : aa_T := (A.1, A.2.1, A.2.2.1, x, A.2.2.2.2)
abbrev sa_s (A : aa_T) (x : pl_T) : aa_T := (A.1, A.2.1, A.2.2.1, A.2.2.2.1, x, A.2.2.2.2.2)
abbrev sa_d (A : aa_T) (x : pl_T) : aa_T := (A.1, A.2.1, A.2.2.1, A.2.2.2.1, A.2.2.2.2.1, x, A.2.2.2.2.2.2)
abbrev sa_r (A : aa_T) (x : pr_T) : aa_T := (A.1, A.2.1, A.2.2.1, A.2.2.2.1, A.2.2.2.2.1, A.2.2.2.2.2.1, x, A.2.2.2.2.2.2.2)
abbrev sa_o (A : aa_T) (x : Nat → Option Nat) (y : Nat → Nat) : aa_T := (A.1, A.2.1, A.2.2.1, A.2.2.2.1, A.2.2.2.2.1, A.2.2.2.2.2.1, A.2.2.2.2.2.2.1, x, y)
/-- the closure of a set -/
abbrev ga_l (A : aa_T) (s : Nat) : Nat := pc_f (ga_b A) s (ga_n A)
def iN (x : Int32) : Nat := x.toNatClampNeg
theorem iN_n {j : Nat} (h : j < 2 ^ 31) : iN (nI j) = j := nI_clamp h
def rb_i (n : Nat) (r : Int32) : Bool := decide (¬ r < 0 ∧ ¬ nI n ≤ r)
theorem rb_n {n : Nat} {r : Int32} (hn : n < 2 ^ 31) (h : rb_i n r = true) : ∃ j, j < n ∧ r = nI j := by
  unfold rb_i at h
  rw [decide_eq_true_iff] at h
  obtain ⟨j, h1, rfl⟩ := nI_of h.1
  exact ⟨j, Nat.lt_of_not_le fun h9 => h.2 (nI_le h9 h1), rfl⟩
theorem rb_t {n j : Nat} (hn : n < 2 ^ 31) (h : j < n) : rb_i n (nI j) = true := by
  unfold rb_i
  rw [decide_eq_true_iff]
  exact ⟨nI_pos (by omega), nI_ge h hn⟩
def se_i (A : aa_T) (s : Int32) : Bool := decide (¬ s < 0 ∧ ¬ 4 ≤ s) && (ga_o A (iN s)).isSome
def up_f {α : Type} (f : Nat → α) (k : Nat) (v : α) : Nat → α := fun i => if i = k then v else f i
def ab_role (A : aa_T) : ar_T := if ga_n A < 6 then (0, nI (ga_n A), sa_n A (ga_n A + 1)) else (1, 0, A)
def ab_user (A : aa_T) : ar_T := if ga_u A < 5 then (0, nI (ga_u A), sa_u A (ga_u A + 1)) else (1, 0, A)
def pb_u (n : Nat) (bel : Nat → Nat) (a b : Nat) : Nat → Nat := fun r => if r < n ∧ (r = a ∨ (bel r).testBit a = true) then (bel r ||| 1 <<< b) ||| bel b else bel r
def ab_above (A : aa_T) (x y : Int32) : ar_T :=
  if (rb_i (ga_n A) x && rb_i (ga_n A) y) = false then (1, 0, A)
  else if (decide (¬ x = y) && !(ga_b A (iN y)).testBit (iN x)) = false then (2, 0, A)
  else if pa_k (fun v => pk_l (ga_s A) (pc_f (pb_u (ga_n A) (ga_b A) (iN x) (iN y)) (ga_a A v) (ga_n A))) (ga_u A) = false then (3, 0, A)
  else (0, zb_i (!(ga_b A (iN x)).testBit (iN y)), sa_b A (pb_u (ga_n A) (ga_b A) (iN x) (iN y)))
def pm_i (p : Int32) : Bool := decide (¬ p < 0 ∧ ¬ 30 < p)
theorem pm_n {p : Int32} (h : pm_i p = true) : ∃ q, q < 31 ∧ p = nI q := by
  unfold pm_i at h
  rw [decide_eq_true_iff] at h
  obtain ⟨j, h1, rfl⟩ := nI_of h.1
  exact ⟨j, Nat.lt_of_not_le fun h9 => h.2 (nI_lt (a := 30) (by omega) h1), rfl⟩
def ab_grant (A : aa_T) (r p : Int32) : ar_T :=
  if (rb_i (ga_n A) r && pm_i p) = false then (1, 0, A)
  else (0, zb_i (!(ga_g A (iN r)).testBit (iN p)), sa_g A (up_f (ga_g A) (iN r) (ga_g A (iN r) ||| 1 <<< iN p)))
def st_i (s : Int32) : Bool := decide (¬ s < 0 ∧ ¬ 63 < s)
theorem st_n {p : Int32} (h : st_i p = true) : ∃ q, q < 64 ∧ p = nI q := by
  unfold st_i at h
  rw [decide_eq_true_iff] at h
  obtain ⟨j, h1, rfl⟩ := nI_of h.1
  exact ⟨j, Nat.lt_of_not_le fun h9 => h.2 (nI_lt (a := 63) (by omega) h1), rfl⟩
def ab_limit (A : aa_T) (d : Bool) (s m : Int32) : ar_T :=
  if (decide (¬ m < 2) && st_i s) = false then (1, 0, A)
  else if ¬ (if d then ga_d A else ga_s A).length < 4 then (2, 0, A)
  else if d = true then
    if pa_k (fun i => !(ga_o A i).isSome || pk_l (ga_d A ++ [(iN s, m)]) (ga_c A i)) 4 = true then (0, 0, sa_d A (ga_d A ++ [(iN s, m)])) else (2, 0, A)
  else if pa_k (fun v => pk_l (ga_s A ++ [(iN s, m)]) (ga_l A (ga_a A v))) (ga_u A) = true then (0, 0, sa_s A (ga_s A ++ [(iN s, m)])) else (2, 0, A)
def ab_addRule (A : aa_T) (x : Bool × Nat × Nat × Nat × Nat) : ar_T := (0, nI (ga_r A).length, sa_r A (ga_r A ++ [x]))
def ab_giveRule (A : aa_T) (a w x r : Int32) : ar_T :=
  if (rb_i (ga_n A) a && rb_i (ga_n A) r) = false then (1, 0, A)
  else if (st_i w && st_i x) = false then (2, 0, A)
  else if ¬ (ga_r A).length < 8 then (3, 0, A)
  else ab_addRule A (true, iN a, iN w, iN x, iN r)
def ab_takeRule (A : aa_T) (a r : Int32) : ar_T :=
  if (rb_i (ga_n A) a && rb_i (ga_n A) r) = false then (1, 0, A)
  else if ¬ (ga_r A).length < 8 then (2, 0, A)
  else ab_addRule A (false, iN a, 0, 0, iN r)
def ab_put (A : aa_T) (j k : Nat) (f : Int32) : ar_T :=
  if pk_l (ga_s A) (ga_l A (ga_a A j ||| 1 <<< k)) = false then (f, 0, A)
  else (0, zb_i (decide (¬ ga_a A j ||| 1 <<< k = ga_a A j)), sa_a A (up_f (ga_a A) j (ga_a A j ||| 1 <<< k)))
def ab_cut (A : aa_T) (j k : Nat) : aa_T :=
  sa_o (sa_a A (up_f (ga_a A) j (bt_c (ga_a A j) k))) (ga_o A) (fun s => if ga_o A s = some j then ga_c A s &&& ga_l A (bt_c (ga_a A j) k) else ga_c A s)
def ab_drop (A : aa_T) (j k : Nat) : ar_T := (0, zb_i ((ga_a A j).testBit k), ab_cut A j k)
def ab_assign (A : aa_T) (v r : Int32) : ar_T := if (rb_i (ga_u A) v && rb_i (ga_n A) r) = false then (1, 0, A) else ab_put A (iN v) (iN r) 2
def ab_remove (A : aa_T) (v r : Int32) : ar_T := if (rb_i (ga_u A) v && rb_i (ga_n A) r) = false then (1, 0, A) else ab_drop A (iN v) (iN r)
def ab_give (A : aa_T) (x v r : Int32) : ar_T :=
  if (rb_i (ga_u A) x && rb_i (ga_u A) v && rb_i (ga_n A) r) = false then (1, 0, A)
  else if pr_l (ga_r A) true (ga_l A (ga_a A (iN x))) (ga_l A (ga_a A (iN v))) (iN r) = false then (2, 0, A)
  else ab_put A (iN v) (iN r) 3
def ab_take (A : aa_T) (x v r : Int32) : ar_T :=
  if (rb_i (ga_u A) x && rb_i (ga_u A) v && rb_i (ga_n A) r) = false then (1, 0, A)
  else if pr_l (ga_r A) false (ga_l A (ga_a A (iN x))) (ga_l A (ga_a A (iN v))) (iN r) = false then (2, 0, A)
  else ab_drop A (iN v) (iN r)
def ab_roles (A : aa_T) (v : Int32) (d : Bool) : ar_T := if rb_i (ga_u A) v = false then (1, 0, A) else (0, nI (if d = true then ga_l A (ga_a A (iN v)) else ga_a A (iN v)), A)
def ab_free (so : Nat → Option Nat) : Nat := if so 0 = none then 0 else if so 1 = none then 1 else if so 2 = none then 2 else if so 3 = none then 3 else 4
def ab_open (A : aa_T) (v : Int32) : ar_T :=
  if rb_i (ga_u A) v = false then (1, 0, A)
  else if ¬ ab_free (ga_o A) < 4 then (2, 0, A)
  else (0, nI (ab_free (ga_o A)), sa_o A (up_f (ga_o A) (ab_free (ga_o A)) (some (iN v))) (up_f (ga_c A) (ab_free (ga_o A)) 0))
def ab_close (A : aa_T) (s : Int32) : ar_T := if se_i A s = false then (1, 0, A) else (0, 0, sa_o A (up_f (ga_o A) (iN s) none) (up_f (ga_c A) (iN s) 0))
def ga_w (A : aa_T) (s : Nat) : Nat := (ga_o A s).getD 0
def ab_activate (A : aa_T) (s r : Int32) : ar_T :=
  if (se_i A s && rb_i (ga_n A) r) = false then (1, 0, A)
  else if (ga_l A (ga_a A (ga_w A (iN s)))).testBit (iN r) = false then (2, 0, A)
  else if pk_l (ga_d A) (ga_c A (iN s) ||| 1 <<< iN r) = false then (3, 0, A)
  else (0, zb_i (decide (¬ ga_c A (iN s) ||| 1 <<< iN r = ga_c A (iN s))), sa_o A (ga_o A) (up_f (ga_c A) (iN s) (ga_c A (iN s) ||| 1 <<< iN r)))
def ab_rest (A : aa_T) (s r : Int32) : ar_T :=
  if (se_i A s && rb_i (ga_n A) r) = false then (1, 0, A)
  else (0, zb_i ((ga_c A (iN s)).testBit (iN r)), sa_o A (ga_o A) (up_f (ga_c A) (iN s) (bt_c (ga_c A (iN s)) (iN r))))
def ab_active (A : aa_T) (s : Int32) : ar_T := if se_i A s = false then (1, 0, A) else (0, nI (ga_c A (iN s)), A)
def ab_may (A : aa_T) (s p : Int32) : ar_T :=
  if (se_i A s && pm_i p) = false then (1, 0, A)
  else (0, zb_i (pn_k (fun r => (ga_l A (ga_c A (iN s))).testBit r && (ga_g A r).testBit (iN p)) (ga_n A)), A)
/-- what holds of the state always -/
def wa_W (A : aa_T) : Prop :=
  (∀ r, ga_n A ≤ r → ga_b A r = 0 ∧ ga_g A r = 0) ∧ (∀ v, ga_u A ≤ v → ga_a A v = 0) ∧ (∀ r, bt_s (ga_b A r) (2 ^ ga_n A - 1)) ∧ (∀ v, bt_s (ga_a A v) (2 ^ ga_n A - 1))
  ∧ (∀ r i, (ga_b A r).testBit i = true → bt_s (ga_b A i) (ga_b A r))
  ∧ (∀ v, v < ga_u A → pk_l (ga_s A) (ga_l A (ga_a A v)) = true)
  ∧ (∀ s, s < 4 → pk_l (ga_d A) (ga_c A s) = true)
  ∧ (∀ s, (ga_o A s = none → ga_c A s = 0) ∧ ∀ v, ga_o A s = some v → v < ga_u A ∧ bt_s (ga_c A s) (ga_l A (ga_a A v)))
  ∧ (∀ l ∈ ga_d A, ¬ l.2 < 2)
/-- how the reference's cells stand for it -/
def rm_g (μ : cm_T) (gr : Nat → Nat) : Prop := (∀ r, r < 6 → μ.2 1 r = nI (gr r)) ∧ ∀ r, gr r < 2 ^ 31
def rm_s (μ : cm_T) (so : Nat → Option Nat) (sa : Nat → Nat) : Prop := (∀ s, s < 4 → μ.2 7 s = zb_i (so s).isSome ∧ ∀ v, so s = some v → μ.2 8 s = nI v ∧ v < 5 ∧ μ.2 9 s = nI (sa s)) ∧ ∀ s, sa s < 64
def rm_R (μ : cm_T) (A : aa_T) : Prop := rm_c μ (ga_n A) (ga_b A) ∧ rm_g μ (ga_g A) ∧ rm_u μ (ga_u A) (ga_a A) ∧ rm_l μ 0 0 (ga_s A) ∧ rm_l μ 1 4 (ga_d A) ∧ rm_r μ (ga_r A) ∧ rm_s μ (ga_o A) (ga_c A)
def qm_P (G : ag_T) (κ : ck_T) (o : Nat → Int64) (rest : List va_E) (z : ar_T) (h' : List va_E) : Prop := ∃ μ', h' = hp_f G κ μ' o rest ∧ rm_R μ' z.2.2 ∧ μ'.1 0 = z.1
def qm_R (G : ag_T) (κ : ck_T) (o : Nat → Int64) (rest : List va_E) (z : ar_T) : aq_T := qe_i fun w h' => (z.1 = 0 → w = z.2.1) ∧ qm_P G κ o rest z h'
def qm_V (G : ag_T) (κ : ck_T) (o : Nat → Int64) (rest : List va_E) (z : ar_T) : aq_T := qe_v fun h' => qm_P G κ o rest z h'
def qm_B (G : ag_T) (κ : ck_T) (o : Nat → Int64) (rest : List va_E) (z : ar_T) : aq_T := qe_i fun w h' => (z.1 = 0 → w = z.2.1) ∧ (w = 0 ∨ w = 1) ∧ qm_P G κ o rest z h'
end
section
/-! ===== the reference: helpers ===== -/
theorem wc_mo_thrown (G : ag_T) (κ : ck_T) (μ : cm_T) (o : Nat → Int64) (rest : List va_E) : aw_w G mm_mo_thrown 0 0 0 0 0 (lv_args 0 [.ref (G.1 + 13)]) [] (hp_f G κ μ o rest) (q_i (μ.1 0) (hp_f G κ μ o rest)) := by
  refine aw_aload_n dd_mo_thrown_0 rfl 0 rfl ?_
  refine aw_getf _ 5 0 dd_mo_thrown_1 fl_mo_65 rfl rfl ?_
  exact aw_iret dd_mo_thrown_4 rfl ⟨rfl, rfl⟩
theorem wc_mo_when (G : ag_T) (κ : ck_T) (μ : cm_T) (o : Nat → Int64) (rest : List va_E) (b : Bool) (n : Int32) : aw_w G mm_mo_when 0 0 0 0 0 (lv_args 0 [.ref (G.1 + 13), .int (zb_i b), .int n]) [] (hp_f G κ μ o rest) (q_i (zb_i b) (hp_f G κ (km_s μ 0 (if b then 0 else n)) o rest)) := by
  refine aw_aload_n dd_mo_when_0 rfl 0 rfl ?_
  refine aw_iload_n dd_mo_when_1 rfl 1 rfl ?_
  refine aw_if_eq (tgt := 9) dd_mo_when_2 (by decide) (fun hc => ?_) (fun hc => ?_)
  · have hb := zb_e0 hc
    subst hb
    refine aw_iload_n dd_mo_when_9 rfl 2 rfl ?_
    refine aw_putf _ 5 0 dd_mo_when_10 fl_mo_65 nf_mo_0 rfl (rfl) (rfl) (Nat.le_of_ble_eq_true rfl) ?_
    refine aw_h (hs_ms0 G _ _ _ _ _) ?_
    refine aw_iload_n dd_mo_when_13 rfl 1 rfl ?_
    exact aw_zret dd_mo_when_14 rfl (zb_01 _) ⟨rfl, rfl⟩
  · have hb := zb_n0 hc
    subst hb
    refine aw_iconst (v := 0) dd_mo_when_5 (by decide) ?_
    refine aw_goto (tgt := 10) dd_mo_when_6 (by decide) ?_
    refine aw_putf _ 5 0 dd_mo_when_10 fl_mo_65 nf_mo_0 rfl (rfl) (rfl) (Nat.le_of_ble_eq_true rfl) ?_
    refine aw_h (hs_ms0 G _ _ _ _ _) ?_
    refine aw_iload_n dd_mo_when_13 rfl 1 rfl ?_
    exact aw_zret dd_mo_when_14 rfl (zb_01 _) ⟨rfl, rfl⟩
theorem wc_mo_isRole (G : ag_T) (κ : ck_T) (μ : cm_T) (o : Nat → Int64) (rest : List va_E) {n : Nat} (hn : μ.1 1 = nI n) (r : Int32) : aw_w G mm_mo_isRole 0 0 0 0 0 (lv_args 0 [.ref (G.1 + 13), .int r]) [] (hp_f G κ μ o rest) (q_i (zb_i (rb_i n r)) (hp_f G κ μ o rest)) := by
  unfold rb_i
  rw [← hn]
  clear hn
  refine aw_iload_n dd_mo_isRole_0 rfl 1 rfl ?_
  refine aw_if_lt (tgt := 16) dd_mo_isRole_1 (by decide) (fun h1 => ?_) (fun h1 => ?_)
  · refine aw_iconst (v := 0) dd_mo_isRole_16 (by decide) ?_
    exact aw_zret dd_mo_isRole_17 rfl (by first | exact Or.inl rfl | exact Or.inr rfl) ⟨by simp [zb_i, *], rfl⟩
  · refine aw_iload_n dd_mo_isRole_4 rfl 1 rfl ?_
    refine aw_aload_n dd_mo_isRole_5 rfl 0 rfl ?_
    refine aw_getf _ 5 1 dd_mo_isRole_6 fl_mo_69 rfl rfl ?_
    refine aw_icmp_ge (tgt := 16) dd_mo_isRole_9 (by decide) (fun h2 => ?_) (fun h2 => ?_)
    · refine aw_iconst (v := 0) dd_mo_isRole_16 (by decide) ?_
      exact aw_zret dd_mo_isRole_17 rfl (by first | exact Or.inl rfl | exact Or.inr rfl) ⟨by simp [zb_i, *], rfl⟩
    · refine aw_iconst (v := 1) dd_mo_isRole_12 (by decide) ?_
      refine aw_goto (tgt := 17) dd_mo_isRole_13 (by decide) ?_
      exact aw_zret dd_mo_isRole_17 rfl (by first | exact Or.inl rfl | exact Or.inr rfl) ⟨by simp [zb_i, *], rfl⟩
theorem wc_mo_isUser (G : ag_T) (κ : ck_T) (μ : cm_T) (o : Nat → Int64) (rest : List va_E) {n : Nat} (hn : μ.1 2 = nI n) (r : Int32) : aw_w G mm_mo_isUser 0 0 0 0 0 (lv_args 0 [.ref (G.1 + 13), .int r]) [] (hp_f G κ μ o rest) (q_i (zb_i (rb_i n r)) (hp_f G κ μ o rest)) := by
  unfold rb_i
  rw [← hn]
  clear hn
  refine aw_iload_n dd_mo_isUser_0 rfl 1 rfl ?_
  refine aw_if_lt (tgt := 16) dd_mo_isUser_1 (by decide) (fun h1 => ?_) (fun h1 => ?_)
  · refine aw_iconst (v := 0) dd_mo_isUser_16 (by decide) ?_
    exact aw_zret dd_mo_isUser_17 rfl (by first | exact Or.inl rfl | exact Or.inr rfl) ⟨by simp [zb_i, *], rfl⟩
  · refine aw_iload_n dd_mo_isUser_4 rfl 1 rfl ?_
    refine aw_aload_n dd_mo_isUser_5 rfl 0 rfl ?_
    refine aw_getf _ 5 2 dd_mo_isUser_6 fl_mo_72 rfl rfl ?_
    refine aw_icmp_ge (tgt := 16) dd_mo_isUser_9 (by decide) (fun h2 => ?_) (fun h2 => ?_)
    · refine aw_iconst (v := 0) dd_mo_isUser_16 (by decide) ?_
      exact aw_zret dd_mo_isUser_17 rfl (by first | exact Or.inl rfl | exact Or.inr rfl) ⟨by simp [zb_i, *], rfl⟩
    · refine aw_iconst (v := 1) dd_mo_isUser_12 (by decide) ?_
      refine aw_goto (tgt := 17) dd_mo_isUser_13 (by decide) ?_
      exact aw_zret dd_mo_isUser_17 rfl (by first | exact Or.inl rfl | exact Or.inr rfl) ⟨by simp [zb_i, *], rfl⟩
theorem wc_mo_isSet (G : ag_T) (h : List va_E) (s : Int32) : aw_w G mm_mo_isSet 0 0 0 0 0 (lv_args 0 [.int s]) [] h (q_i (zb_i (st_i s)) h) := by
  unfold st_i
  refine aw_iload_n dd_mo_isSet_0 rfl 0 rfl ?_
  refine aw_if_lt (tgt := 14) dd_mo_isSet_1 (by decide) (fun h1 => ?_) (fun h1 => ?_)
  · refine aw_iconst (v := 0) dd_mo_isSet_14 (by decide) ?_
    exact aw_zret dd_mo_isSet_15 rfl (by first | exact Or.inl rfl | exact Or.inr rfl) ⟨by simp [zb_i, *], rfl⟩
  · refine aw_iload_n dd_mo_isSet_4 rfl 0 rfl ?_
    refine aw_bipush (v := 63) dd_mo_isSet_5 (by decide) ?_
    refine aw_icmp_gt (tgt := 14) dd_mo_isSet_7 (by decide) (fun h2 => ?_) (fun h2 => ?_)
    · refine aw_iconst (v := 0) dd_mo_isSet_14 (by decide) ?_
      exact aw_zret dd_mo_isSet_15 rfl (by first | exact Or.inl rfl | exact Or.inr rfl) ⟨by simp [zb_i, *], rfl⟩
    · refine aw_iconst (v := 1) dd_mo_isSet_10 (by decide) ?_
      refine aw_goto (tgt := 15) dd_mo_isSet_11 (by decide) ?_
      exact aw_zret dd_mo_isSet_15 rfl (by first | exact Or.inl rfl | exact Or.inr rfl) ⟨by simp [zb_i, *], rfl⟩
theorem se_n {s : Int32} (h1 : ¬ s < 0) (h2 : ¬ 4 ≤ s) : ∃ j, j < 4 ∧ s = nI j := by
  obtain ⟨j, h3, rfl⟩ := nI_of h1
  exact ⟨j, Nat.lt_of_not_le fun h9 => h2 (nI_le (a := 4) h9 h3), rfl⟩
theorem wc_mo_isSession (G : ag_T) (κ : ck_T) (μ : cm_T) (o : Nat → Int64) (rest : List va_E) {A : aa_T} (hS : rm_s μ (ga_o A) (ga_c A)) (s : Int32) : aw_w G mm_mo_isSession 0 0 0 0 0 (lv_args 0 [.ref (G.1 + 13), .int s]) [] (hp_f G κ μ o rest) (q_i (zb_i (se_i A s)) (hp_f G κ μ o rest)) := by
  unfold se_i
  refine aw_iload_n dd_mo_isSession_0 rfl 1 rfl ?_
  refine aw_if_lt (tgt := 22) dd_mo_isSession_1 (by decide) (fun h1 => ?_) (fun h1 => ?_)
  · refine aw_iconst (v := 0) dd_mo_isSession_22 (by decide) ?_
    exact aw_zret dd_mo_isSession_23 rfl (by first | exact Or.inl rfl | exact Or.inr rfl) ⟨by first | (have e1 := iN_n (j := j) (by omega); simp only [zb_q0] at h3; rw [e1]; simp_all [zb_i]; done) | simp [zb_i, *], rfl⟩
  · refine aw_iload_n dd_mo_isSession_4 rfl 1 rfl ?_
    refine aw_iconst (v := 4) dd_mo_isSession_5 (by decide) ?_
    refine aw_icmp_ge (tgt := 22) dd_mo_isSession_6 (by decide) (fun h2 => ?_) (fun h2 => ?_)
    · refine aw_iconst (v := 0) dd_mo_isSession_22 (by decide) ?_
      exact aw_zret dd_mo_isSession_23 rfl (by first | exact Or.inl rfl | exact Or.inr rfl) ⟨by first | (have e1 := iN_n (j := j) (by omega); simp only [zb_q0] at h3; rw [e1]; simp_all [zb_i]; done) | simp [zb_i, *], rfl⟩
    · obtain ⟨j, hj, rfl⟩ := se_n h1 h2
      refine aw_aload_n dd_mo_isSession_9 rfl 0 rfl ?_
      refine aw_getf _ 5 10 dd_mo_isSession_10 fl_mo_31 rfl rfl ?_
      refine aw_iload_n dd_mo_isSession_13 rfl 1 rfl ?_
      refine aw_zaN _ (j) dd_mo_isSession_14 rfl (hj) (by decide) ?_
      refine aw_top (hS.1 j hj).1 ?_
      refine aw_if_eq (tgt := 22) dd_mo_isSession_15 (by decide) (fun h3 => ?_) (fun h3 => ?_)
      · refine aw_iconst (v := 0) dd_mo_isSession_22 (by decide) ?_
        exact aw_zret dd_mo_isSession_23 rfl (by first | exact Or.inl rfl | exact Or.inr rfl) ⟨by first | (have e1 := iN_n (j := j) (by omega); simp only [zb_q0] at h3; rw [e1]; simp_all [zb_i]; done) | simp [zb_i, *], rfl⟩
      · refine aw_iconst (v := 1) dd_mo_isSession_18 (by decide) ?_
        refine aw_goto (tgt := 23) dd_mo_isSession_19 (by decide) ?_
        exact aw_zret dd_mo_isSession_23 rfl (by first | exact Or.inl rfl | exact Or.inr rfl) ⟨by first | (have e1 := iN_n (j := j) (by omega); simp only [zb_q0] at h3; rw [e1]; simp_all [zb_i]; done) | simp [zb_i, *], rfl⟩
theorem wl_mo_count (G : ag_T) (h : List va_E) {s : Nat} (hs : s < 2 ^ 31)  : ∀ (k r : Nat), r + k = 31 → aw_w G mm_mo_count 0 0 0 0 4 [(2, .int (nI r)), (1, .int (nI (pk_f s r))), (0, .int (nI s))] [] h (q_i (nI (pk_f s 31)) h) := by
  intro k
  induction k with
  | zero =>
    intro r hr
    have e : r = 31 := by omega
    subst e
    refine aw_iload_n dd_mo_count_4 rfl 0 rfl ?_
    refine aw_bipush (v := 31) dd_mo_count_5 (by decide) ?_
    refine aw_icmp_ge (tgt := 24) dd_mo_count_7 (by decide) (fun _ => ?_) (fun h9 => absurd (nI_le (a := 31) (b := 31) (by decide) (by decide)) h9)
    refine aw_iload_n dd_mo_count_24 rfl 1 rfl ?_
    exact aw_iret dd_mo_count_25 rfl ⟨rfl, rfl⟩
  | succ k ih =>
    intro r hr
    refine aw_iload_n dd_mo_count_4 rfl 0 rfl ?_
    refine aw_bipush (v := 31) dd_mo_count_5 (by decide) ?_
    refine aw_icmp_ge (tgt := 24) dd_mo_count_7 (by decide) (fun h9 => absurd h9 (nI_ge (a := r) (b := 31) (by omega) (by decide))) (fun _ => ?_)
    refine aw_iload_n dd_mo_count_10 rfl 1 rfl ?_
    refine aw_iload_n dd_mo_count_11 rfl 2 rfl ?_
    refine aw_iload_n dd_mo_count_12 rfl 0 rfl ?_
    refine aw_ishr dd_mo_count_13 ?_
    refine aw_iconst (v := 1) dd_mo_count_14 (by decide) ?_
    refine aw_iand dd_mo_count_15 ?_
    refine aw_top (nI_bit hs (by omega)) ?_
    refine aw_iadd dd_mo_count_16 ?_
    refine aw_top (y := nI (pk_f s (r + 1))) (by show _ = nI (_ + _); rw [← nI_add]; congr 1; cases s.testBit r <;> rfl) ?_
    refine aw_istore_n (lv' := [(1, _), (2, _), (0, _)]) dd_mo_count_17 rfl (by decide) rfl ?_
    refine aw_iinc (v := nI (r + 1)) (lv' := [(2, _), (1, _), (0, _)]) dd_mo_count_18 1 rfl (nI_1 _) (by decide) rfl ?_
    refine aw_goto (tgt := 4) dd_mo_count_21 (by decide) ?_
    exact ih (r + 1) (by omega)
theorem wc_mo_count (G : ag_T) (h : List va_E) {s : Nat} (hs : s < 2 ^ 31)  : aw_w G mm_mo_count 0 0 0 0 0 (lv_args 0 [.int (nI s)]) [] h (q_i (nI (pk_f s 31)) h) := by
  refine aw_iconst (v := 0) dd_mo_count_0 (by decide) ?_
  refine aw_istore_n (lv' := [(1, _), (0, _)]) dd_mo_count_1 rfl (by decide) rfl ?_
  refine aw_iconst (v := 0) dd_mo_count_2 (by decide) ?_
  refine aw_istore_n (lv' := [(2, _), (1, _), (0, _)]) dd_mo_count_3 rfl (by decide) rfl ?_
  exact wl_mo_count G h hs 31 0 rfl
theorem wl_mo_closed (G : ag_T) (κ : ck_T) (μ : cm_T) (o : Nat → Int64) (rest : List va_E) {n : Nat} {bel : Nat → Nat} (hB : rm_c μ n bel) {s : Nat} (hs : s < 64) : ∀ (k r : Nat), r + k = n → aw_w G mm_mo_closed 0 0 0 0 4 [(3, .int (nI r)), (2, .int (nI (pc_f bel s r))), (0, .ref (G.1 + 13)), (1, .int (nI s))] [] (hp_f G κ μ o rest) (q_i (nI (pc_f bel s n)) (hp_f G κ μ o rest)) := by
  obtain ⟨hB1, hB2, hB3, hB4⟩ := hB
  intro k
  induction k with
  | zero =>
    intro r hr
    have e : r = n := by omega
    subst e
    refine aw_iload_n dd_mo_closed_4 rfl 0 rfl ?_
    refine aw_aload_n dd_mo_closed_5 rfl 2 rfl ?_
    refine aw_getf _ 5 1 dd_mo_closed_6 fl_mo_69 rfl rfl ?_
    refine aw_icmp_ge (tgt := 40) dd_mo_closed_9 (by decide) (fun _ => ?_) (fun h9 => absurd (by rw [hB1]; exact nI_le (Nat.le_refl _) (by omega)) h9)
    refine aw_iload_n dd_mo_closed_40 rfl 1 rfl ?_
    exact aw_iret dd_mo_closed_41 rfl ⟨rfl, rfl⟩
  | succ k ih =>
    intro r hr
    refine aw_iload_n dd_mo_closed_4 rfl 0 rfl ?_
    refine aw_aload_n dd_mo_closed_5 rfl 2 rfl ?_
    refine aw_getf _ 5 1 dd_mo_closed_6 fl_mo_69 rfl rfl ?_
    refine aw_icmp_ge (tgt := 40) dd_mo_closed_9 (by decide) (fun h9 => absurd h9 (by rw [hB1]; exact nI_ge (by omega) (by omega))) (fun _ => ?_)
    refine aw_iload_n dd_mo_closed_12 rfl 3 rfl ?_
    refine aw_iload_n dd_mo_closed_13 rfl 0 rfl ?_
    refine aw_ishr dd_mo_closed_14 ?_
    refine aw_iconst (v := 1) dd_mo_closed_15 (by decide) ?_
    refine aw_iand dd_mo_closed_16 ?_
    refine aw_top (nI_bit (by omega) (by omega)) ?_
    refine aw_iconst (v := 1) dd_mo_closed_17 (by decide) ?_
    refine aw_icmp_ne (tgt := 32) dd_mo_closed_18 (by decide) (fun hb => ?_) (fun hb => ?_)
    · refine aw_iload_n dd_mo_closed_32 rfl 1 rfl ?_
      refine aw_istore_n (lv' := [(2, _), (3, _), (0, _), (1, _)]) dd_mo_closed_33 rfl (by decide) rfl ?_
      refine aw_iinc (v := nI (r + 1)) (lv' := [(3, _), (2, _), (0, _), (1, _)]) dd_mo_closed_34 1 rfl (nI_1 _) (by decide) rfl ?_
      refine aw_goto (tgt := 4) dd_mo_closed_37 (by decide) ?_
      have e9 := ih (r + 1) (by omega)
      simp only [zb_q1, Bool.not_eq_true] at hb
      simp only [pc_f, hb, if_true, if_false, Bool.false_eq_true] at e9
      exact e9
    · refine aw_iload_n dd_mo_closed_21 rfl 1 rfl ?_
      refine aw_aload_n dd_mo_closed_22 rfl 2 rfl ?_
      refine aw_getf _ 5 3 dd_mo_closed_23 fl_mo_7 rfl rfl ?_
      refine aw_iload_n dd_mo_closed_26 rfl 0 rfl ?_
      refine aw_iaN _ (r) dd_mo_closed_27 rfl (by omega) (by decide) ?_
      refine aw_top (hB3 r (by omega)) ?_
      refine aw_ior dd_mo_closed_28 ?_
      refine aw_top (nI_or _ _) ?_
      refine aw_goto (tgt := 33) dd_mo_closed_29 (by decide) ?_
      refine aw_istore_n (lv' := [(2, _), (3, _), (0, _), (1, _)]) dd_mo_closed_33 rfl (by decide) rfl ?_
      refine aw_iinc (v := nI (r + 1)) (lv' := [(3, _), (2, _), (0, _), (1, _)]) dd_mo_closed_34 1 rfl (nI_1 _) (by decide) rfl ?_
      refine aw_goto (tgt := 4) dd_mo_closed_37 (by decide) ?_
      have e9 := ih (r + 1) (by omega)
      simp only [zb_q1, Bool.not_eq_true] at hb
      simp only [pc_f, hb, if_true, if_false, Bool.false_eq_true] at e9
      exact e9
theorem wc_mo_closed (G : ag_T) (κ : ck_T) (μ : cm_T) (o : Nat → Int64) (rest : List va_E) {n : Nat} {bel : Nat → Nat} (hB : rm_c μ n bel) {s : Nat} (hs : s < 64) : aw_w G mm_mo_closed 0 0 0 0 0 (lv_args 0 [.ref (G.1 + 13), .int (nI s)]) [] (hp_f G κ μ o rest) (q_i (nI (pc_f bel s n)) (hp_f G κ μ o rest)) := by
  refine aw_iload_n dd_mo_closed_0 rfl 1 rfl ?_
  refine aw_istore_n (lv' := [(2, _), (0, _), (1, _)]) dd_mo_closed_1 rfl (by decide) rfl ?_
  refine aw_iconst (v := 0) dd_mo_closed_2 (by decide) ?_
  refine aw_istore_n (lv' := [(3, _), (2, _), (0, _), (1, _)]) dd_mo_closed_3 rfl (by decide) rfl ?_
  exact wl_mo_closed G κ μ o rest hB hs n 0 (Nat.zero_add n)
theorem wl_mo_staticKept (G : ag_T) (κ : ck_T) (μ : cm_T) (o : Nat → Int64) (rest : List va_E) {n : Nat} {bel : Nat → Nat} (hB : rm_c μ n bel) {s : Nat} (hs : s < 64) {sl : pl_T} (hL : rm_l μ 0 0 sl) : ∀ (k r : Nat), r + k = sl.length → aw_w G mm_mo_staticKept 1 23 0 0 11 [(4, .int (nI r)), (3, .int (zb_i (pk_l (sl.take r) (pc_f bel s n)))), (2, .int (nI (pc_f bel s n))), (0, .ref (G.1 + 13)), (1, .int (nI s))] [] (hp_f G κ μ o rest) (q_i (zb_i (pk_l sl (pc_f bel s n))) (hp_f G κ μ o rest)) := by
  obtain ⟨hL1, hL2, hL3⟩ := hL
  have hA := pc_64 hB.2.2.2 hs n
  intro k
  induction k with
  | zero =>
    intro r hr
    have e : r = sl.length := by omega
    subst e
    refine aw_iload dd_mo_staticKept_11 0 rfl ?_
    refine aw_aload_n dd_mo_staticKept_13 rfl 3 rfl ?_
    refine aw_getf _ 5 7 dd_mo_staticKept_14 fl_mo_22 rfl rfl ?_
    refine aw_iconst (v := 0) dd_mo_staticKept_17 (by decide) ?_
    refine aw_iaN _ (0) dd_mo_staticKept_18 rfl (by decide) (by decide) ?_
    refine aw_icmp_ge (tgt := 60) dd_mo_staticKept_19 (by decide) (fun _ => ?_) (fun h9 => absurd (by rw [hL1]; exact nI_le (Nat.le_refl _) (by omega)) h9)
    refine aw_iload_n dd_mo_staticKept_60 rfl 1 rfl ?_
    exact aw_zret dd_mo_staticKept_61 rfl (zb_01 _) ⟨by rw [List.take_length], rfl⟩
  | succ k ih =>
    intro r hr
    obtain ⟨l, hl⟩ := tk_g (ls := sl) (k := r) (by omega)
    obtain ⟨hl5, hl6, hl7⟩ := hL3 r l hl
    rw [Nat.zero_add] at hl5 hl6
    refine aw_iload dd_mo_staticKept_11 0 rfl ?_
    refine aw_aload_n dd_mo_staticKept_13 rfl 3 rfl ?_
    refine aw_getf _ 5 7 dd_mo_staticKept_14 fl_mo_22 rfl rfl ?_
    refine aw_iconst (v := 0) dd_mo_staticKept_17 (by decide) ?_
    refine aw_iaN _ (0) dd_mo_staticKept_18 rfl (by decide) (by decide) ?_
    refine aw_icmp_ge (tgt := 60) dd_mo_staticKept_19 (by decide) (fun h9 => absurd h9 (by rw [hL1]; exact nI_ge (by omega) (by omega))) (fun _ => ?_)
    refine aw_join (tgt := 53) (v := zb_i (pk_l (sl.take r) (pc_f bel s n) && pk_1 l (pc_f bel s n))) ?_ (fun kj22 => ?_)
    · refine aw_istore_n (lv' := [(3, _), (4, _), (2, _), (0, _), (1, _)]) dd_mo_staticKept_53 rfl (by decide) rfl ?_
      rw [← tk_k hl]
      refine aw_iinc (v := nI (r + 1)) (lv' := [(4, _), (3, _), (2, _), (0, _), (1, _)]) dd_mo_staticKept_54 1 rfl (nI_1 _) (by decide) rfl ?_
      refine aw_goto (tgt := 11) dd_mo_staticKept_57 (by decide) ?_
      exact ih (r + 1) (by omega)
    · refine aw_iload_n dd_mo_staticKept_22 rfl 1 rfl ?_
      refine aw_if_eq (tgt := 52) dd_mo_staticKept_23 (by decide) (fun h1 => ?_) (fun h1 => ?_)
      · refine aw_iconst (v := 0) dd_mo_staticKept_52 (by decide) ?_
        exact aw_top (by simp_all [zb_q0, zb_q1, zb_i, pk_1, Int32.not_le]) kj22
      · refine aw_iload_n dd_mo_staticKept_26 rfl 2 rfl ?_
        refine aw_aload_n dd_mo_staticKept_27 rfl 3 rfl ?_
        refine aw_getf _ 5 8 dd_mo_staticKept_28 fl_mo_25 rfl rfl ?_
        refine aw_iload dd_mo_staticKept_31 0 rfl ?_
        refine aw_iaN _ (r) dd_mo_staticKept_33 rfl (by omega) (by decide) ?_
        refine aw_top hl5 ?_
        refine aw_iand dd_mo_staticKept_34 ?_
        refine aw_top (nI_and _ _) ?_
        refine aw_cSi mm_mo_count 0 0 [_] _ (wc_mo_count G _ (Nat.lt_of_lt_of_le (bt_and (n := 6) hA) (by decide))) dd_mo_staticKept_35 cs_mo_79 my_mo_count np_mo_count rfl (by decide) rfl rfl (Nat.le_of_ble_eq_true rfl) (Nat.le_of_ble_eq_true rfl) ?_
        refine aw_aload_n dd_mo_staticKept_38 rfl 3 rfl ?_
        refine aw_getf _ 5 9 dd_mo_staticKept_39 fl_mo_28 rfl rfl ?_
        refine aw_iload dd_mo_staticKept_42 0 rfl ?_
        refine aw_iaN _ (r) dd_mo_staticKept_44 rfl (by omega) (by decide) ?_
        refine aw_top hl6 ?_
        refine aw_icmp_ge (tgt := 52) dd_mo_staticKept_45 (by decide) (fun h2 => ?_) (fun h2 => ?_)
        · refine aw_iconst (v := 0) dd_mo_staticKept_52 (by decide) ?_
          exact aw_top (by simp_all [zb_q0, zb_q1, zb_i, pk_1, Int32.not_le]) kj22
        · refine aw_iconst (v := 1) dd_mo_staticKept_48 (by decide) ?_
          refine aw_goto (tgt := 53) dd_mo_staticKept_49 (by decide) ?_
          exact aw_top (by simp_all [zb_q0, zb_q1, zb_i, pk_1, Int32.not_le]) kj22
theorem wc_mo_staticKept (G : ag_T) (κ : ck_T) (μ : cm_T) (o : Nat → Int64) (rest : List va_E) {n : Nat} {bel : Nat → Nat} (hB : rm_c μ n bel) {s : Nat} (hs : s < 64) {sl : pl_T} (hL : rm_l μ 0 0 sl) : aw_w G mm_mo_staticKept 1 23 0 0 0 (lv_args 0 [.ref (G.1 + 13), .int (nI s)]) [] (hp_f G κ μ o rest) (q_i (zb_i (pk_l sl (pc_f bel s n))) (hp_f G κ μ o rest)) := by
  refine aw_aload_n dd_mo_staticKept_0 rfl 0 rfl ?_
  refine aw_iload_n dd_mo_staticKept_1 rfl 1 rfl ?_
  refine aw_cVi mm_mo_closed 0 0 _ 5 [_] _ (wc_mo_closed G κ μ o rest hB hs) dd_mo_staticKept_2 cv_mo_75 my_mo_closed np_mo_closed rfl rfl rfl (by decide) rfl rfl (Nat.le_of_ble_eq_true rfl) (Nat.le_of_ble_eq_true rfl) ?_
  refine aw_istore_n (lv' := [(2, _), (0, _), (1, _)]) dd_mo_staticKept_5 rfl (by decide) rfl ?_
  refine aw_iconst (v := 1) dd_mo_staticKept_6 (by decide) ?_
  refine aw_istore_n (lv' := [(3, _), (2, _), (0, _), (1, _)]) dd_mo_staticKept_7 rfl (by decide) rfl ?_
  refine aw_iconst (v := 0) dd_mo_staticKept_8 (by decide) ?_
  refine aw_istore (lv' := [(4, _), (3, _), (2, _), (0, _), (1, _)]) dd_mo_staticKept_9 (by decide) rfl ?_
  exact wl_mo_staticKept G κ μ o rest hB hs hL sl.length 0 (Nat.zero_add _)
theorem wl_mo_allStaticKept (G : ag_T) (κ : ck_T) (μ : cm_T) (o : Nat → Int64) (rest : List va_E) {n : Nat} {bel : Nat → Nat} (hB : rm_c μ n bel) {sl : pl_T} (hL : rm_l μ 0 0 sl) {u : Nat} {asg : Nat → Nat} (hU : rm_u μ u asg) : ∀ (k r : Nat), r + k = u → aw_w G mm_mo_allStaticKept 2 47 0 0 4 [(2, .int (nI r)), (1, .int (zb_i (pa_k (fun v => pk_l sl (pc_f bel (asg v) n)) r))), (0, .ref (G.1 + 13))] [] (hp_f G κ μ o rest) (q_i (zb_i (pa_k (fun v => pk_l sl (pc_f bel (asg v) n)) u)) (hp_f G κ μ o rest)) := by
  obtain ⟨hU1, hU2, hU3, hU4⟩ := hU
  intro k
  induction k with
  | zero =>
    intro r hr
    have e : r = u := by omega
    subst e
    refine aw_iload_n dd_mo_allStaticKept_4 rfl 0 rfl ?_
    refine aw_aload_n dd_mo_allStaticKept_5 rfl 2 rfl ?_
    refine aw_getf _ 5 2 dd_mo_allStaticKept_6 fl_mo_72 rfl rfl ?_
    refine aw_icmp_ge (tgt := 41) dd_mo_allStaticKept_9 (by decide) (fun _ => ?_) (fun h9 => absurd (by rw [hU1]; exact nI_le (Nat.le_refl _) (by omega)) h9)
    refine aw_iload_n dd_mo_allStaticKept_41 rfl 1 rfl ?_
    exact aw_zret dd_mo_allStaticKept_42 rfl (zb_01 _) ⟨rfl, rfl⟩
  | succ k ih =>
    intro r hr
    refine aw_iload_n dd_mo_allStaticKept_4 rfl 0 rfl ?_
    refine aw_aload_n dd_mo_allStaticKept_5 rfl 2 rfl ?_
    refine aw_getf _ 5 2 dd_mo_allStaticKept_6 fl_mo_72 rfl rfl ?_
    refine aw_icmp_ge (tgt := 41) dd_mo_allStaticKept_9 (by decide) (fun h9 => absurd h9 (by rw [hU1]; exact nI_ge (by omega) (by omega))) (fun _ => ?_)
    refine aw_join (tgt := 34) (v := zb_i (pa_k (fun v => pk_l sl (pc_f bel (asg v) n)) (r + 1))) ?_ (fun kj12 => ?_)
    · refine aw_istore_n (lv' := [(1, _), (2, _), (0, _)]) dd_mo_allStaticKept_34 rfl (by decide) rfl ?_
      refine aw_iinc (v := nI (r + 1)) (lv' := [(2, _), (1, _), (0, _)]) dd_mo_allStaticKept_35 1 rfl (nI_1 _) (by decide) rfl ?_
      refine aw_goto (tgt := 4) dd_mo_allStaticKept_38 (by decide) ?_
      exact ih (r + 1) (by omega)
    · refine aw_iload_n dd_mo_allStaticKept_12 rfl 1 rfl ?_
      refine aw_if_eq (tgt := 33) dd_mo_allStaticKept_13 (by decide) (fun h1 => ?_) (fun h1 => ?_)
      · refine aw_iconst (v := 0) dd_mo_allStaticKept_33 (by decide) ?_
        exact aw_top (by simp_all [zb_q0, zb_q1, zb_i, pa_k]) kj12
      · refine aw_aload_n dd_mo_allStaticKept_16 rfl 2 rfl ?_
        refine aw_aload_n dd_mo_allStaticKept_17 rfl 2 rfl ?_
        refine aw_getf _ 5 6 dd_mo_allStaticKept_18 fl_mo_19 rfl rfl ?_
        refine aw_iload_n dd_mo_allStaticKept_21 rfl 0 rfl ?_
        refine aw_iaN _ (r) dd_mo_allStaticKept_22 rfl (by omega) (by decide) ?_
        refine aw_top (hU3 r (by omega)) ?_
        refine aw_cVi mm_mo_staticKept 0 0 _ 5 [_] _ (wc_mo_staticKept G κ μ o rest hB (hU4 r) hL) dd_mo_allStaticKept_23 cv_mo_82 my_mo_staticKept np_mo_staticKept rfl rfl rfl (by decide) rfl rfl (Nat.le_of_ble_eq_true rfl) (Nat.le_of_ble_eq_true rfl) ?_
        refine aw_if_eq (tgt := 33) dd_mo_allStaticKept_26 (by decide) (fun h2 => ?_) (fun h2 => ?_)
        · refine aw_iconst (v := 0) dd_mo_allStaticKept_33 (by decide) ?_
          exact aw_top (by simp_all [zb_q0, zb_q1, zb_i, pa_k]) kj12
        · refine aw_iconst (v := 1) dd_mo_allStaticKept_29 (by decide) ?_
          refine aw_goto (tgt := 34) dd_mo_allStaticKept_30 (by decide) ?_
          exact aw_top (by simp_all [zb_q0, zb_q1, zb_i, pa_k]) kj12
theorem wc_mo_allStaticKept (G : ag_T) (κ : ck_T) (μ : cm_T) (o : Nat → Int64) (rest : List va_E) {n : Nat} {bel : Nat → Nat} (hB : rm_c μ n bel) {sl : pl_T} (hL : rm_l μ 0 0 sl) {u : Nat} {asg : Nat → Nat} (hU : rm_u μ u asg) : aw_w G mm_mo_allStaticKept 2 47 0 0 0 (lv_args 0 [.ref (G.1 + 13)]) [] (hp_f G κ μ o rest) (q_i (zb_i (pa_k (fun v => pk_l sl (pc_f bel (asg v) n)) u)) (hp_f G κ μ o rest)) := by
  refine aw_iconst (v := 1) dd_mo_allStaticKept_0 (by decide) ?_
  refine aw_istore_n (lv' := [(1, _), (0, _)]) dd_mo_allStaticKept_1 rfl (by decide) rfl ?_
  refine aw_iconst (v := 0) dd_mo_allStaticKept_2 (by decide) ?_
  refine aw_istore_n (lv' := [(2, _), (1, _), (0, _)]) dd_mo_allStaticKept_3 rfl (by decide) rfl ?_
  exact wl_mo_allStaticKept G κ μ o rest hB hL hU u 0 (Nat.zero_add _)
theorem wl_mo_dynamicKept (G : ag_T) (κ : ck_T) (μ : cm_T) (o : Nat → Int64) (rest : List va_E) {dl : pl_T} (hL : rm_l μ 1 4 dl) {s : Nat} (hs : s < 64) : ∀ (k r : Nat), r + k = dl.length → aw_w G mm_mo_dynamicKept 1 22 0 0 4 [(3, .int (nI (4 + r))), (2, .int (zb_i (pk_l (dl.take r) s))), (0, .ref (G.1 + 13)), (1, .int (nI s))] [] (hp_f G κ μ o rest) (q_i (zb_i (pk_l dl s)) (hp_f G κ μ o rest)) := by
  obtain ⟨hL1, hL2, hL3⟩ := hL
  intro k
  induction k with
  | zero =>
    intro r hr
    have e : r = dl.length := by omega
    subst e
    refine aw_iload_n dd_mo_dynamicKept_4 rfl 0 rfl ?_
    refine aw_iconst (v := (nI 4)) dd_mo_dynamicKept_5 (by decide) ?_
    refine aw_aload_n dd_mo_dynamicKept_6 rfl 2 rfl ?_
    refine aw_getf _ 5 7 dd_mo_dynamicKept_7 fl_mo_22 rfl rfl ?_
    refine aw_iconst (v := (nI 1)) dd_mo_dynamicKept_10 (by decide) ?_
    refine aw_iaN _ (1) dd_mo_dynamicKept_11 rfl (by decide) (by decide) ?_
    refine aw_top hL1 ?_
    refine aw_iadd dd_mo_dynamicKept_12 ?_
    refine aw_top (nI_add _ _) ?_
    refine aw_icmp_ge (tgt := 52) dd_mo_dynamicKept_13 (by decide) (fun _ => ?_) (fun h9 => absurd (nI_le (Nat.le_refl _) (by omega)) h9)
    refine aw_iload_n dd_mo_dynamicKept_52 rfl 1 rfl ?_
    exact aw_zret dd_mo_dynamicKept_53 rfl (zb_01 _) ⟨by rw [List.take_length], rfl⟩
  | succ k ih =>
    intro r hr
    obtain ⟨l, hl⟩ := tk_g (ls := dl) (k := r) (by omega)
    obtain ⟨hl5, hl6, hl7⟩ := hL3 r l hl
    refine aw_iload_n dd_mo_dynamicKept_4 rfl 0 rfl ?_
    refine aw_iconst (v := (nI 4)) dd_mo_dynamicKept_5 (by decide) ?_
    refine aw_aload_n dd_mo_dynamicKept_6 rfl 2 rfl ?_
    refine aw_getf _ 5 7 dd_mo_dynamicKept_7 fl_mo_22 rfl rfl ?_
    refine aw_iconst (v := (nI 1)) dd_mo_dynamicKept_10 (by decide) ?_
    refine aw_iaN _ (1) dd_mo_dynamicKept_11 rfl (by decide) (by decide) ?_
    refine aw_top hL1 ?_
    refine aw_iadd dd_mo_dynamicKept_12 ?_
    refine aw_top (nI_add _ _) ?_
    refine aw_icmp_ge (tgt := 52) dd_mo_dynamicKept_13 (by decide) (fun h9 => absurd h9 (nI_ge (by omega) (by omega))) (fun _ => ?_)
    refine aw_join (tgt := 45) (v := zb_i (pk_l (dl.take r) s && pk_1 l s)) ?_ (fun kj16 => ?_)
    · refine aw_istore_n (lv' := [(2, _), (3, _), (0, _), (1, _)]) dd_mo_dynamicKept_45 rfl (by decide) rfl ?_
      rw [← tk_k hl]
      refine aw_iinc (v := nI (4 + (r + 1))) (lv' := [(3, _), (2, _), (0, _), (1, _)]) dd_mo_dynamicKept_46 1 rfl (nI_1 _) (by decide) rfl ?_
      refine aw_goto (tgt := 4) dd_mo_dynamicKept_49 (by decide) ?_
      exact ih (r + 1) (by omega)
    · refine aw_iload_n dd_mo_dynamicKept_16 rfl 1 rfl ?_
      refine aw_if_eq (tgt := 44) dd_mo_dynamicKept_17 (by decide) (fun h1 => ?_) (fun h1 => ?_)
      · refine aw_iconst (v := 0) dd_mo_dynamicKept_44 (by decide) ?_
        exact aw_top (by simp_all [zb_q0, zb_q1, zb_i, pk_1, Int32.not_le]) kj16
      · refine aw_iload_n dd_mo_dynamicKept_20 rfl 3 rfl ?_
        refine aw_aload_n dd_mo_dynamicKept_21 rfl 2 rfl ?_
        refine aw_getf _ 5 8 dd_mo_dynamicKept_22 fl_mo_25 rfl rfl ?_
        refine aw_iload_n dd_mo_dynamicKept_25 rfl 0 rfl ?_
        refine aw_iaN _ (4 + r) dd_mo_dynamicKept_26 rfl (by omega) (by decide) ?_
        refine aw_top hl5 ?_
        refine aw_iand dd_mo_dynamicKept_27 ?_
        refine aw_top (nI_and _ _) ?_
        refine aw_cSi mm_mo_count 0 0 [_] _ (wc_mo_count G _ (Nat.lt_of_lt_of_le (bt_and (n := 6) hs) (by decide))) dd_mo_dynamicKept_28 cs_mo_79 my_mo_count np_mo_count rfl (by decide) rfl rfl (Nat.le_of_ble_eq_true rfl) (Nat.le_of_ble_eq_true rfl) ?_
        refine aw_aload_n dd_mo_dynamicKept_31 rfl 2 rfl ?_
        refine aw_getf _ 5 9 dd_mo_dynamicKept_32 fl_mo_28 rfl rfl ?_
        refine aw_iload_n dd_mo_dynamicKept_35 rfl 0 rfl ?_
        refine aw_iaN _ (4 + r) dd_mo_dynamicKept_36 rfl (by omega) (by decide) ?_
        refine aw_top hl6 ?_
        refine aw_icmp_ge (tgt := 44) dd_mo_dynamicKept_37 (by decide) (fun h2 => ?_) (fun h2 => ?_)
        · refine aw_iconst (v := 0) dd_mo_dynamicKept_44 (by decide) ?_
          exact aw_top (by simp_all [zb_q0, zb_q1, zb_i, pk_1, Int32.not_le]) kj16
        · refine aw_iconst (v := 1) dd_mo_dynamicKept_40 (by decide) ?_
          refine aw_goto (tgt := 45) dd_mo_dynamicKept_41 (by decide) ?_
          exact aw_top (by simp_all [zb_q0, zb_q1, zb_i, pk_1, Int32.not_le]) kj16
theorem wc_mo_dynamicKept (G : ag_T) (κ : ck_T) (μ : cm_T) (o : Nat → Int64) (rest : List va_E) {dl : pl_T} (hL : rm_l μ 1 4 dl) {s : Nat} (hs : s < 64) : aw_w G mm_mo_dynamicKept 1 22 0 0 0 (lv_args 0 [.ref (G.1 + 13), .int (nI s)]) [] (hp_f G κ μ o rest) (q_i (zb_i (pk_l dl s)) (hp_f G κ μ o rest)) := by
  refine aw_iconst (v := 1) dd_mo_dynamicKept_0 (by decide) ?_
  refine aw_istore_n (lv' := [(2, _), (0, _), (1, _)]) dd_mo_dynamicKept_1 rfl (by decide) rfl ?_
  refine aw_iconst (v := 4) dd_mo_dynamicKept_2 (by decide) ?_
  refine aw_istore_n (lv' := [(3, _), (2, _), (0, _), (1, _)]) dd_mo_dynamicKept_3 rfl (by decide) rfl ?_
  exact wl_mo_dynamicKept G κ μ o rest hL hs dl.length 0 (Nat.zero_add _)
theorem wl_mo_lets (G : ag_T) (κ : ck_T) (μ : cm_T) (o : Nat → Int64) (rest : List va_E) {rs : pr_T} (hR : rm_r μ rs) (g : Bool) {a b c : Nat} (ha : a < 64) (hb : b < 64) (hc : c < 6) : ∀ (k r : Nat), r + k = rs.length → aw_w G mm_mo_lets 0 0 0 0 6 [(6, .int (nI r)), (5, .int (zb_i (pr_l (rs.take r) g a b c))), (0, .ref (G.1 + 13)), (1, .int (zb_i g)), (2, .int (nI a)), (3, .int (nI b)), (4, .int (nI c))] [] (hp_f G κ μ o rest) (q_i (zb_i (pr_l rs g a b c)) (hp_f G κ μ o rest)) := by
  obtain ⟨hR1, hR2, hR3⟩ := hR
  intro k
  induction k with
  | zero =>
    intro r hr
    have e : r = rs.length := by omega
    subst e
    refine aw_iload dd_mo_lets_6 0 rfl ?_
    refine aw_aload_n dd_mo_lets_8 rfl 2 rfl ?_
    refine aw_getf _ 5 13 dd_mo_lets_9 fl_mo_100 rfl rfl ?_
    refine aw_icmp_ge (tgt := 114) dd_mo_lets_12 (by decide) (fun _ => ?_) (fun h9 => absurd (by rw [hR1]; exact nI_le (Nat.le_refl _) (by omega)) h9)
    refine aw_iload dd_mo_lets_114 1 rfl ?_
    exact aw_zret dd_mo_lets_116 rfl (zb_01 _) ⟨by rw [List.take_length], rfl⟩
  | succ k ih =>
    intro r hr
    obtain ⟨x, hl⟩ := tk_g (ls := rs) (k := r) (by omega)
    obtain ⟨l1, l2, l3, l4, l5, l6, l7, l8, l9⟩ := hR3 r x hl
    refine aw_iload dd_mo_lets_6 0 rfl ?_
    refine aw_aload_n dd_mo_lets_8 rfl 2 rfl ?_
    refine aw_getf _ 5 13 dd_mo_lets_9 fl_mo_100 rfl rfl ?_
    refine aw_icmp_ge (tgt := 114) dd_mo_lets_12 (by decide) (fun h9 => absurd h9 (by rw [hR1]; exact nI_ge (by omega) (by omega))) (fun _ => ?_)
    refine aw_join (tgt := 58) (v := zb_i (decide (x.1 = g) && (decide (x.2.2.2.2 = c) && a.testBit x.2.1))) ?_ (fun kj15 => ?_)
    · refine aw_istore (lv' := [(7, _), (6, _), (5, _), (0, _), (1, _), (2, _), (3, _), (4, _)]) dd_mo_lets_58 (by decide) rfl ?_
      refine aw_join (tgt := 106) (v := zb_i (pr_l (rs.take r) g a b c || pr_1 x g a b c)) ?_ (fun kj60 => ?_)
      · refine aw_istore (lv' := [(5, _), (7, _), (6, _), (0, _), (1, _), (2, _), (3, _), (4, _)]) dd_mo_lets_106 (by decide) rfl ?_
        rw [← tk_r hl]
        refine aw_iinc (v := nI (r + 1)) (lv' := [(6, _), (5, _), (7, _), (0, _), (1, _), (2, _), (3, _), (4, _)]) dd_mo_lets_108 2 rfl (nI_1 _) (by decide) rfl ?_
        refine aw_goto (tgt := 6) dd_mo_lets_111 (by decide) ?_
        exact aw_lv [0, 1, 3, 4, 5, 6, 7] rfl (ih (r + 1) (by omega))
      · refine aw_iload dd_mo_lets_60 2 rfl ?_
        refine aw_if_ne (tgt := 101) dd_mo_lets_62 (by decide) (fun h4 => ?_) (fun h4 => ?_)
        · refine aw_iconst (v := 1) dd_mo_lets_101 (by decide) ?_
          refine aw_goto (tgt := 106) dd_mo_lets_102 (by decide) ?_
          exact aw_top (by have e1 := nI_eq (a := b &&& x.2.2.1) (b := x.2.2.1) (Nat.lt_of_lt_of_le (bt_and (n := 6) hb) (by decide)) (by omega); have e2 := nI_eq (a := b &&& x.2.2.2.1) (b := 0) (Nat.lt_of_lt_of_le (bt_and (n := 6) hb) (by decide)) (by omega); rw [nI_0] at e2; simp only [zb_q0, zb_q1, e1, e2, Bool.not_eq_false, Bool.not_eq_true] at *; simp_all [pr_1, zb_i]) kj60
        · refine aw_iload dd_mo_lets_65 0 rfl ?_
          refine aw_if_eq (tgt := 105) dd_mo_lets_67 (by decide) (fun h5 => ?_) (fun h5 => ?_)
          · refine aw_iconst (v := 0) dd_mo_lets_105 (by decide) ?_
            exact aw_top (by have e1 := nI_eq (a := b &&& x.2.2.1) (b := x.2.2.1) (Nat.lt_of_lt_of_le (bt_and (n := 6) hb) (by decide)) (by omega); have e2 := nI_eq (a := b &&& x.2.2.2.1) (b := 0) (Nat.lt_of_lt_of_le (bt_and (n := 6) hb) (by decide)) (by omega); rw [nI_0] at e2; simp only [zb_q0, zb_q1, e1, e2, Bool.not_eq_false, Bool.not_eq_true] at *; simp_all [pr_1, zb_i]) kj60
          · refine aw_iload_n dd_mo_lets_70 rfl 6 rfl ?_
            refine aw_aload_n dd_mo_lets_71 rfl 3 rfl ?_
            refine aw_getf _ 5 16 dd_mo_lets_72 fl_mo_47 rfl rfl ?_
            refine aw_iload dd_mo_lets_75 1 rfl ?_
            refine aw_iaN _ (r) dd_mo_lets_77 rfl (by omega) (by decide) ?_
            refine aw_top l3 ?_
            refine aw_iand dd_mo_lets_78 ?_
            refine aw_top (nI_and _ _) ?_
            refine aw_aload_n dd_mo_lets_79 rfl 3 rfl ?_
            refine aw_getf _ 5 16 dd_mo_lets_80 fl_mo_47 rfl rfl ?_
            refine aw_iload dd_mo_lets_83 1 rfl ?_
            refine aw_iaN _ (r) dd_mo_lets_85 rfl (by omega) (by decide) ?_
            refine aw_top l3 ?_
            refine aw_icmp_ne (tgt := 105) dd_mo_lets_86 (by decide) (fun h6 => ?_) (fun h6 => ?_)
            · refine aw_iconst (v := 0) dd_mo_lets_105 (by decide) ?_
              exact aw_top (by have e1 := nI_eq (a := b &&& x.2.2.1) (b := x.2.2.1) (Nat.lt_of_lt_of_le (bt_and (n := 6) hb) (by decide)) (by omega); have e2 := nI_eq (a := b &&& x.2.2.2.1) (b := 0) (Nat.lt_of_lt_of_le (bt_and (n := 6) hb) (by decide)) (by omega); rw [nI_0] at e2; simp only [zb_q0, zb_q1, e1, e2, Bool.not_eq_false, Bool.not_eq_true] at *; simp_all [pr_1, zb_i]) kj60
            · refine aw_iload_n dd_mo_lets_89 rfl 6 rfl ?_
              refine aw_aload_n dd_mo_lets_90 rfl 3 rfl ?_
              refine aw_getf _ 5 17 dd_mo_lets_91 fl_mo_50 rfl rfl ?_
              refine aw_iload dd_mo_lets_94 1 rfl ?_
              refine aw_iaN _ (r) dd_mo_lets_96 rfl (by omega) (by decide) ?_
              refine aw_top l4 ?_
              refine aw_iand dd_mo_lets_97 ?_
              refine aw_top (nI_and _ _) ?_
              refine aw_if_ne (tgt := 105) dd_mo_lets_98 (by decide) (fun h7 => ?_) (fun h7 => ?_)
              · refine aw_iconst (v := 0) dd_mo_lets_105 (by decide) ?_
                exact aw_top (by have e1 := nI_eq (a := b &&& x.2.2.1) (b := x.2.2.1) (Nat.lt_of_lt_of_le (bt_and (n := 6) hb) (by decide)) (by omega); have e2 := nI_eq (a := b &&& x.2.2.2.1) (b := 0) (Nat.lt_of_lt_of_le (bt_and (n := 6) hb) (by decide)) (by omega); rw [nI_0] at e2; simp only [zb_q0, zb_q1, e1, e2, Bool.not_eq_false, Bool.not_eq_true] at *; simp_all [pr_1, zb_i]) kj60
              · refine aw_iconst (v := 1) dd_mo_lets_101 (by decide) ?_
                refine aw_goto (tgt := 106) dd_mo_lets_102 (by decide) ?_
                exact aw_top (by have e1 := nI_eq (a := b &&& x.2.2.1) (b := x.2.2.1) (Nat.lt_of_lt_of_le (bt_and (n := 6) hb) (by decide)) (by omega); have e2 := nI_eq (a := b &&& x.2.2.2.1) (b := 0) (Nat.lt_of_lt_of_le (bt_and (n := 6) hb) (by decide)) (by omega); rw [nI_0] at e2; simp only [zb_q0, zb_q1, e1, e2, Bool.not_eq_false, Bool.not_eq_true] at *; simp_all [pr_1, zb_i]) kj60
    · refine aw_aload_n dd_mo_lets_15 rfl 2 rfl ?_
      refine aw_getf _ 5 14 dd_mo_lets_16 fl_mo_41 rfl rfl ?_
      refine aw_iload dd_mo_lets_19 0 rfl ?_
      refine aw_zaN _ (r) dd_mo_lets_21 rfl (by omega) (by decide) ?_
      refine aw_top l1 ?_
      refine aw_iload_n dd_mo_lets_22 rfl 3 rfl ?_
      refine aw_icmp_ne (tgt := 57) dd_mo_lets_23 (by decide) (fun h1 => ?_) (fun h1 => ?_)
      · refine aw_iconst (v := 0) dd_mo_lets_57 (by decide) ?_
        exact aw_top (by have e1 := nI_eq (a := x.2.2.2.2) (b := c) (by omega) (by omega); simp only [zb_inj, zb_q1, e1] at *; simp_all [zb_i]) kj15
      · refine aw_aload_n dd_mo_lets_26 rfl 2 rfl ?_
        refine aw_getf _ 5 18 dd_mo_lets_27 fl_mo_53 rfl rfl ?_
        refine aw_iload dd_mo_lets_30 0 rfl ?_
        refine aw_iaN _ (r) dd_mo_lets_32 rfl (by omega) (by decide) ?_
        refine aw_top l5 ?_
        refine aw_iload dd_mo_lets_33 6 rfl ?_
        refine aw_icmp_ne (tgt := 57) dd_mo_lets_35 (by decide) (fun h2 => ?_) (fun h2 => ?_)
        · refine aw_iconst (v := 0) dd_mo_lets_57 (by decide) ?_
          exact aw_top (by have e1 := nI_eq (a := x.2.2.2.2) (b := c) (by omega) (by omega); simp only [zb_inj, zb_q1, e1] at *; simp_all [zb_i]) kj15
        · refine aw_iload_n dd_mo_lets_38 rfl 4 rfl ?_
          refine aw_aload_n dd_mo_lets_39 rfl 2 rfl ?_
          refine aw_getf _ 5 15 dd_mo_lets_40 fl_mo_44 rfl rfl ?_
          refine aw_iload dd_mo_lets_43 0 rfl ?_
          refine aw_iaN _ (r) dd_mo_lets_45 rfl (by omega) (by decide) ?_
          refine aw_top l2 ?_
          refine aw_ishr dd_mo_lets_46 ?_
          refine aw_iconst (v := 1) dd_mo_lets_47 (by decide) ?_
          refine aw_iand dd_mo_lets_48 ?_
          refine aw_top (nI_bit (by omega) (by omega)) ?_
          refine aw_iconst (v := 1) dd_mo_lets_49 (by decide) ?_
          refine aw_icmp_ne (tgt := 57) dd_mo_lets_50 (by decide) (fun h3 => ?_) (fun h3 => ?_)
          · refine aw_iconst (v := 0) dd_mo_lets_57 (by decide) ?_
            exact aw_top (by have e1 := nI_eq (a := x.2.2.2.2) (b := c) (by omega) (by omega); simp only [zb_inj, zb_q1, e1] at *; simp_all [zb_i]) kj15
          · refine aw_iconst (v := 1) dd_mo_lets_53 (by decide) ?_
            refine aw_goto (tgt := 58) dd_mo_lets_54 (by decide) ?_
            exact aw_top (by have e1 := nI_eq (a := x.2.2.2.2) (b := c) (by omega) (by omega); simp only [zb_inj, zb_q1, e1] at *; simp_all [zb_i]) kj15
theorem wc_mo_lets (G : ag_T) (κ : ck_T) (μ : cm_T) (o : Nat → Int64) (rest : List va_E) {rs : pr_T} (hR : rm_r μ rs) (g : Bool) {a b c : Nat} (ha : a < 64) (hb : b < 64) (hc : c < 6) : aw_w G mm_mo_lets 0 0 0 0 0 (lv_args 0 [.ref (G.1 + 13), .int (zb_i g), .int (nI a), .int (nI b), .int (nI c)]) [] (hp_f G κ μ o rest) (q_i (zb_i (pr_l rs g a b c)) (hp_f G κ μ o rest)) := by
  refine aw_iconst (v := 0) dd_mo_lets_0 (by decide) ?_
  refine aw_istore (lv' := [(5, _), (0, _), (1, _), (2, _), (3, _), (4, _)]) dd_mo_lets_1 (by decide) rfl ?_
  refine aw_iconst (v := 0) dd_mo_lets_3 (by decide) ?_
  refine aw_istore (lv' := [(6, _), (5, _), (0, _), (1, _), (2, _), (3, _), (4, _)]) dd_mo_lets_4 (by decide) rfl ?_
  exact wl_mo_lets G κ μ o rest hR g ha hb hc rs.length 0 (Nat.zero_add _)
theorem wc_mo_rolesIn (G : ag_T) (κ : ck_T) (μ : cm_T) (o : Nat → Int64) (rest : List va_E) {n : Nat} (hn : μ.1 1 = nI n) (hn6 : n ≤ 6) {s v : Nat} (hs : s < 2 ^ 31) (hv : v * n < 32) : aw_w G mm_mo_rolesIn 0 0 0 0 0 (lv_args 0 [.ref (G.1 + 13), .int (nI s), .int (nI v)]) [] (hp_f G κ μ o rest) (q_i (nI (pi_r n s v)) (hp_f G κ μ o rest)) := by
  refine aw_iload_n dd_mo_rolesIn_0 rfl 1 rfl ?_
  refine aw_iload_n dd_mo_rolesIn_1 rfl 2 rfl ?_
  refine aw_aload_n dd_mo_rolesIn_2 rfl 0 rfl ?_
  refine aw_getf _ 5 1 dd_mo_rolesIn_3 fl_mo_69 rfl rfl ?_
  refine aw_top hn ?_
  refine aw_imul dd_mo_rolesIn_6 ?_
  refine aw_top (nI_mul _ _) ?_
  refine aw_ishr dd_mo_rolesIn_7 ?_
  refine aw_top (nI_shr hs hv) ?_
  refine aw_iconst (v := (nI 1)) dd_mo_rolesIn_8 (by decide) ?_
  refine aw_aload_n dd_mo_rolesIn_9 rfl 0 rfl ?_
  refine aw_getf _ 5 1 dd_mo_rolesIn_10 fl_mo_69 rfl rfl ?_
  refine aw_top hn ?_
  refine aw_ishl dd_mo_rolesIn_13 ?_
  refine aw_top (nI_shl _ (by omega)) ?_
  refine aw_iconst (v := (nI 1)) dd_mo_rolesIn_14 (by decide) ?_
  refine aw_isub dd_mo_rolesIn_15 ?_
  refine aw_top (nI_sub (by rw [Nat.one_shiftLeft]; exact Nat.two_pow_pos n)) ?_
  refine aw_iand dd_mo_rolesIn_16 ?_
  refine aw_top (nI_and _ _) ?_
  rw [Nat.one_shiftLeft]
  exact aw_iret dd_mo_rolesIn_17 rfl ⟨rfl, rfl⟩
theorem wc_mo_has (G : ag_T) (κ : ck_T) (μ : cm_T) (o : Nat → Int64) (rest : List va_E) {n : Nat} {bel : Nat → Nat} (hB : rm_c μ n bel) {s v r : Nat} (hs : s < 2 ^ 31) (hv : v * n < 32) (hr : r < 32) : aw_w G mm_mo_has 1 23 0 0 0 (lv_args 0 [.ref (G.1 + 13), .int (nI s), .int (nI v), .int (nI r)]) [] (hp_f G κ μ o rest) (q_i (zb_i ((pc_f bel (pi_r n s v) n).testBit r)) (hp_f G κ μ o rest)) := by
  refine aw_aload_n dd_mo_has_0 rfl 0 rfl ?_
  refine aw_aload_n dd_mo_has_1 rfl 0 rfl ?_
  refine aw_iload_n dd_mo_has_2 rfl 1 rfl ?_
  refine aw_iload_n dd_mo_has_3 rfl 2 rfl ?_
  refine aw_cVi mm_mo_rolesIn 0 0 _ 5 [_, _] _ (wc_mo_rolesIn G κ μ o rest hB.1 hB.2.1 hs hv) dd_mo_has_4 cv_mo_131 my_mo_rolesIn np_mo_rolesIn rfl rfl rfl (by decide) rfl rfl (Nat.le_of_ble_eq_true rfl) (Nat.le_of_ble_eq_true rfl) ?_
  refine aw_cVi mm_mo_closed 0 0 _ 5 [_] _ (wc_mo_closed G κ μ o rest hB (pi_lt n s v hB.2.1)) dd_mo_has_7 cv_mo_75 my_mo_closed np_mo_closed rfl rfl rfl (by decide) rfl rfl (Nat.le_of_ble_eq_true rfl) (Nat.le_of_ble_eq_true rfl) ?_
  refine aw_iload_n dd_mo_has_10 rfl 3 rfl ?_
  refine aw_ishr dd_mo_has_11 ?_
  refine aw_iconst (v := 1) dd_mo_has_12 (by decide) ?_
  refine aw_iand dd_mo_has_13 ?_
  refine aw_top (nI_bit (by have := pc_64 hB.2.2.2 (pi_lt n s v hB.2.1) n; omega) hr) ?_
  refine aw_iconst (v := 1) dd_mo_has_14 (by decide) ?_
  refine aw_icmp_ne (tgt := 22) dd_mo_has_15 (by decide) (fun h1 => ?_) (fun h1 => ?_)
  · refine aw_iconst (v := 0) dd_mo_has_22 (by decide) ?_
    exact aw_zret dd_mo_has_23 rfl (by first | exact Or.inl rfl | exact Or.inr rfl) ⟨by simp_all [zb_q1, zb_i], rfl⟩
  · refine aw_iconst (v := 1) dd_mo_has_18 (by decide) ?_
    refine aw_goto (tgt := 23) dd_mo_has_19 (by decide) ?_
    exact aw_zret dd_mo_has_23 rfl (by first | exact Or.inl rfl | exact Or.inr rfl) ⟨by simp_all [zb_q1, zb_i], rfl⟩
end
section
/-! ===== the reference: calls ===== -/
theorem bt_ne {b : Bool} (h : b = true) : ¬ b = false := by rw [h]; decide
theorem wn_f {b : Bool} {n : Int32} (h : b = false) : (if b = true then (0 : Int32) else n) = n := by rw [h]; rfl
theorem wn_t {b : Bool} {n : Int32} (h : ¬ b = false) : (if b = true then (0 : Int32) else n) = 0 := by rw [Bool.not_eq_false] at h; rw [h]; rfl
theorem up_e {f : Nat → Int32} {g : Nat → Nat} {m j x : Nat} (h : ∀ r, r < m → f r = nI (g r)) : ∀ r, r < m → upd f j (nI x) r = nI (up_f g j x r) := by
  intro r hr
  unfold upd up_f
  split
  · rfl
  · exact h r hr
theorem up_b {g : Nat → Nat} {j x N : Nat} (h : ∀ r, g r < N) (hx : x < N) : ∀ r, up_f g j x r < N := by
  intro r
  unfold up_f
  split
  · exact hx
  · exact h r
theorem up_z {f : Nat → Int32} {g : Nat → Nat} {m j : Nat} (h : ∀ r, r < m → f r = nI (g r)) (hj : g j = 0) : ∀ r, r < m → upd f j 0 r = nI (g r) := by
  intro r hr
  unfold upd
  split
  · rename_i e; subst e; rw [hj]; rfl
  · exact h r hr
theorem wc_mo_role (G : ag_T) (κ : ck_T) (μ : cm_T) (o : Nat → Int64) (rest : List va_E) {A : aa_T} (hR : rm_R μ A) (hW : wa_W A) : aw_w G mm_mo_role 1 22 0 0 0 (lv_args 0 [.ref (G.1 + 13)]) [] (hp_f G κ μ o rest) (qm_R G κ o rest (ab_role A)) := by
  obtain ⟨hB, hGr, hU, hSL, hDL, hRs, hSs⟩ := id hR; have hn6 := hB.2.1; have hu5 := hU.2.1
  refine aw_aload_n dd_mo_role_0 rfl 0 rfl ?_
  refine aw_join (tgt := 15) (v := zb_i (decide (ga_n A < 6))) ?_ (fun kj1 => ?_)
  · refine aw_iconst (v := 1) dd_mo_role_15 (by decide) ?_
    refine aw_cVi mm_mo_when 0 0 _ 5 [_, _] _ (wc_mo_when G κ _ o rest _ _) dd_mo_role_16 cv_mo_86 my_mo_when np_mo_when rfl rfl rfl (by decide) rfl rfl (Nat.le_of_ble_eq_true rfl) (Nat.le_of_ble_eq_true rfl) ?_
    refine aw_if_ne (tgt := 24) dd_mo_role_19 (by decide) (fun hw => ?_) (fun hw => ?_)
    · have hw1 := bt_ne (zb_n0 hw)
      clear hw
      have hn : ga_n A < 6 := by simpa using hw1
      rw [ab_role, if_pos hn]
      refine aw_aload_n dd_mo_role_24 rfl 0 rfl ?_
      refine aw_getf _ 5 3 dd_mo_role_25 fl_mo_7 rfl rfl ?_
      refine aw_aload_n dd_mo_role_28 rfl 0 rfl ?_
      refine aw_getf _ 5 1 dd_mo_role_29 fl_mo_69 rfl rfl ?_
      refine aw_top (hB.1) ?_
      refine aw_iconst (v := 0) dd_mo_role_32 (by decide) ?_
      refine aw_isN _ (ga_n A) dd_mo_role_33 rfl (by omega) (by decide) ?_
      refine aw_h (hs_ma0 G _ _ _ _ _ _) ?_
      refine aw_aload_n dd_mo_role_34 rfl 0 rfl ?_
      refine aw_getf _ 5 4 dd_mo_role_35 fl_mo_13 rfl rfl ?_
      refine aw_aload_n dd_mo_role_38 rfl 0 rfl ?_
      refine aw_getf _ 5 1 dd_mo_role_39 fl_mo_69 rfl rfl ?_
      refine aw_top (hB.1) ?_
      refine aw_iconst (v := 0) dd_mo_role_42 (by decide) ?_
      refine aw_isN _ (ga_n A) dd_mo_role_43 rfl (by omega) (by decide) ?_
      refine aw_h (hs_ma1 G _ _ _ _ _ _) ?_
      refine aw_aload_n dd_mo_role_44 rfl 0 rfl ?_
      refine aw_dup dd_mo_role_45 rfl ?_
      refine aw_getf _ 5 1 dd_mo_role_46 fl_mo_69 rfl rfl ?_
      refine aw_top (hB.1) ?_
      refine aw_iconst (v := 1) dd_mo_role_49 (by decide) ?_
      refine aw_iadd dd_mo_role_50 ?_
      refine aw_top (nI_1 _) ?_
      refine aw_putf _ 5 1 dd_mo_role_51 fl_mo_69 nf_mo_1 rfl (rfl) (rfl) (Nat.le_of_ble_eq_true rfl) ?_
      refine aw_h (hs_ms1 G _ _ _ _ _) ?_
      refine aw_aload_n dd_mo_role_54 rfl 0 rfl ?_
      refine aw_getf _ 5 1 dd_mo_role_55 fl_mo_69 rfl rfl ?_
      refine aw_iconst (v := (nI 1)) dd_mo_role_58 (by decide) ?_
      refine aw_isub dd_mo_role_59 ?_
      refine aw_top (nI_sub (by omega)) ?_
      rw [Nat.add_sub_cancel]
      exact aw_iret dd_mo_role_60 rfl ⟨_, rfl, fun _ => rfl, _, rfl, ⟨⟨rfl, by show ga_n A + 1 ≤ 6; omega, up_z hB.2.2.1 (hW.1 _ (Nat.le_refl _)).1, hB.2.2.2⟩, ⟨up_z hGr.1 (hW.1 _ (Nat.le_refl _)).2, hGr.2⟩, hU, hSL, hDL, hRs, hSs⟩, wn_t hw1⟩
    · replace hw := zb_e0 hw
      have hn : ¬ ga_n A < 6 := by simpa using hw
      rw [ab_role, if_neg hn]
      refine aw_iconst (v := 0) dd_mo_role_22 (by decide) ?_
      exact aw_iret dd_mo_role_23 rfl ⟨_, rfl, fun h0 => absurd (show (1 : Int32) = 0 from h0) (by decide), _, rfl, hR, wn_f hw⟩
  · refine aw_aload_n dd_mo_role_1 rfl 0 rfl ?_
    refine aw_getf _ 5 1 dd_mo_role_2 fl_mo_69 rfl rfl ?_
    refine aw_top (hB.1) ?_
    refine aw_bipush (v := (nI 6)) dd_mo_role_5 (by decide) ?_
    refine aw_icmp_ge (tgt := 14) dd_mo_role_7 (by decide) (fun h1 => ?_) (fun h1 => ?_)
    · refine aw_iconst (v := 0) dd_mo_role_14 (by decide) ?_
      exact aw_top (by rw [nI_leI (by omega) (by omega)] at h1; simp [zb_i]; omega) kj1
    · refine aw_iconst (v := 1) dd_mo_role_10 (by decide) ?_
      refine aw_goto (tgt := 15) dd_mo_role_11 (by decide) ?_
      exact aw_top (by rw [nI_leI (by omega) (by omega)] at h1; simp [zb_i]; omega) kj1
theorem wc_mo_user (G : ag_T) (κ : ck_T) (μ : cm_T) (o : Nat → Int64) (rest : List va_E) {A : aa_T} (hR : rm_R μ A) (hW : wa_W A) : aw_w G mm_mo_user 1 22 0 0 0 (lv_args 0 [.ref (G.1 + 13)]) [] (hp_f G κ μ o rest) (qm_R G κ o rest (ab_user A)) := by
  obtain ⟨hB, hGr, hU, hSL, hDL, hRs, hSs⟩ := id hR; have hn6 := hB.2.1; have hu5 := hU.2.1
  refine aw_aload_n dd_mo_user_0 rfl 0 rfl ?_
  refine aw_join (tgt := 14) (v := zb_i (decide (ga_u A < 5))) ?_ (fun kj1 => ?_)
  · refine aw_iconst (v := 1) dd_mo_user_14 (by decide) ?_
    refine aw_cVi mm_mo_when 0 0 _ 5 [_, _] _ (wc_mo_when G κ _ o rest _ _) dd_mo_user_15 cv_mo_86 my_mo_when np_mo_when rfl rfl rfl (by decide) rfl rfl (Nat.le_of_ble_eq_true rfl) (Nat.le_of_ble_eq_true rfl) ?_
    refine aw_if_ne (tgt := 23) dd_mo_user_18 (by decide) (fun hw => ?_) (fun hw => ?_)
    · have hw1 := bt_ne (zb_n0 hw)
      clear hw
      have hn : ga_u A < 5 := by simpa using hw1
      rw [ab_user, if_pos hn]
      refine aw_aload_n dd_mo_user_23 rfl 0 rfl ?_
      refine aw_getf _ 5 6 dd_mo_user_24 fl_mo_19 rfl rfl ?_
      refine aw_aload_n dd_mo_user_27 rfl 0 rfl ?_
      refine aw_getf _ 5 2 dd_mo_user_28 fl_mo_72 rfl rfl ?_
      refine aw_top (hU.1) ?_
      refine aw_iconst (v := 0) dd_mo_user_31 (by decide) ?_
      refine aw_isN _ (ga_u A) dd_mo_user_32 rfl (by omega) (by decide) ?_
      refine aw_h (hs_ma3 G _ _ _ _ _ _) ?_
      refine aw_aload_n dd_mo_user_33 rfl 0 rfl ?_
      refine aw_dup dd_mo_user_34 rfl ?_
      refine aw_getf _ 5 2 dd_mo_user_35 fl_mo_72 rfl rfl ?_
      refine aw_top (hU.1) ?_
      refine aw_iconst (v := 1) dd_mo_user_38 (by decide) ?_
      refine aw_iadd dd_mo_user_39 ?_
      refine aw_top (nI_1 _) ?_
      refine aw_putf _ 5 2 dd_mo_user_40 fl_mo_72 nf_mo_2 rfl (rfl) (rfl) (Nat.le_of_ble_eq_true rfl) ?_
      refine aw_h (hs_ms2 G _ _ _ _ _) ?_
      refine aw_aload_n dd_mo_user_43 rfl 0 rfl ?_
      refine aw_getf _ 5 2 dd_mo_user_44 fl_mo_72 rfl rfl ?_
      refine aw_iconst (v := (nI 1)) dd_mo_user_47 (by decide) ?_
      refine aw_isub dd_mo_user_48 ?_
      refine aw_top (nI_sub (by omega)) ?_
      rw [Nat.add_sub_cancel]
      exact aw_iret dd_mo_user_49 rfl ⟨_, rfl, fun _ => rfl, _, rfl, ⟨hB, hGr, ⟨rfl, by show ga_u A + 1 ≤ 5; omega, up_z hU.2.2.1 (hW.2.1 _ (Nat.le_refl _)), hU.2.2.2⟩, hSL, hDL, hRs, hSs⟩, wn_t hw1⟩
    · replace hw := zb_e0 hw
      have hn : ¬ ga_u A < 5 := by simpa using hw
      rw [ab_user, if_neg hn]
      refine aw_iconst (v := 0) dd_mo_user_21 (by decide) ?_
      exact aw_iret dd_mo_user_22 rfl ⟨_, rfl, fun h0 => absurd (show (1 : Int32) = 0 from h0) (by decide), _, rfl, hR, wn_f hw⟩
  · refine aw_aload_n dd_mo_user_1 rfl 0 rfl ?_
    refine aw_getf _ 5 2 dd_mo_user_2 fl_mo_72 rfl rfl ?_
    refine aw_top (hU.1) ?_
    refine aw_iconst (v := (nI 5)) dd_mo_user_5 (by decide) ?_
    refine aw_icmp_ge (tgt := 13) dd_mo_user_6 (by decide) (fun h1 => ?_) (fun h1 => ?_)
    · refine aw_iconst (v := 0) dd_mo_user_13 (by decide) ?_
      exact aw_top (by rw [nI_leI (by omega) (by omega)] at h1; simp [zb_i]; omega) kj1
    · refine aw_iconst (v := 1) dd_mo_user_9 (by decide) ?_
      refine aw_goto (tgt := 14) dd_mo_user_10 (by decide) ?_
      exact aw_top (by rw [nI_leI (by omega) (by omega)] at h1; simp [zb_i]; omega) kj1
theorem wc_mo_grant (G : ag_T) (κ : ck_T) (μ : cm_T) (o : Nat → Int64) (rest : List va_E) {A : aa_T} (hR : rm_R μ A) (x y : Int32) : aw_w G mm_mo_grant 1 22 0 0 0 (lv_args 0 [.ref (G.1 + 13), .int x, .int y]) [] (hp_f G κ μ o rest) (qm_R G κ o rest (ab_grant A x y)) := by
  obtain ⟨hB, hGr, hU, hSL, hDL, hRs, hSs⟩ := id hR; have hn6 := hB.2.1; have hu5 := hU.2.1
  refine aw_aload_n dd_mo_grant_0 rfl 0 rfl ?_
  refine aw_join (tgt := 24) (v := zb_i (rb_i (ga_n A) x && pm_i y)) ?_ (fun kj1 => ?_)
  · refine aw_iconst (v := 1) dd_mo_grant_24 (by decide) ?_
    refine aw_cVi mm_mo_when 0 0 _ 5 [_, _] _ (wc_mo_when G κ _ o rest _ _) dd_mo_grant_25 cv_mo_86 my_mo_when np_mo_when rfl rfl rfl (by decide) rfl rfl (Nat.le_of_ble_eq_true rfl) (Nat.le_of_ble_eq_true rfl) ?_
    refine aw_if_ne (tgt := 33) dd_mo_grant_28 (by decide) (fun hw => ?_) (fun hw => ?_)
    · have hw1 := bt_ne (zb_n0 hw)
      clear hw
      rw [ab_grant, if_neg hw1]
      obtain ⟨h8, h9⟩ := Bool.and_eq_true_iff.mp (Bool.not_eq_false _ ▸ hw1)
      obtain ⟨j, hj, rfl⟩ := rb_n (by omega) h8
      obtain ⟨q, hq, rfl⟩ := pm_n h9
      rw [iN_n (by omega), iN_n (by omega)]
      refine aw_join (tgt := 51) (v := zb_i (!(ga_g A j).testBit q)) ?_ (fun kj33 => ?_)
      · refine aw_istore_n (lv' := [(3, _), (0, _), (1, _), (2, _)]) dd_mo_grant_51 rfl (by decide) rfl ?_
        refine aw_aload_n dd_mo_grant_52 rfl 1 rfl ?_
        refine aw_getf _ 5 4 dd_mo_grant_53 fl_mo_13 rfl rfl ?_
        refine aw_iload_n dd_mo_grant_56 rfl 2 rfl ?_
        refine aw_aload_n dd_mo_grant_57 rfl 1 rfl ?_
        refine aw_getf _ 5 4 dd_mo_grant_58 fl_mo_13 rfl rfl ?_
        refine aw_iload_n dd_mo_grant_61 rfl 2 rfl ?_
        refine aw_iaN _ (j) dd_mo_grant_62 rfl (by omega) (by decide) ?_
        refine aw_top (hGr.1 j (by omega)) ?_
        refine aw_iconst (v := (nI 1)) dd_mo_grant_63 (by decide) ?_
        refine aw_iload_n dd_mo_grant_64 rfl 3 rfl ?_
        refine aw_ishl dd_mo_grant_65 ?_
        refine aw_top (nI_shl 1 (by omega)) ?_
        refine aw_ior dd_mo_grant_66 ?_
        refine aw_top (nI_or _ _) ?_
        refine aw_isN _ (j) dd_mo_grant_67 rfl (by omega) (by decide) ?_
        refine aw_h (hs_ma1 G _ _ _ _ _ _) ?_
        refine aw_iload_n dd_mo_grant_68 rfl 0 rfl ?_
        exact aw_zret dd_mo_grant_69 rfl (zb_01 _) ⟨_, rfl, fun _ => rfl, _, rfl, ⟨hB, ⟨up_e hGr.1, up_b hGr.2 (bt_or (n := 31) (hGr.2 j) (bt_1 (by omega)))⟩, hU, hSL, hDL, hRs, hSs⟩, wn_t hw1⟩
      · refine aw_aload_n dd_mo_grant_33 rfl 0 rfl ?_
        refine aw_getf _ 5 4 dd_mo_grant_34 fl_mo_13 rfl rfl ?_
        refine aw_iload_n dd_mo_grant_37 rfl 1 rfl ?_
        refine aw_iaN _ (j) dd_mo_grant_38 rfl (by omega) (by decide) ?_
        refine aw_top (hGr.1 j (by omega)) ?_
        refine aw_iload_n dd_mo_grant_39 rfl 2 rfl ?_
        refine aw_ishr dd_mo_grant_40 ?_
        refine aw_iconst (v := 1) dd_mo_grant_41 (by decide) ?_
        refine aw_iand dd_mo_grant_42 ?_
        refine aw_top (nI_bit (hGr.2 j) (by omega)) ?_
        refine aw_if_ne (tgt := 50) dd_mo_grant_43 (by decide) (fun h4 => ?_) (fun h4 => ?_)
        · refine aw_iconst (v := 0) dd_mo_grant_50 (by decide) ?_
          exact aw_top (by simp_all [zb_q0, zb_q1, zb_i]) kj33
        · refine aw_iconst (v := 1) dd_mo_grant_46 (by decide) ?_
          refine aw_goto (tgt := 51) dd_mo_grant_47 (by decide) ?_
          exact aw_top (by simp_all [zb_q0, zb_q1, zb_i]) kj33
    · replace hw := zb_e0 hw
      rw [ab_grant, if_pos hw]
      refine aw_iconst (v := 0) dd_mo_grant_31 (by decide) ?_
      exact aw_zret dd_mo_grant_32 rfl (by first | exact Or.inl rfl | exact Or.inr rfl) ⟨_, rfl, fun h0 => absurd (show (1 : Int32) = 0 from h0) (by decide), _, rfl, hR, wn_f hw⟩
  · refine aw_aload_n dd_mo_grant_1 rfl 0 rfl ?_
    refine aw_iload_n dd_mo_grant_2 rfl 1 rfl ?_
    refine aw_cVi mm_mo_isRole 0 0 _ 5 [_] _ (wc_mo_isRole G κ _ o rest (n := ga_n A) hB.1 _) dd_mo_grant_3 cv_mo_90 my_mo_isRole np_mo_isRole rfl rfl rfl (by decide) rfl rfl (Nat.le_of_ble_eq_true rfl) (Nat.le_of_ble_eq_true rfl) ?_
    refine aw_if_eq (tgt := 23) dd_mo_grant_6 (by decide) (fun h1 => ?_) (fun h1 => ?_)
    · refine aw_iconst (v := 0) dd_mo_grant_23 (by decide) ?_
      exact aw_top (by simp_all [zb_q0, zb_q1, zb_i, pm_i]) kj1
    · refine aw_iload_n dd_mo_grant_9 rfl 2 rfl ?_
      refine aw_if_lt (tgt := 23) dd_mo_grant_10 (by decide) (fun h2 => ?_) (fun h2 => ?_)
      · refine aw_iconst (v := 0) dd_mo_grant_23 (by decide) ?_
        exact aw_top (by simp_all [zb_q0, zb_q1, zb_i, pm_i]) kj1
      · refine aw_iload_n dd_mo_grant_13 rfl 2 rfl ?_
        refine aw_bipush (v := 30) dd_mo_grant_14 (by decide) ?_
        refine aw_icmp_gt (tgt := 23) dd_mo_grant_16 (by decide) (fun h3 => ?_) (fun h3 => ?_)
        · refine aw_iconst (v := 0) dd_mo_grant_23 (by decide) ?_
          exact aw_top (by simp_all [zb_q0, zb_q1, zb_i, pm_i]) kj1
        · refine aw_iconst (v := 1) dd_mo_grant_19 (by decide) ?_
          refine aw_goto (tgt := 24) dd_mo_grant_20 (by decide) ?_
          exact aw_top (by simp_all [zb_q0, zb_q1, zb_i, pm_i]) kj1
/-- one session's active roles, cut -/
def cu_x (n : Nat) (bel asg : Nat → Nat) (so : Nat → Option Nat) (sa : Nat → Nat) (s : Nat) : Int32 := if (so s).isSome = true then nI (sa s &&& pc_f bel (asg ((so s).getD 0)) n) else 0
theorem cu_ok {μ : cm_T} {A : aa_T} {f9 : Nat → Int32} {j k : Nat} (hB : rm_c μ (ga_n A) (ga_b A)) (hSs : rm_s μ (ga_o A) (ga_c A)) (hW : wa_W A) (hf : ∀ s, s < 4 → f9 s = cu_x (ga_n A) (ga_b A) (up_f (ga_a A) j (bt_c (ga_a A j) k)) (ga_o A) (ga_c A) s) {μ' : cm_T} (e7 : μ'.2 7 = μ.2 7 := by rfl) (e8 : μ'.2 8 = μ.2 8 := by rfl) (e9 : μ'.2 9 = f9 := by rfl) : rm_s μ' (ga_o (ab_cut A j k)) (ga_c (ab_cut A j k)) := by
  refine ⟨fun s hs => ?_, fun s => ?_⟩
  · obtain ⟨h7, h8⟩ := hSs.1 s hs
    refine ⟨by rw [e7]; exact h7, fun v hv => ?_⟩
    have hv9 : ga_o A s = some v := hv
    obtain ⟨g1, g2, g3⟩ := h8 v hv9
    refine ⟨by rw [e8]; exact g1, g2, ?_⟩
    rw [e9, hf s hs]
    unfold cu_x
    rw [hv9]
    show nI _ = nI (if ga_o A s = some j then _ else _)
    rw [hv9]
    show nI (ga_c A s &&& pc_f (ga_b A) (up_f (ga_a A) j (bt_c (ga_a A j) k) v) (ga_n A)) = _
    by_cases e : v = j
    · subst e
      rw [if_pos rfl]
      unfold up_f
      rw [if_pos rfl]
    · rw [if_neg (fun h => e (Option.some.inj h))]
      unfold up_f
      rw [if_neg e]
      have h5 := (hW.2.2.2.2.2.2.2.1 s).2 v hv9
      rw [h5.2.and]
  · show (if ga_o A s = some j then ga_c A s &&& _ else ga_c A s) < 64
    split
    · exact bt_and (n := 6) (hSs.2 s)
    · exact hSs.2 s
theorem ru_ok {μ : cm_T} {rs : pr_T} {x : Bool × Nat × Nat × Nat × Nat} (hRs : rm_r μ rs) (hx : x.2.1 < 6 ∧ x.2.2.1 < 64 ∧ x.2.2.2.1 < 64 ∧ x.2.2.2.2 < 6) (h8 : rs.length < 8) {μ' : cm_T} (e3 : μ'.1 3 = nI (rs.length + 1) := by rfl) (e10 : μ'.2 10 = upd (μ.2 10) rs.length (zb_i x.1) := by rfl) (e11 : μ'.2 11 = upd (μ.2 11) rs.length (nI x.2.1) := by rfl) (e12 : μ'.2 12 = upd (μ.2 12) rs.length (nI x.2.2.1) := by rfl) (e13 : μ'.2 13 = upd (μ.2 13) rs.length (nI x.2.2.2.1) := by rfl) (e14 : μ'.2 14 = upd (μ.2 14) rs.length (nI x.2.2.2.2) := by rfl) : rm_r μ' (rs ++ [x]) := by
  refine ⟨by rw [e3, List.length_append]; rfl, by rw [List.length_append]; exact h8, fun i y hy => ?_⟩
  rw [e10, e11, e12, e13, e14]
  by_cases hi : i < rs.length
  · rw [List.getElem?_append_left hi] at hy
    have hne : ¬ i = rs.length := Nat.ne_of_lt hi
    obtain ⟨l1, l2, l3, l4, l5, l6⟩ := hRs.2.2 i y hy
    simp only [upd, hne, if_false]
    exact ⟨l1, l2, l3, l4, l5, l6⟩
  · have hi2 : i = rs.length := by
      have := (List.getElem?_eq_some_iff.mp hy).1
      rw [List.length_append] at this
      simp at this
      omega
    subst hi2
    rw [List.getElem?_concat_length] at hy
    cases hy
    simp only [upd, if_true]
    exact ⟨trivial, trivial, trivial, trivial, trivial, hx.1, hx.2.1, hx.2.2.1, hx.2.2.2⟩
theorem wc_mo_put (G : ag_T) (κ : ck_T) (μ : cm_T) (o : Nat → Int64) (rest : List va_E) {A : aa_T} (hR : rm_R μ A) {j k : Nat} (hj : j < ga_u A) (hk : k < ga_n A) {f : Int32} (hf : ¬ f = 0) : aw_w G mm_mo_put 2 47 0 0 0 (lv_args 0 [.ref (G.1 + 13), .int (nI j), .int (nI k), .int f]) [] (hp_f G κ μ o rest) (qm_B G κ o rest (ab_put A j k f)) := by
  obtain ⟨hB, hGr, hU, hSL, hDL, hRs, hSs⟩ := id hR; have hn6 := hB.2.1; have hu5 := hU.2.1
  have hs : ga_a A j ||| 1 <<< k < 64 := bt_or (n := 6) (hU.2.2.2 j) (bt_1 (by omega))
  have ha := hU.2.2.2 j
  refine aw_aload_n dd_mo_put_0 rfl 0 rfl ?_
  refine aw_getf _ 5 6 dd_mo_put_1 fl_mo_19 rfl rfl ?_
  refine aw_iload_n dd_mo_put_4 rfl 1 rfl ?_
  refine aw_iaN _ (j) dd_mo_put_5 rfl (by omega) (by decide) ?_
  refine aw_top (hU.2.2.1 j (by omega)) ?_
  refine aw_iconst (v := (nI 1)) dd_mo_put_6 (by decide) ?_
  refine aw_iload_n dd_mo_put_7 rfl 2 rfl ?_
  refine aw_ishl dd_mo_put_8 ?_
  refine aw_top (nI_shl 1 (by omega)) ?_
  refine aw_ior dd_mo_put_9 ?_
  refine aw_top (nI_or _ _) ?_
  refine aw_istore (lv' := [(4, _), (0, _), (1, _), (2, _), (3, _)]) dd_mo_put_10 (by decide) rfl ?_
  refine aw_aload_n dd_mo_put_12 rfl 1 rfl ?_
  refine aw_aload_n dd_mo_put_13 rfl 1 rfl ?_
  refine aw_iload dd_mo_put_14 0 rfl ?_
  refine aw_cVi mm_mo_staticKept 0 0 _ 5 [_] _ (wc_mo_staticKept G κ _ o rest hB hs hSL) dd_mo_put_16 cv_mo_82 my_mo_staticKept np_mo_staticKept rfl rfl rfl (by decide) rfl rfl (Nat.le_of_ble_eq_true rfl) (Nat.le_of_ble_eq_true rfl) ?_
  refine aw_iload_n dd_mo_put_19 rfl 4 rfl ?_
  refine aw_cVi mm_mo_when 0 0 _ 5 [_, _] _ (wc_mo_when G κ _ o rest _ _) dd_mo_put_20 cv_mo_86 my_mo_when np_mo_when rfl rfl rfl (by decide) rfl rfl (Nat.le_of_ble_eq_true rfl) (Nat.le_of_ble_eq_true rfl) ?_
  refine aw_if_ne (tgt := 28) dd_mo_put_23 (by decide) (fun hw => ?_) (fun hw => ?_)
  · have hw1 := bt_ne (zb_n0 hw)
    clear hw
    rw [ab_put, if_neg hw1]
    refine aw_join (tgt := 44) (v := zb_i (decide (¬ ga_a A j ||| 1 <<< k = ga_a A j))) ?_ (fun kj28 => ?_)
    · refine aw_istore (lv' := [(5, _), (4, _), (0, _), (1, _), (2, _), (3, _)]) dd_mo_put_44 (by decide) rfl ?_
      refine aw_aload_n dd_mo_put_46 rfl 2 rfl ?_
      refine aw_getf _ 5 6 dd_mo_put_47 fl_mo_19 rfl rfl ?_
      refine aw_iload_n dd_mo_put_50 rfl 3 rfl ?_
      refine aw_iload dd_mo_put_51 1 rfl ?_
      refine aw_isN _ (j) dd_mo_put_53 rfl (by omega) (by decide) ?_
      refine aw_h (hs_ma3 G _ _ _ _ _ _) ?_
      refine aw_iload dd_mo_put_54 0 rfl ?_
      exact aw_zret dd_mo_put_56 rfl (zb_01 _) ⟨_, rfl, fun _ => rfl, zb_01 _, _, rfl, ⟨hB, hGr, ⟨hU.1, hU.2.1, up_e hU.2.2.1, up_b hU.2.2.2 hs⟩, hSL, hDL, hRs, hSs⟩, wn_t hw1⟩
    · refine aw_iload dd_mo_put_28 0 rfl ?_
      refine aw_aload_n dd_mo_put_30 rfl 1 rfl ?_
      refine aw_getf _ 5 6 dd_mo_put_31 fl_mo_19 rfl rfl ?_
      refine aw_iload_n dd_mo_put_34 rfl 2 rfl ?_
      refine aw_iaN _ (j) dd_mo_put_35 rfl (by omega) (by decide) ?_
      refine aw_top (hU.2.2.1 j (by omega)) ?_
      refine aw_icmp_eq (tgt := 43) dd_mo_put_36 (by decide) (fun h1 => ?_) (fun h1 => ?_)
      · refine aw_iconst (v := 0) dd_mo_put_43 (by decide) ?_
        exact aw_top (by rw [nI_eq (by omega) (by omega)] at h1; simp [zb_i, h1]) kj28
      · refine aw_iconst (v := 1) dd_mo_put_39 (by decide) ?_
        refine aw_goto (tgt := 44) dd_mo_put_40 (by decide) ?_
        exact aw_top (by rw [nI_eq (by omega) (by omega)] at h1; simp [zb_i, h1]) kj28
  · replace hw := zb_e0 hw
    rw [ab_put, if_pos hw]
    refine aw_iconst (v := 0) dd_mo_put_26 (by decide) ?_
    exact aw_zret dd_mo_put_27 rfl (by first | exact Or.inl rfl | exact Or.inr rfl) ⟨_, rfl, fun h0 => absurd h0 hf, Or.inl rfl, _, rfl, hR, wn_f hw⟩
theorem kv_a (μ : cm_T) (k : Nat) (f : Nat → Int32) (r : Nat) (x : Int32) : km_a (μ.1, va_up μ.2 k f) k r x = (μ.1, va_up μ.2 k (upd f r x)) := by
  unfold km_a va_up
  congr 1
  funext i
  by_cases h : i = k <;> simp [h]
theorem kv_0 (μ : cm_T) (k : Nat) : (μ.1, va_up μ.2 k (μ.2 k)) = μ := by
  unfold va_up
  congr 1
  funext i
  by_cases h : i = k <;> simp [h]
theorem wl_mo_cutSessions (G : ag_T) (κ : ck_T) (μ : cm_T) (o : Nat → Int64) (rest : List va_E) {n : Nat} {bel : Nat → Nat} (hB : rm_c μ n bel) {u : Nat} {asg : Nat → Nat} (hU : rm_u μ u asg) {so : Nat → Option Nat} {sa : Nat → Nat} (hSs : rm_s μ so sa) : ∀ (k r : Nat), r + k = 4 → ∀ f : Nat → Int32, (∀ s, s < 4 → f s = if s < r then cu_x n bel asg so sa s else μ.2 9 s) → aw_w G mm_mo_cutSessions 1 23 0 0 2 [(1, .int (nI r)), (0, .ref (G.1 + 13))] [] (hp_f G κ (μ.1, va_up μ.2 9 f) o rest) (qe_v fun h' => ∃ f, h' = hp_f G κ (μ.1, va_up μ.2 9 f) o rest ∧ ∀ s, s < 4 → f s = cu_x n bel asg so sa s) := by
  intro k
  induction k with
  | zero =>
    intro r hr f hf
    have e : r = 4 := by omega
    subst e
    refine aw_iload_n dd_mo_cutSessions_2 rfl 0 rfl ?_
    refine aw_iconst (v := 4) dd_mo_cutSessions_3 (by decide) ?_
    refine aw_icmp_ge (tgt := 54) dd_mo_cutSessions_4 (by decide) (fun _ => ?_) (fun h9 => absurd (nI_le (a := 4) (b := 4) (by decide) (by decide)) h9)
    exact aw_vret dd_mo_cutSessions_54 rfl ⟨rfl, f, rfl, fun s hs => by rw [hf s hs, if_pos hs]⟩
  | succ k ih =>
    intro r hr f hf
    have hr4 : r < 4 := by omega
    obtain ⟨h7, h8⟩ := hSs.1 r hr4
    have hfr : f r = μ.2 9 r := by rw [hf r hr4, if_neg (Nat.lt_irrefl r)]
    have go : ∀ x : Int32, x = cu_x n bel asg so sa r → ∀ s, s < 4 → upd f r x s = if s < r + 1 then cu_x n bel asg so sa s else μ.2 9 s := by
      intro x hx s hs
      unfold upd
      split
      · rename_i e; subst e; rw [if_pos (by omega)]; exact hx
      · rename_i e; rw [hf s hs]
        by_cases h9 : s < r
        · rw [if_pos h9, if_pos (by omega)]
        · rw [if_neg h9, if_neg (by omega)]
    refine aw_iload_n dd_mo_cutSessions_2 rfl 0 rfl ?_
    refine aw_iconst (v := 4) dd_mo_cutSessions_3 (by decide) ?_
    refine aw_icmp_ge (tgt := 54) dd_mo_cutSessions_4 (by decide) (fun h9 => absurd h9 (nI_ge (b := 4) (by omega) (by decide))) (fun _ => ?_)
    refine aw_aload_n dd_mo_cutSessions_7 rfl 1 rfl ?_
    refine aw_getf _ 5 12 dd_mo_cutSessions_8 fl_mo_38 rfl rfl ?_
    refine aw_iload_n dd_mo_cutSessions_11 rfl 0 rfl ?_
    refine aw_aload_n dd_mo_cutSessions_12 rfl 1 rfl ?_
    refine aw_getf _ 5 10 dd_mo_cutSessions_13 fl_mo_31 rfl rfl ?_
    refine aw_iload_n dd_mo_cutSessions_16 rfl 0 rfl ?_
    refine aw_zaN _ (r) dd_mo_cutSessions_17 rfl (hr4) (by decide) ?_
    refine aw_top h7 ?_
    refine aw_if_eq (tgt := 46) dd_mo_cutSessions_18 (by decide) (fun hc => ?_) (fun hc => ?_)
    · have hc := zb_e0 hc
      refine aw_iconst (v := 0) dd_mo_cutSessions_46 (by decide) ?_
      refine aw_isN _ (r) dd_mo_cutSessions_47 rfl (hr4) (by decide) ?_
      refine aw_h (hs_ma9 G _ _ _ _ _ _) ?_
      rw [kv_a]
      refine aw_iinc (v := nI (r + 1)) (lv' := [(1, _), (0, _)]) dd_mo_cutSessions_48 0 rfl (nI_1 _) (by decide) rfl ?_
      refine aw_goto (tgt := 2) dd_mo_cutSessions_51 (by decide) ?_
      exact ih (r + 1) (by omega) _ (go _ (by simp_all [cu_x]))
    · have hc := zb_n0 hc
      obtain ⟨v, hv⟩ := Option.isSome_iff_exists.mp hc
      obtain ⟨e8, e9, e10⟩ := h8 v hv
      refine aw_aload_n dd_mo_cutSessions_21 rfl 1 rfl ?_
      refine aw_getf _ 5 12 dd_mo_cutSessions_22 fl_mo_38 rfl rfl ?_
      refine aw_iload_n dd_mo_cutSessions_25 rfl 0 rfl ?_
      refine aw_iaN _ (r) dd_mo_cutSessions_26 rfl (hr4) (by decide) ?_
      refine aw_top (hfr.trans e10) ?_
      refine aw_aload_n dd_mo_cutSessions_27 rfl 1 rfl ?_
      refine aw_aload_n dd_mo_cutSessions_28 rfl 1 rfl ?_
      refine aw_getf _ 5 6 dd_mo_cutSessions_29 fl_mo_19 rfl rfl ?_
      refine aw_aload_n dd_mo_cutSessions_32 rfl 1 rfl ?_
      refine aw_getf _ 5 11 dd_mo_cutSessions_33 fl_mo_35 rfl rfl ?_
      refine aw_iload_n dd_mo_cutSessions_36 rfl 0 rfl ?_
      refine aw_iaN _ (r) dd_mo_cutSessions_37 rfl (hr4) (by decide) ?_
      refine aw_top e8 ?_
      refine aw_iaN _ (v) dd_mo_cutSessions_38 rfl (e9) (by decide) ?_
      refine aw_top (hU.2.2.1 v e9) ?_
      refine aw_cVi mm_mo_closed 0 0 _ 5 [_] _ (wc_mo_closed G κ (μ.1, va_up μ.2 9 f) o rest hB (hU.2.2.2 v)) dd_mo_cutSessions_39 cv_mo_75 my_mo_closed np_mo_closed rfl rfl rfl (by decide) rfl rfl (Nat.le_of_ble_eq_true rfl) (Nat.le_of_ble_eq_true rfl) ?_
      refine aw_iand dd_mo_cutSessions_42 ?_
      refine aw_top (nI_and _ _) ?_
      refine aw_goto (tgt := 47) dd_mo_cutSessions_43 (by decide) ?_
      refine aw_isN _ (r) dd_mo_cutSessions_47 rfl (hr4) (by decide) ?_
      refine aw_h (hs_ma9 G _ _ _ _ _ _) ?_
      rw [kv_a]
      refine aw_iinc (v := nI (r + 1)) (lv' := [(1, _), (0, _)]) dd_mo_cutSessions_48 0 rfl (nI_1 _) (by decide) rfl ?_
      refine aw_goto (tgt := 2) dd_mo_cutSessions_51 (by decide) ?_
      exact ih (r + 1) (by omega) _ (go _ (by simp_all [cu_x]))
theorem wc_mo_cutSessions (G : ag_T) (κ : ck_T) (μ : cm_T) (o : Nat → Int64) (rest : List va_E) {n : Nat} {bel : Nat → Nat} (hB : rm_c μ n bel) {u : Nat} {asg : Nat → Nat} (hU : rm_u μ u asg) {so : Nat → Option Nat} {sa : Nat → Nat} (hSs : rm_s μ so sa) : aw_w G mm_mo_cutSessions 1 23 0 0 0 (lv_args 0 [.ref (G.1 + 13)]) [] (hp_f G κ μ o rest) (qe_v fun h' => ∃ f, h' = hp_f G κ (μ.1, va_up μ.2 9 f) o rest ∧ ∀ s, s < 4 → f s = cu_x n bel asg so sa s) := by
  refine aw_iconst (v := 0) dd_mo_cutSessions_0 (by decide) ?_
  refine aw_istore_n (lv' := [(1, _), (0, _)]) dd_mo_cutSessions_1 rfl (by decide) rfl ?_
  rw [show hp_f G κ μ o rest = hp_f G κ (μ.1, va_up μ.2 9 (μ.2 9)) o rest by rw [kv_0]]
  exact wl_mo_cutSessions G κ μ o rest hB hU hSs 4 0 rfl (μ.2 9) (fun s _ => by rw [if_neg (Nat.not_lt_zero s)])
theorem wc_mo_drop (G : ag_T) (κ : ck_T) (μ : cm_T) (o : Nat → Int64) (rest : List va_E) {A : aa_T} (hR : rm_R μ A) (hW : wa_W A) {j k : Nat} (hj : j < ga_u A) (hk : k < ga_n A) (hf : μ.1 0 = 0) : aw_w G mm_mo_drop 2 44 0 0 0 (lv_args 0 [.ref (G.1 + 13), .int (nI j), .int (nI k)]) [] (hp_f G κ μ o rest) (qm_B G κ o rest (ab_drop A j k)) := by
  obtain ⟨hB, hGr, hU, hSL, hDL, hRs, hSs⟩ := id hR; have hn6 := hB.2.1; have hu5 := hU.2.1
  have ha := hU.2.2.2 j
  refine aw_join (tgt := 19) (v := zb_i ((ga_a A j).testBit k)) ?_ (fun kj0 => ?_)
  · refine aw_istore_n (lv' := [(3, _), (0, _), (1, _), (2, _)]) dd_mo_drop_19 rfl (by decide) rfl ?_
    refine aw_aload_n dd_mo_drop_20 rfl 1 rfl ?_
    refine aw_getf _ 5 6 dd_mo_drop_21 fl_mo_19 rfl rfl ?_
    refine aw_iload_n dd_mo_drop_24 rfl 2 rfl ?_
    refine aw_aload_n dd_mo_drop_25 rfl 1 rfl ?_
    refine aw_getf _ 5 6 dd_mo_drop_26 fl_mo_19 rfl rfl ?_
    refine aw_iload_n dd_mo_drop_29 rfl 2 rfl ?_
    refine aw_iaN _ (j) dd_mo_drop_30 rfl (by omega) (by decide) ?_
    refine aw_top (hU.2.2.1 j (by omega)) ?_
    refine aw_iconst (v := 1) dd_mo_drop_31 (by decide) ?_
    refine aw_iload_n dd_mo_drop_32 rfl 3 rfl ?_
    refine aw_ishl dd_mo_drop_33 ?_
    refine aw_iconst (v := (-1)) dd_mo_drop_34 (by decide) ?_
    refine aw_ixor dd_mo_drop_35 ?_
    refine aw_iand dd_mo_drop_36 ?_
    refine aw_top (nI_clr _ (by omega)) ?_
    refine aw_isN _ (j) dd_mo_drop_37 rfl (by omega) (by decide) ?_
    refine aw_h (hs_ma3 G _ _ _ _ _ _) ?_
    refine aw_aload_n dd_mo_drop_38 rfl 1 rfl ?_
    refine aw_cVf mm_mo_cutSessions 0 0 _ 5 [] _ (wc_mo_cutSessions G κ (km_a μ 3 j (nI (bt_c (ga_a A j) k))) o rest hB (asg := up_f (ga_a A) j (bt_c (ga_a A j) k)) ⟨hU.1, hU.2.1, up_e hU.2.2.1, up_b hU.2.2.2 (bt_cl (n := 6) ha)⟩ hSs) dd_mo_drop_39 cv_mo_110 my_mo_cutSessions np_mo_cutSessions rfl rfl rfl (by decide) rfl rfl (Nat.le_of_ble_eq_true rfl) (Nat.le_of_ble_eq_true rfl) (fun h9 hq => ?_)
    obtain ⟨f, rfl, hf9⟩ := hq
    refine aw_iload_n dd_mo_drop_42 rfl 0 rfl ?_
    exact aw_zret dd_mo_drop_43 rfl (zb_01 _) ⟨_, rfl, fun _ => rfl, zb_01 _, _, rfl, ⟨hB, hGr, ⟨hU.1, hU.2.1, up_e hU.2.2.1, up_b hU.2.2.2 (bt_cl (n := 6) ha)⟩, hSL, hDL, hRs, cu_ok hB hSs hW hf9⟩, hf⟩
  · refine aw_aload_n dd_mo_drop_0 rfl 0 rfl ?_
    refine aw_getf _ 5 6 dd_mo_drop_1 fl_mo_19 rfl rfl ?_
    refine aw_iload_n dd_mo_drop_4 rfl 1 rfl ?_
    refine aw_iaN _ (j) dd_mo_drop_5 rfl (by omega) (by decide) ?_
    refine aw_top (hU.2.2.1 j (by omega)) ?_
    refine aw_iload_n dd_mo_drop_6 rfl 2 rfl ?_
    refine aw_ishr dd_mo_drop_7 ?_
    refine aw_iconst (v := 1) dd_mo_drop_8 (by decide) ?_
    refine aw_iand dd_mo_drop_9 ?_
    refine aw_top (nI_bit (by omega) (by omega)) ?_
    refine aw_iconst (v := 1) dd_mo_drop_10 (by decide) ?_
    refine aw_icmp_ne (tgt := 18) dd_mo_drop_11 (by decide) (fun h1 => ?_) (fun h1 => ?_)
    · refine aw_iconst (v := 0) dd_mo_drop_18 (by decide) ?_
      exact aw_top (by simp_all [zb_q1, zb_i]) kj0
    · refine aw_iconst (v := 1) dd_mo_drop_14 (by decide) ?_
      refine aw_goto (tgt := 19) dd_mo_drop_15 (by decide) ?_
      exact aw_top (by simp_all [zb_q1, zb_i]) kj0
theorem wc_mo_addRule (G : ag_T) (κ : ck_T) (μ : cm_T) (o : Nat → Int64) (rest : List va_E) {A : aa_T} (hR : rm_R μ A) (x : Bool × Nat × Nat × Nat × Nat) (hx : x.2.1 < 6 ∧ x.2.2.1 < 64 ∧ x.2.2.2.1 < 64 ∧ x.2.2.2.2 < 6) (h8 : (ga_r A).length < 8) (hf : μ.1 0 = 0) : aw_w G mm_mo_addRule 0 0 0 0 0 (lv_args 0 [.ref (G.1 + 13), .int (zb_i x.1), .int (nI x.2.1), .int (nI x.2.2.1), .int (nI x.2.2.2.1), .int (nI x.2.2.2.2)]) [] (hp_f G κ μ o rest) (qm_R G κ o rest (ab_addRule A x)) := by
  obtain ⟨hB, hGr, hU, hSL, hDL, hRs, hSs⟩ := id hR; have hn6 := hB.2.1; have hu5 := hU.2.1
  refine aw_aload_n dd_mo_addRule_0 rfl 0 rfl ?_
  refine aw_getf _ 5 14 dd_mo_addRule_1 fl_mo_41 rfl rfl ?_
  refine aw_aload_n dd_mo_addRule_4 rfl 0 rfl ?_
  refine aw_getf _ 5 13 dd_mo_addRule_5 fl_mo_100 rfl rfl ?_
  refine aw_top (hRs.1) ?_
  refine aw_iload_n dd_mo_addRule_8 rfl 1 rfl ?_
  refine aw_zsN _ ((ga_r A).length) dd_mo_addRule_9 rfl (by omega) (by decide) (zb_01 _) ?_
  refine aw_h (hs_ma10 G _ _ _ _ _ _) ?_
  refine aw_aload_n dd_mo_addRule_10 rfl 0 rfl ?_
  refine aw_getf _ 5 15 dd_mo_addRule_11 fl_mo_44 rfl rfl ?_
  refine aw_aload_n dd_mo_addRule_14 rfl 0 rfl ?_
  refine aw_getf _ 5 13 dd_mo_addRule_15 fl_mo_100 rfl rfl ?_
  refine aw_top (hRs.1) ?_
  refine aw_iload_n dd_mo_addRule_18 rfl 2 rfl ?_
  refine aw_isN _ ((ga_r A).length) dd_mo_addRule_19 rfl (by omega) (by decide) ?_
  refine aw_h (hs_ma11 G _ _ _ _ _ _) ?_
  refine aw_aload_n dd_mo_addRule_20 rfl 0 rfl ?_
  refine aw_getf _ 5 16 dd_mo_addRule_21 fl_mo_47 rfl rfl ?_
  refine aw_aload_n dd_mo_addRule_24 rfl 0 rfl ?_
  refine aw_getf _ 5 13 dd_mo_addRule_25 fl_mo_100 rfl rfl ?_
  refine aw_top (hRs.1) ?_
  refine aw_iload_n dd_mo_addRule_28 rfl 3 rfl ?_
  refine aw_isN _ ((ga_r A).length) dd_mo_addRule_29 rfl (by omega) (by decide) ?_
  refine aw_h (hs_ma12 G _ _ _ _ _ _) ?_
  refine aw_aload_n dd_mo_addRule_30 rfl 0 rfl ?_
  refine aw_getf _ 5 17 dd_mo_addRule_31 fl_mo_50 rfl rfl ?_
  refine aw_aload_n dd_mo_addRule_34 rfl 0 rfl ?_
  refine aw_getf _ 5 13 dd_mo_addRule_35 fl_mo_100 rfl rfl ?_
  refine aw_top (hRs.1) ?_
  refine aw_iload dd_mo_addRule_38 4 rfl ?_
  refine aw_isN _ ((ga_r A).length) dd_mo_addRule_40 rfl (by omega) (by decide) ?_
  refine aw_h (hs_ma13 G _ _ _ _ _ _) ?_
  refine aw_aload_n dd_mo_addRule_41 rfl 0 rfl ?_
  refine aw_getf _ 5 18 dd_mo_addRule_42 fl_mo_53 rfl rfl ?_
  refine aw_aload_n dd_mo_addRule_45 rfl 0 rfl ?_
  refine aw_getf _ 5 13 dd_mo_addRule_46 fl_mo_100 rfl rfl ?_
  refine aw_top (hRs.1) ?_
  refine aw_iload dd_mo_addRule_49 5 rfl ?_
  refine aw_isN _ ((ga_r A).length) dd_mo_addRule_51 rfl (by omega) (by decide) ?_
  refine aw_h (hs_ma14 G _ _ _ _ _ _) ?_
  refine aw_aload_n dd_mo_addRule_52 rfl 0 rfl ?_
  refine aw_dup dd_mo_addRule_53 rfl ?_
  refine aw_getf _ 5 13 dd_mo_addRule_54 fl_mo_100 rfl rfl ?_
  refine aw_top (hRs.1) ?_
  refine aw_iconst (v := 1) dd_mo_addRule_57 (by decide) ?_
  refine aw_iadd dd_mo_addRule_58 ?_
  refine aw_top (nI_1 _) ?_
  refine aw_putf _ 5 13 dd_mo_addRule_59 fl_mo_100 nf_mo_13 rfl (rfl) (rfl) (Nat.le_of_ble_eq_true rfl) ?_
  refine aw_h (hs_ms3 G _ _ _ _ _) ?_
  refine aw_aload_n dd_mo_addRule_62 rfl 0 rfl ?_
  refine aw_getf _ 5 13 dd_mo_addRule_63 fl_mo_100 rfl rfl ?_
  refine aw_iconst (v := (nI 1)) dd_mo_addRule_66 (by decide) ?_
  refine aw_isub dd_mo_addRule_67 ?_
  refine aw_top (nI_sub (by omega)) ?_
  rw [Nat.add_sub_cancel]
  exact aw_iret dd_mo_addRule_68 rfl ⟨_, rfl, fun _ => rfl, _, rfl, ⟨hB, hGr, hU, hSL, hDL, ru_ok hRs hx h8, hSs⟩, hf⟩
end
section
/-! ===== the reference: calls, second half ===== -/
theorem pu_01 (A : aa_T) (j k : Nat) (f : Int32) : (ab_put A j k f).2.1 = 0 ∨ (ab_put A j k f).2.1 = 1 := by
  unfold ab_put
  split
  · exact Or.inl rfl
  · exact zb_01 _
theorem w1_e {w v : Int32} (h : w = v) (h1 : v = 0 ∨ v = 1) (h2 : ¬ w = 0) : 1 = v := by
  rcases h1 with h3 | h3
  · exact absurd (h.trans h3) h2
  · exact h3.symm
/-- after a call whose fault was taken as it is -/
theorem rm_i (A : aa_T) : ∀ s, s < 4 → ∀ v, ga_o A s = some v → ga_w A s = v := fun s _ v h => by unfold ga_w; rw [h]; rfl
theorem se_t {A : aa_T} {s : Int32} (h : se_i A s = true) : ∃ j v, j < 4 ∧ s = nI j ∧ ga_o A j = some v := by
  unfold se_i at h
  rw [Bool.and_eq_true, decide_eq_true_iff] at h
  obtain ⟨j, hj, rfl⟩ := se_n h.1.1 h.1.2
  rw [iN_n (by omega)] at h
  obtain ⟨v, hv⟩ := Option.isSome_iff_exists.mp h.2
  exact ⟨j, v, hj, rfl, hv⟩
theorem so_c {μ : cm_T} {so : Nat → Option Nat} {sa : Nat → Nat} {j : Nat} (hSs : rm_s μ so sa) {μ' : cm_T} (e7 : μ'.2 7 = upd (μ.2 7) j 0 := by rfl) (e8 : μ'.2 8 = μ.2 8 := by rfl) (e9 : μ'.2 9 = μ.2 9 := by rfl) : rm_s μ' (up_f so j none) (up_f sa j 0) := by
  refine ⟨fun s hs => ?_, fun s => ?_⟩
  · rw [e7, e8, e9]
    unfold upd up_f
    by_cases e : s = j
    · subst e; simp [zb_i]
    · rw [if_neg e, if_neg e, if_neg e]
      exact hSs.1 s hs
  · unfold up_f
    split
    · omega
    · exact hSs.2 s
theorem so_a {μ : cm_T} {so : Nat → Option Nat} {sa : Nat → Nat} {j x : Nat} (hSs : rm_s μ so sa) (hx : x < 64) {μ' : cm_T} (e7 : μ'.2 7 = μ.2 7 := by rfl) (e8 : μ'.2 8 = μ.2 8 := by rfl) (e9 : μ'.2 9 = upd (μ.2 9) j (nI x) := by rfl) : rm_s μ' so (up_f sa j x) := by
  refine ⟨fun s hs => ?_, up_b hSs.2 hx⟩
  rw [e7, e8, e9]
  obtain ⟨h1, h2⟩ := hSs.1 s hs
  refine ⟨h1, fun v hv => ?_⟩
  obtain ⟨g1, g2, g3⟩ := h2 v hv
  refine ⟨g1, g2, ?_⟩
  unfold upd up_f
  split
  · rfl
  · exact g3
theorem so_o {μ : cm_T} {so : Nat → Option Nat} {sa : Nat → Nat} {j v : Nat} (hSs : rm_s μ so sa) (hv : v < 5) {μ' : cm_T} (e7 : μ'.2 7 = upd (μ.2 7) j 1 := by rfl) (e8 : μ'.2 8 = upd (μ.2 8) j (nI v) := by rfl) (e9 : μ'.2 9 = upd (μ.2 9) j 0 := by rfl) : rm_s μ' (up_f so j (some v)) (up_f sa j 0) := by
  refine ⟨fun s hs => ?_, up_b hSs.2 (by decide)⟩
  rw [e7, e8, e9]
  unfold upd up_f
  by_cases e : s = j
  · subst e
    simp only [if_true]
    refine ⟨rfl, fun w hw => ?_⟩
    cases hw
    exact ⟨rfl, hv, rfl⟩
  · simp only [if_neg e]
    exact hSs.1 s hs
theorem wc_mo_assign (G : ag_T) (κ : ck_T) (μ : cm_T) (o : Nat → Int64) (rest : List va_E) {A : aa_T} (hR : rm_R μ A) (x y : Int32) : aw_w G mm_mo_assign 3 72 0 0 0 (lv_args 0 [.ref (G.1 + 13), .int x, .int y]) [] (hp_f G κ μ o rest) (qm_R G κ o rest (ab_assign A x y)) := by
  obtain ⟨hB, hGr, hU, hSL, hDL, hRs, hSs⟩ := id hR; have hn6 := hB.2.1; have hu5 := hU.2.1
  refine aw_aload_n dd_mo_assign_0 rfl 0 rfl ?_
  refine aw_join (tgt := 22) (v := zb_i (rb_i (ga_u A) x && rb_i (ga_n A) y)) ?_ (fun kj1 => ?_)
  · refine aw_iconst (v := 1) dd_mo_assign_22 (by decide) ?_
    refine aw_cVi mm_mo_when 0 0 _ 5 [_, _] _ (wc_mo_when G κ _ o rest _ _) dd_mo_assign_23 cv_mo_86 my_mo_when np_mo_when rfl rfl rfl (by decide) rfl rfl (Nat.le_of_ble_eq_true rfl) (Nat.le_of_ble_eq_true rfl) ?_
    refine aw_if_eq (tgt := 43) dd_mo_assign_26 (by decide) (fun hw => ?_) (fun hw => ?_)
    · replace hw := zb_e0 hw
      rw [ab_assign, if_pos hw]
      refine aw_iconst (v := 0) dd_mo_assign_43 (by decide) ?_
      exact aw_zret dd_mo_assign_44 rfl (by first | exact Or.inl rfl | exact Or.inr rfl) (by first | exact ⟨_, rfl, fun h0 => absurd (show (1 : Int32) = 0 from h0) (by decide), _, rfl, hR, wn_f hw⟩ | exact ⟨_, rfl, fun h0 => h3.symm.trans (e1 h0), μ1, rfl, e3, e4⟩ | exact ⟨_, rfl, fun h0 => w1_e (e1 h0) (pu_01 A j k 2) h3, μ1, rfl, e3, e4⟩)
    · have hw1 := bt_ne (zb_n0 hw)
      clear hw
      rw [ab_assign, if_neg hw1]
      obtain ⟨h8, h9⟩ := Bool.and_eq_true_iff.mp (Bool.not_eq_false _ ▸ hw1)
      obtain ⟨j, hj, rfl⟩ := rb_n (by omega) h8
      obtain ⟨k, hk, rfl⟩ := rb_n (by omega) h9
      rw [iN_n (by omega), iN_n (by omega)]
      refine aw_aload_n dd_mo_assign_29 rfl 0 rfl ?_
      refine aw_iload_n dd_mo_assign_30 rfl 1 rfl ?_
      refine aw_iload_n dd_mo_assign_31 rfl 2 rfl ?_
      refine aw_iconst (v := 2) dd_mo_assign_32 (by decide) ?_
      refine aw_cVe mm_mo_put 0 0 _ 5 [_, _, _] _ (wc_mo_put G κ (km_s μ 0 (if (rb_i (ga_u A) (nI j) && rb_i (ga_n A) (nI k)) = true then 0 else 1)) o rest hR hj hk (by decide)) dd_mo_assign_33 cv_mo_116 my_mo_put np_mo_put rfl rfl rfl (by decide) rfl rfl (Nat.le_of_ble_eq_true rfl) (Nat.le_of_ble_eq_true rfl) (fun w9 h9 hq => ?_)
      obtain ⟨e1, e0, μ1, rfl, e3, e4⟩ := hq
      refine aw_if_eq (tgt := 43) dd_mo_assign_36 (by decide) (fun h3 => ?_) (fun h3 => ?_)
      · refine aw_iconst (v := 0) dd_mo_assign_43 (by decide) ?_
        exact aw_zret dd_mo_assign_44 rfl (by first | exact Or.inl rfl | exact Or.inr rfl) (by first | exact ⟨_, rfl, fun h0 => absurd (show (1 : Int32) = 0 from h0) (by decide), _, rfl, hR, wn_f hw⟩ | exact ⟨_, rfl, fun h0 => h3.symm.trans (e1 h0), μ1, rfl, e3, e4⟩ | exact ⟨_, rfl, fun h0 => w1_e (e1 h0) (pu_01 A j k 2) h3, μ1, rfl, e3, e4⟩)
      · refine aw_iconst (v := 1) dd_mo_assign_39 (by decide) ?_
        refine aw_goto (tgt := 44) dd_mo_assign_40 (by decide) ?_
        exact aw_zret dd_mo_assign_44 rfl (by first | exact Or.inl rfl | exact Or.inr rfl) (by first | exact ⟨_, rfl, fun h0 => absurd (show (1 : Int32) = 0 from h0) (by decide), _, rfl, hR, wn_f hw⟩ | exact ⟨_, rfl, fun h0 => h3.symm.trans (e1 h0), μ1, rfl, e3, e4⟩ | exact ⟨_, rfl, fun h0 => w1_e (e1 h0) (pu_01 A j k 2) h3, μ1, rfl, e3, e4⟩)
  · refine aw_aload_n dd_mo_assign_1 rfl 0 rfl ?_
    refine aw_iload_n dd_mo_assign_2 rfl 1 rfl ?_
    refine aw_cVi mm_mo_isUser 0 0 _ 5 [_] _ (wc_mo_isUser G κ _ o rest (n := ga_u A) hU.1 _) dd_mo_assign_3 cv_mo_113 my_mo_isUser np_mo_isUser rfl rfl rfl (by decide) rfl rfl (Nat.le_of_ble_eq_true rfl) (Nat.le_of_ble_eq_true rfl) ?_
    refine aw_if_eq (tgt := 21) dd_mo_assign_6 (by decide) (fun h1 => ?_) (fun h1 => ?_)
    · refine aw_iconst (v := 0) dd_mo_assign_21 (by decide) ?_
      exact aw_top (by simp_all [zb_q0, zb_q1, zb_i]) kj1
    · refine aw_aload_n dd_mo_assign_9 rfl 0 rfl ?_
      refine aw_iload_n dd_mo_assign_10 rfl 2 rfl ?_
      refine aw_cVi mm_mo_isRole 0 0 _ 5 [_] _ (wc_mo_isRole G κ _ o rest (n := ga_n A) hB.1 _) dd_mo_assign_11 cv_mo_90 my_mo_isRole np_mo_isRole rfl rfl rfl (by decide) rfl rfl (Nat.le_of_ble_eq_true rfl) (Nat.le_of_ble_eq_true rfl) ?_
      refine aw_if_eq (tgt := 21) dd_mo_assign_14 (by decide) (fun h2 => ?_) (fun h2 => ?_)
      · refine aw_iconst (v := 0) dd_mo_assign_21 (by decide) ?_
        exact aw_top (by simp_all [zb_q0, zb_q1, zb_i]) kj1
      · refine aw_iconst (v := 1) dd_mo_assign_17 (by decide) ?_
        refine aw_goto (tgt := 22) dd_mo_assign_18 (by decide) ?_
        exact aw_top (by simp_all [zb_q0, zb_q1, zb_i]) kj1
theorem wc_mo_remove (G : ag_T) (κ : ck_T) (μ : cm_T) (o : Nat → Int64) (rest : List va_E) {A : aa_T} (hR : rm_R μ A) (hW : wa_W A) (x y : Int32) : aw_w G mm_mo_remove 3 67 0 0 0 (lv_args 0 [.ref (G.1 + 13), .int x, .int y]) [] (hp_f G κ μ o rest) (qm_R G κ o rest (ab_remove A x y)) := by
  obtain ⟨hB, hGr, hU, hSL, hDL, hRs, hSs⟩ := id hR; have hn6 := hB.2.1; have hu5 := hU.2.1
  refine aw_aload_n dd_mo_remove_0 rfl 0 rfl ?_
  refine aw_join (tgt := 22) (v := zb_i (rb_i (ga_u A) x && rb_i (ga_n A) y)) ?_ (fun kj1 => ?_)
  · refine aw_iconst (v := 1) dd_mo_remove_22 (by decide) ?_
    refine aw_cVi mm_mo_when 0 0 _ 5 [_, _] _ (wc_mo_when G κ _ o rest _ _) dd_mo_remove_23 cv_mo_86 my_mo_when np_mo_when rfl rfl rfl (by decide) rfl rfl (Nat.le_of_ble_eq_true rfl) (Nat.le_of_ble_eq_true rfl) ?_
    refine aw_if_eq (tgt := 42) dd_mo_remove_26 (by decide) (fun hw => ?_) (fun hw => ?_)
    · replace hw := zb_e0 hw
      rw [ab_remove, if_pos hw]
      refine aw_iconst (v := 0) dd_mo_remove_42 (by decide) ?_
      exact aw_zret dd_mo_remove_43 rfl (by first | exact Or.inl rfl | exact Or.inr rfl) (by first | exact ⟨_, rfl, fun h0 => absurd (show (1 : Int32) = 0 from h0) (by decide), _, rfl, hR, wn_f hw⟩ | exact ⟨_, rfl, fun h0 => h3.symm.trans (e1 h0), μ1, rfl, e3, e4⟩ | exact ⟨_, rfl, fun h0 => w1_e (e1 h0) (zb_01 _) h3, μ1, rfl, e3, e4⟩)
    · have hw1 := bt_ne (zb_n0 hw)
      clear hw
      rw [ab_remove, if_neg hw1]
      obtain ⟨h8, h9⟩ := Bool.and_eq_true_iff.mp (Bool.not_eq_false _ ▸ hw1)
      obtain ⟨j, hj, rfl⟩ := rb_n (by omega) h8
      obtain ⟨k, hk, rfl⟩ := rb_n (by omega) h9
      rw [iN_n (by omega), iN_n (by omega)]
      refine aw_aload_n dd_mo_remove_29 rfl 0 rfl ?_
      refine aw_iload_n dd_mo_remove_30 rfl 1 rfl ?_
      refine aw_iload_n dd_mo_remove_31 rfl 2 rfl ?_
      refine aw_cVe mm_mo_drop 0 0 _ 5 [_, _] _ (wc_mo_drop G κ (km_s μ 0 (if (rb_i (ga_u A) (nI j) && rb_i (ga_n A) (nI k)) = true then 0 else 1)) o rest hR hW hj hk (wn_t hw1)) dd_mo_remove_32 cv_mo_120 my_mo_drop np_mo_drop rfl rfl rfl (by decide) rfl rfl (Nat.le_of_ble_eq_true rfl) (Nat.le_of_ble_eq_true rfl) (fun w9 h9 hq => ?_)
      obtain ⟨e1, e0, μ1, rfl, e3, e4⟩ := hq
      refine aw_if_eq (tgt := 42) dd_mo_remove_35 (by decide) (fun h3 => ?_) (fun h3 => ?_)
      · refine aw_iconst (v := 0) dd_mo_remove_42 (by decide) ?_
        exact aw_zret dd_mo_remove_43 rfl (by first | exact Or.inl rfl | exact Or.inr rfl) (by first | exact ⟨_, rfl, fun h0 => absurd (show (1 : Int32) = 0 from h0) (by decide), _, rfl, hR, wn_f hw⟩ | exact ⟨_, rfl, fun h0 => h3.symm.trans (e1 h0), μ1, rfl, e3, e4⟩ | exact ⟨_, rfl, fun h0 => w1_e (e1 h0) (zb_01 _) h3, μ1, rfl, e3, e4⟩)
      · refine aw_iconst (v := 1) dd_mo_remove_38 (by decide) ?_
        refine aw_goto (tgt := 43) dd_mo_remove_39 (by decide) ?_
        exact aw_zret dd_mo_remove_43 rfl (by first | exact Or.inl rfl | exact Or.inr rfl) (by first | exact ⟨_, rfl, fun h0 => absurd (show (1 : Int32) = 0 from h0) (by decide), _, rfl, hR, wn_f hw⟩ | exact ⟨_, rfl, fun h0 => h3.symm.trans (e1 h0), μ1, rfl, e3, e4⟩ | exact ⟨_, rfl, fun h0 => w1_e (e1 h0) (zb_01 _) h3, μ1, rfl, e3, e4⟩)
  · refine aw_aload_n dd_mo_remove_1 rfl 0 rfl ?_
    refine aw_iload_n dd_mo_remove_2 rfl 1 rfl ?_
    refine aw_cVi mm_mo_isUser 0 0 _ 5 [_] _ (wc_mo_isUser G κ _ o rest (n := ga_u A) hU.1 _) dd_mo_remove_3 cv_mo_113 my_mo_isUser np_mo_isUser rfl rfl rfl (by decide) rfl rfl (Nat.le_of_ble_eq_true rfl) (Nat.le_of_ble_eq_true rfl) ?_
    refine aw_if_eq (tgt := 21) dd_mo_remove_6 (by decide) (fun h1 => ?_) (fun h1 => ?_)
    · refine aw_iconst (v := 0) dd_mo_remove_21 (by decide) ?_
      exact aw_top (by simp_all [zb_q0, zb_q1, zb_i]) kj1
    · refine aw_aload_n dd_mo_remove_9 rfl 0 rfl ?_
      refine aw_iload_n dd_mo_remove_10 rfl 2 rfl ?_
      refine aw_cVi mm_mo_isRole 0 0 _ 5 [_] _ (wc_mo_isRole G κ _ o rest (n := ga_n A) hB.1 _) dd_mo_remove_11 cv_mo_90 my_mo_isRole np_mo_isRole rfl rfl rfl (by decide) rfl rfl (Nat.le_of_ble_eq_true rfl) (Nat.le_of_ble_eq_true rfl) ?_
      refine aw_if_eq (tgt := 21) dd_mo_remove_14 (by decide) (fun h2 => ?_) (fun h2 => ?_)
      · refine aw_iconst (v := 0) dd_mo_remove_21 (by decide) ?_
        exact aw_top (by simp_all [zb_q0, zb_q1, zb_i]) kj1
      · refine aw_iconst (v := 1) dd_mo_remove_17 (by decide) ?_
        refine aw_goto (tgt := 22) dd_mo_remove_18 (by decide) ?_
        exact aw_top (by simp_all [zb_q0, zb_q1, zb_i]) kj1
theorem wc_mo_give (G : ag_T) (κ : ck_T) (μ : cm_T) (o : Nat → Int64) (rest : List va_E) {A : aa_T} (hR : rm_R μ A) (hW : wa_W A) (x y z : Int32) : aw_w G mm_mo_give 3 72 0 0 0 (lv_args 0 [.ref (G.1 + 13), .int x, .int y, .int z]) [] (hp_f G κ μ o rest) (qm_R G κ o rest (ab_give A x y z)) := by
  obtain ⟨hB, hGr, hU, hSL, hDL, hRs, hSs⟩ := id hR; have hn6 := hB.2.1; have hu5 := hU.2.1
  refine aw_aload_n dd_mo_give_0 rfl 0 rfl ?_
  refine aw_join (tgt := 30) (v := zb_i (rb_i (ga_u A) x && rb_i (ga_u A) y && rb_i (ga_n A) z)) ?_ (fun kj1 => ?_)
  · refine aw_iconst (v := 1) dd_mo_give_30 (by decide) ?_
    refine aw_cVi mm_mo_when 0 0 _ 5 [_, _] _ (wc_mo_when G κ _ o rest _ _) dd_mo_give_31 cv_mo_86 my_mo_when np_mo_when rfl rfl rfl (by decide) rfl rfl (Nat.le_of_ble_eq_true rfl) (Nat.le_of_ble_eq_true rfl) ?_
    refine aw_if_eq (tgt := 71) dd_mo_give_34 (by decide) (fun hw => ?_) (fun hw => ?_)
    · replace hw := zb_e0 hw
      rw [ab_give, if_pos hw]
      refine aw_iconst (v := 0) dd_mo_give_71 (by decide) ?_
      exact aw_zret dd_mo_give_72 rfl (by first | exact Or.inl rfl | exact Or.inr rfl) (by first | exact ⟨_, rfl, fun h0 => absurd (show (1 : Int32) = 0 from h0) (by decide), _, rfl, hR, wn_f hw⟩ | exact ⟨_, rfl, fun h0 => absurd (show (2 : Int32) = 0 from h0) (by decide), _, rfl, hR, wn_f hw⟩)
    · have hw1 := bt_ne (zb_n0 hw)
      clear hw
      obtain ⟨h7, h9⟩ := Bool.and_eq_true_iff.mp (Bool.not_eq_false _ ▸ hw1)
      obtain ⟨h7, h8⟩ := Bool.and_eq_true_iff.mp h7
      obtain ⟨i, hi, rfl⟩ := rb_n (by omega) h7
      obtain ⟨j, hj, rfl⟩ := rb_n (by omega) h8
      obtain ⟨k, hk, rfl⟩ := rb_n (by omega) h9
      rw [ab_give, if_neg hw1, iN_n (by omega), iN_n (by omega), iN_n (by omega)]
      refine aw_aload_n dd_mo_give_37 rfl 0 rfl ?_
      refine aw_aload_n dd_mo_give_38 rfl 0 rfl ?_
      refine aw_iconst (v := (zb_i true)) dd_mo_give_39 (by decide) ?_
      refine aw_aload_n dd_mo_give_40 rfl 0 rfl ?_
      refine aw_aload_n dd_mo_give_41 rfl 0 rfl ?_
      refine aw_getf _ 5 6 dd_mo_give_42 fl_mo_19 rfl rfl ?_
      refine aw_iload_n dd_mo_give_45 rfl 1 rfl ?_
      refine aw_iaN _ (i) dd_mo_give_46 rfl (by omega) (by decide) ?_
      refine aw_top (hU.2.2.1 i (by omega)) ?_
      refine aw_cVi mm_mo_closed 0 0 _ 5 [_] _ (wc_mo_closed G κ (km_s μ 0 (if (rb_i (ga_u A) (nI i) && rb_i (ga_u A) (nI j) && rb_i (ga_n A) (nI k)) = true then 0 else 1)) o rest hB (hU.2.2.2 i)) dd_mo_give_47 cv_mo_75 my_mo_closed np_mo_closed rfl rfl rfl (by decide) rfl rfl (Nat.le_of_ble_eq_true rfl) (Nat.le_of_ble_eq_true rfl) ?_
      refine aw_aload_n dd_mo_give_50 rfl 0 rfl ?_
      refine aw_aload_n dd_mo_give_51 rfl 0 rfl ?_
      refine aw_getf _ 5 6 dd_mo_give_52 fl_mo_19 rfl rfl ?_
      refine aw_iload_n dd_mo_give_55 rfl 2 rfl ?_
      refine aw_iaN _ (j) dd_mo_give_56 rfl (by omega) (by decide) ?_
      refine aw_top (hU.2.2.1 j (by omega)) ?_
      refine aw_cVi mm_mo_closed 0 0 _ 5 [_] _ (wc_mo_closed G κ (km_s μ 0 (if (rb_i (ga_u A) (nI i) && rb_i (ga_u A) (nI j) && rb_i (ga_n A) (nI k)) = true then 0 else 1)) o rest hB (hU.2.2.2 j)) dd_mo_give_57 cv_mo_75 my_mo_closed np_mo_closed rfl rfl rfl (by decide) rfl rfl (Nat.le_of_ble_eq_true rfl) (Nat.le_of_ble_eq_true rfl) ?_
      refine aw_iload_n dd_mo_give_60 rfl 3 rfl ?_
      refine aw_cVi mm_mo_lets 0 0 _ 5 [_, _, _, _] _ (wc_mo_lets G κ (km_s μ 0 (if (rb_i (ga_u A) (nI i) && rb_i (ga_u A) (nI j) && rb_i (ga_n A) (nI k)) = true then 0 else 1)) o rest hRs true (pc_64 hB.2.2.2 (hU.2.2.2 i) _) (pc_64 hB.2.2.2 (hU.2.2.2 j) _) (by omega)) dd_mo_give_61 cv_mo_124 my_mo_lets np_mo_lets rfl rfl rfl (by decide) rfl rfl (Nat.le_of_ble_eq_true rfl) (Nat.le_of_ble_eq_true rfl) ?_
      refine aw_iconst (v := 2) dd_mo_give_64 (by decide) ?_
      refine aw_cVi mm_mo_when 0 0 _ 5 [_, _] _ (wc_mo_when G κ _ o rest _ _) dd_mo_give_65 cv_mo_86 my_mo_when np_mo_when rfl rfl rfl (by decide) rfl rfl (Nat.le_of_ble_eq_true rfl) (Nat.le_of_ble_eq_true rfl) ?_
      refine aw_if_ne (tgt := 73) dd_mo_give_68 (by decide) (fun hw => ?_) (fun hw => ?_)
      · have hw2 := bt_ne (zb_n0 hw)
        clear hw
        rw [if_neg hw2]
        refine aw_aload_n dd_mo_give_73 rfl 0 rfl ?_
        refine aw_iload_n dd_mo_give_74 rfl 2 rfl ?_
        refine aw_iload_n dd_mo_give_75 rfl 3 rfl ?_
        refine aw_iconst (v := 3) dd_mo_give_76 (by decide) ?_
        refine aw_cVe mm_mo_put 0 0 _ 5 [_, _, _] _ (wc_mo_put G κ (km_s (km_s μ 0 (if (rb_i (ga_u A) (nI i) && rb_i (ga_u A) (nI j) && rb_i (ga_n A) (nI k)) = true then 0 else 1)) 0 (if (pr_l (ga_r A) true (ga_l A (ga_a A i)) (ga_l A (ga_a A j)) k) = true then 0 else 2)) o rest hR hj hk (by decide)) dd_mo_give_77 cv_mo_116 my_mo_put np_mo_put rfl rfl rfl (by decide) rfl rfl (Nat.le_of_ble_eq_true rfl) (Nat.le_of_ble_eq_true rfl) (fun w9 h9 hq => ?_)
        obtain ⟨e1, e0, μ1, rfl, e3, e4⟩ := hq
        exact aw_zret dd_mo_give_80 rfl (e0) ⟨_, rfl, e1, μ1, rfl, e3, e4⟩
      · replace hw := zb_e0 hw
        rw [if_pos hw]
        refine aw_iconst (v := 0) dd_mo_give_71 (by decide) ?_
        exact aw_zret dd_mo_give_72 rfl (by first | exact Or.inl rfl | exact Or.inr rfl) (by first | exact ⟨_, rfl, fun h0 => absurd (show (1 : Int32) = 0 from h0) (by decide), _, rfl, hR, wn_f hw⟩ | exact ⟨_, rfl, fun h0 => absurd (show (2 : Int32) = 0 from h0) (by decide), _, rfl, hR, wn_f hw⟩)
  · refine aw_aload_n dd_mo_give_1 rfl 0 rfl ?_
    refine aw_iload_n dd_mo_give_2 rfl 1 rfl ?_
    refine aw_cVi mm_mo_isUser 0 0 _ 5 [_] _ (wc_mo_isUser G κ _ o rest (n := ga_u A) hU.1 _) dd_mo_give_3 cv_mo_113 my_mo_isUser np_mo_isUser rfl rfl rfl (by decide) rfl rfl (Nat.le_of_ble_eq_true rfl) (Nat.le_of_ble_eq_true rfl) ?_
    refine aw_if_eq (tgt := 29) dd_mo_give_6 (by decide) (fun h1 => ?_) (fun h1 => ?_)
    · refine aw_iconst (v := 0) dd_mo_give_29 (by decide) ?_
      exact aw_top (by simp_all [zb_q0, zb_q1, zb_i]) kj1
    · refine aw_aload_n dd_mo_give_9 rfl 0 rfl ?_
      refine aw_iload_n dd_mo_give_10 rfl 2 rfl ?_
      refine aw_cVi mm_mo_isUser 0 0 _ 5 [_] _ (wc_mo_isUser G κ _ o rest (n := ga_u A) hU.1 _) dd_mo_give_11 cv_mo_113 my_mo_isUser np_mo_isUser rfl rfl rfl (by decide) rfl rfl (Nat.le_of_ble_eq_true rfl) (Nat.le_of_ble_eq_true rfl) ?_
      refine aw_if_eq (tgt := 29) dd_mo_give_14 (by decide) (fun h2 => ?_) (fun h2 => ?_)
      · refine aw_iconst (v := 0) dd_mo_give_29 (by decide) ?_
        exact aw_top (by simp_all [zb_q0, zb_q1, zb_i]) kj1
      · refine aw_aload_n dd_mo_give_17 rfl 0 rfl ?_
        refine aw_iload_n dd_mo_give_18 rfl 3 rfl ?_
        refine aw_cVi mm_mo_isRole 0 0 _ 5 [_] _ (wc_mo_isRole G κ _ o rest (n := ga_n A) hB.1 _) dd_mo_give_19 cv_mo_90 my_mo_isRole np_mo_isRole rfl rfl rfl (by decide) rfl rfl (Nat.le_of_ble_eq_true rfl) (Nat.le_of_ble_eq_true rfl) ?_
        refine aw_if_eq (tgt := 29) dd_mo_give_22 (by decide) (fun h3 => ?_) (fun h3 => ?_)
        · refine aw_iconst (v := 0) dd_mo_give_29 (by decide) ?_
          exact aw_top (by simp_all [zb_q0, zb_q1, zb_i]) kj1
        · refine aw_iconst (v := 1) dd_mo_give_25 (by decide) ?_
          refine aw_goto (tgt := 30) dd_mo_give_26 (by decide) ?_
          exact aw_top (by simp_all [zb_q0, zb_q1, zb_i]) kj1
theorem wc_mo_take (G : ag_T) (κ : ck_T) (μ : cm_T) (o : Nat → Int64) (rest : List va_E) {A : aa_T} (hR : rm_R μ A) (hW : wa_W A) (x y z : Int32) : aw_w G mm_mo_take 3 67 0 0 0 (lv_args 0 [.ref (G.1 + 13), .int x, .int y, .int z]) [] (hp_f G κ μ o rest) (qm_R G κ o rest (ab_take A x y z)) := by
  obtain ⟨hB, hGr, hU, hSL, hDL, hRs, hSs⟩ := id hR; have hn6 := hB.2.1; have hu5 := hU.2.1
  refine aw_aload_n dd_mo_take_0 rfl 0 rfl ?_
  refine aw_join (tgt := 30) (v := zb_i (rb_i (ga_u A) x && rb_i (ga_u A) y && rb_i (ga_n A) z)) ?_ (fun kj1 => ?_)
  · refine aw_iconst (v := 1) dd_mo_take_30 (by decide) ?_
    refine aw_cVi mm_mo_when 0 0 _ 5 [_, _] _ (wc_mo_when G κ _ o rest _ _) dd_mo_take_31 cv_mo_86 my_mo_when np_mo_when rfl rfl rfl (by decide) rfl rfl (Nat.le_of_ble_eq_true rfl) (Nat.le_of_ble_eq_true rfl) ?_
    refine aw_if_eq (tgt := 71) dd_mo_take_34 (by decide) (fun hw => ?_) (fun hw => ?_)
    · replace hw := zb_e0 hw
      rw [ab_take, if_pos hw]
      refine aw_iconst (v := 0) dd_mo_take_71 (by decide) ?_
      exact aw_zret dd_mo_take_72 rfl (by first | exact Or.inl rfl | exact Or.inr rfl) (by first | exact ⟨_, rfl, fun h0 => absurd (show (1 : Int32) = 0 from h0) (by decide), _, rfl, hR, wn_f hw⟩ | exact ⟨_, rfl, fun h0 => absurd (show (2 : Int32) = 0 from h0) (by decide), _, rfl, hR, wn_f hw⟩)
    · have hw1 := bt_ne (zb_n0 hw)
      clear hw
      obtain ⟨h7, h9⟩ := Bool.and_eq_true_iff.mp (Bool.not_eq_false _ ▸ hw1)
      obtain ⟨h7, h8⟩ := Bool.and_eq_true_iff.mp h7
      obtain ⟨i, hi, rfl⟩ := rb_n (by omega) h7
      obtain ⟨j, hj, rfl⟩ := rb_n (by omega) h8
      obtain ⟨k, hk, rfl⟩ := rb_n (by omega) h9
      rw [ab_take, if_neg hw1, iN_n (by omega), iN_n (by omega), iN_n (by omega)]
      refine aw_aload_n dd_mo_take_37 rfl 0 rfl ?_
      refine aw_aload_n dd_mo_take_38 rfl 0 rfl ?_
      refine aw_iconst (v := (zb_i false)) dd_mo_take_39 (by decide) ?_
      refine aw_aload_n dd_mo_take_40 rfl 0 rfl ?_
      refine aw_aload_n dd_mo_take_41 rfl 0 rfl ?_
      refine aw_getf _ 5 6 dd_mo_take_42 fl_mo_19 rfl rfl ?_
      refine aw_iload_n dd_mo_take_45 rfl 1 rfl ?_
      refine aw_iaN _ (i) dd_mo_take_46 rfl (by omega) (by decide) ?_
      refine aw_top (hU.2.2.1 i (by omega)) ?_
      refine aw_cVi mm_mo_closed 0 0 _ 5 [_] _ (wc_mo_closed G κ (km_s μ 0 (if (rb_i (ga_u A) (nI i) && rb_i (ga_u A) (nI j) && rb_i (ga_n A) (nI k)) = true then 0 else 1)) o rest hB (hU.2.2.2 i)) dd_mo_take_47 cv_mo_75 my_mo_closed np_mo_closed rfl rfl rfl (by decide) rfl rfl (Nat.le_of_ble_eq_true rfl) (Nat.le_of_ble_eq_true rfl) ?_
      refine aw_aload_n dd_mo_take_50 rfl 0 rfl ?_
      refine aw_aload_n dd_mo_take_51 rfl 0 rfl ?_
      refine aw_getf _ 5 6 dd_mo_take_52 fl_mo_19 rfl rfl ?_
      refine aw_iload_n dd_mo_take_55 rfl 2 rfl ?_
      refine aw_iaN _ (j) dd_mo_take_56 rfl (by omega) (by decide) ?_
      refine aw_top (hU.2.2.1 j (by omega)) ?_
      refine aw_cVi mm_mo_closed 0 0 _ 5 [_] _ (wc_mo_closed G κ (km_s μ 0 (if (rb_i (ga_u A) (nI i) && rb_i (ga_u A) (nI j) && rb_i (ga_n A) (nI k)) = true then 0 else 1)) o rest hB (hU.2.2.2 j)) dd_mo_take_57 cv_mo_75 my_mo_closed np_mo_closed rfl rfl rfl (by decide) rfl rfl (Nat.le_of_ble_eq_true rfl) (Nat.le_of_ble_eq_true rfl) ?_
      refine aw_iload_n dd_mo_take_60 rfl 3 rfl ?_
      refine aw_cVi mm_mo_lets 0 0 _ 5 [_, _, _, _] _ (wc_mo_lets G κ (km_s μ 0 (if (rb_i (ga_u A) (nI i) && rb_i (ga_u A) (nI j) && rb_i (ga_n A) (nI k)) = true then 0 else 1)) o rest hRs false (pc_64 hB.2.2.2 (hU.2.2.2 i) _) (pc_64 hB.2.2.2 (hU.2.2.2 j) _) (by omega)) dd_mo_take_61 cv_mo_124 my_mo_lets np_mo_lets rfl rfl rfl (by decide) rfl rfl (Nat.le_of_ble_eq_true rfl) (Nat.le_of_ble_eq_true rfl) ?_
      refine aw_iconst (v := 2) dd_mo_take_64 (by decide) ?_
      refine aw_cVi mm_mo_when 0 0 _ 5 [_, _] _ (wc_mo_when G κ _ o rest _ _) dd_mo_take_65 cv_mo_86 my_mo_when np_mo_when rfl rfl rfl (by decide) rfl rfl (Nat.le_of_ble_eq_true rfl) (Nat.le_of_ble_eq_true rfl) ?_
      refine aw_if_ne (tgt := 73) dd_mo_take_68 (by decide) (fun hw => ?_) (fun hw => ?_)
      · have hw2 := bt_ne (zb_n0 hw)
        clear hw
        rw [if_neg hw2]
        refine aw_aload_n dd_mo_take_73 rfl 0 rfl ?_
        refine aw_iload_n dd_mo_take_74 rfl 2 rfl ?_
        refine aw_iload_n dd_mo_take_75 rfl 3 rfl ?_
        refine aw_cVe mm_mo_drop 0 0 _ 5 [_, _] _ (wc_mo_drop G κ (km_s (km_s μ 0 (if (rb_i (ga_u A) (nI i) && rb_i (ga_u A) (nI j) && rb_i (ga_n A) (nI k)) = true then 0 else 1)) 0 (if (pr_l (ga_r A) false (ga_l A (ga_a A i)) (ga_l A (ga_a A j)) k) = true then 0 else 2)) o rest hR hW hj hk (wn_t hw2)) dd_mo_take_76 cv_mo_120 my_mo_drop np_mo_drop rfl rfl rfl (by decide) rfl rfl (Nat.le_of_ble_eq_true rfl) (Nat.le_of_ble_eq_true rfl) (fun w9 h9 hq => ?_)
        obtain ⟨e1, e0, μ1, rfl, e3, e4⟩ := hq
        exact aw_zret dd_mo_take_79 rfl (e0) ⟨_, rfl, e1, μ1, rfl, e3, e4⟩
      · replace hw := zb_e0 hw
        rw [if_pos hw]
        refine aw_iconst (v := 0) dd_mo_take_71 (by decide) ?_
        exact aw_zret dd_mo_take_72 rfl (by first | exact Or.inl rfl | exact Or.inr rfl) (by first | exact ⟨_, rfl, fun h0 => absurd (show (1 : Int32) = 0 from h0) (by decide), _, rfl, hR, wn_f hw⟩ | exact ⟨_, rfl, fun h0 => absurd (show (2 : Int32) = 0 from h0) (by decide), _, rfl, hR, wn_f hw⟩)
  · refine aw_aload_n dd_mo_take_1 rfl 0 rfl ?_
    refine aw_iload_n dd_mo_take_2 rfl 1 rfl ?_
    refine aw_cVi mm_mo_isUser 0 0 _ 5 [_] _ (wc_mo_isUser G κ _ o rest (n := ga_u A) hU.1 _) dd_mo_take_3 cv_mo_113 my_mo_isUser np_mo_isUser rfl rfl rfl (by decide) rfl rfl (Nat.le_of_ble_eq_true rfl) (Nat.le_of_ble_eq_true rfl) ?_
    refine aw_if_eq (tgt := 29) dd_mo_take_6 (by decide) (fun h1 => ?_) (fun h1 => ?_)
    · refine aw_iconst (v := 0) dd_mo_take_29 (by decide) ?_
      exact aw_top (by simp_all [zb_q0, zb_q1, zb_i]) kj1
    · refine aw_aload_n dd_mo_take_9 rfl 0 rfl ?_
      refine aw_iload_n dd_mo_take_10 rfl 2 rfl ?_
      refine aw_cVi mm_mo_isUser 0 0 _ 5 [_] _ (wc_mo_isUser G κ _ o rest (n := ga_u A) hU.1 _) dd_mo_take_11 cv_mo_113 my_mo_isUser np_mo_isUser rfl rfl rfl (by decide) rfl rfl (Nat.le_of_ble_eq_true rfl) (Nat.le_of_ble_eq_true rfl) ?_
      refine aw_if_eq (tgt := 29) dd_mo_take_14 (by decide) (fun h2 => ?_) (fun h2 => ?_)
      · refine aw_iconst (v := 0) dd_mo_take_29 (by decide) ?_
        exact aw_top (by simp_all [zb_q0, zb_q1, zb_i]) kj1
      · refine aw_aload_n dd_mo_take_17 rfl 0 rfl ?_
        refine aw_iload_n dd_mo_take_18 rfl 3 rfl ?_
        refine aw_cVi mm_mo_isRole 0 0 _ 5 [_] _ (wc_mo_isRole G κ _ o rest (n := ga_n A) hB.1 _) dd_mo_take_19 cv_mo_90 my_mo_isRole np_mo_isRole rfl rfl rfl (by decide) rfl rfl (Nat.le_of_ble_eq_true rfl) (Nat.le_of_ble_eq_true rfl) ?_
        refine aw_if_eq (tgt := 29) dd_mo_take_22 (by decide) (fun h3 => ?_) (fun h3 => ?_)
        · refine aw_iconst (v := 0) dd_mo_take_29 (by decide) ?_
          exact aw_top (by simp_all [zb_q0, zb_q1, zb_i]) kj1
        · refine aw_iconst (v := 1) dd_mo_take_25 (by decide) ?_
          refine aw_goto (tgt := 30) dd_mo_take_26 (by decide) ?_
          exact aw_top (by simp_all [zb_q0, zb_q1, zb_i]) kj1
theorem wc_mo_roles (G : ag_T) (κ : ck_T) (μ : cm_T) (o : Nat → Int64) (rest : List va_E) {A : aa_T} (hR : rm_R μ A) (x : Int32) (d : Bool) : aw_w G mm_mo_roles 1 23 0 0 0 (lv_args 0 [.ref (G.1 + 13), .int x, .int (zb_i d)]) [] (hp_f G κ μ o rest) (qm_R G κ o rest (ab_roles A x d)) := by
  obtain ⟨hB, hGr, hU, hSL, hDL, hRs, hSs⟩ := id hR; have hn6 := hB.2.1; have hu5 := hU.2.1
  refine aw_aload_n dd_mo_roles_0 rfl 0 rfl ?_
  refine aw_aload_n dd_mo_roles_1 rfl 0 rfl ?_
  refine aw_iload_n dd_mo_roles_2 rfl 1 rfl ?_
  refine aw_cVi mm_mo_isUser 0 0 _ 5 [_] _ (wc_mo_isUser G κ _ o rest (n := ga_u A) hU.1 _) dd_mo_roles_3 cv_mo_113 my_mo_isUser np_mo_isUser rfl rfl rfl (by decide) rfl rfl (Nat.le_of_ble_eq_true rfl) (Nat.le_of_ble_eq_true rfl) ?_
  refine aw_iconst (v := 1) dd_mo_roles_6 (by decide) ?_
  refine aw_cVi mm_mo_when 0 0 _ 5 [_, _] _ (wc_mo_when G κ _ o rest _ _) dd_mo_roles_7 cv_mo_86 my_mo_when np_mo_when rfl rfl rfl (by decide) rfl rfl (Nat.le_of_ble_eq_true rfl) (Nat.le_of_ble_eq_true rfl) ?_
  refine aw_if_ne (tgt := 15) dd_mo_roles_10 (by decide) (fun hw => ?_) (fun hw => ?_)
  · have hw1 := bt_ne (zb_n0 hw)
    clear hw
    obtain ⟨j, hj, rfl⟩ := rb_n (by omega) (Bool.not_eq_false _ ▸ hw1)
    rw [ab_roles, if_neg hw1, iN_n (by omega)]
    refine aw_iload_n dd_mo_roles_15 rfl 2 rfl ?_
    refine aw_if_eq (tgt := 32) dd_mo_roles_16 (by decide) (fun h3 => ?_) (fun h3 => ?_)
    · have h3 := zb_e0 h3
      subst h3
      refine aw_aload_n dd_mo_roles_32 rfl 0 rfl ?_
      refine aw_getf _ 5 6 dd_mo_roles_33 fl_mo_19 rfl rfl ?_
      refine aw_iload_n dd_mo_roles_36 rfl 1 rfl ?_
      refine aw_iaN _ (j) dd_mo_roles_37 rfl (by omega) (by decide) ?_
      refine aw_top (hU.2.2.1 j (by omega)) ?_
      exact aw_iret dd_mo_roles_38 rfl ⟨_, rfl, fun _ => rfl, _, rfl, hR, wn_t hw1⟩
    · have h3 := zb_n0 h3
      subst h3
      refine aw_aload_n dd_mo_roles_19 rfl 0 rfl ?_
      refine aw_aload_n dd_mo_roles_20 rfl 0 rfl ?_
      refine aw_getf _ 5 6 dd_mo_roles_21 fl_mo_19 rfl rfl ?_
      refine aw_iload_n dd_mo_roles_24 rfl 1 rfl ?_
      refine aw_iaN _ (j) dd_mo_roles_25 rfl (by omega) (by decide) ?_
      refine aw_top (hU.2.2.1 j (by omega)) ?_
      refine aw_cVi mm_mo_closed 0 0 _ 5 [_] _ (wc_mo_closed G κ (km_s μ 0 _) o rest hB (hU.2.2.2 j)) dd_mo_roles_26 cv_mo_75 my_mo_closed np_mo_closed rfl rfl rfl (by decide) rfl rfl (Nat.le_of_ble_eq_true rfl) (Nat.le_of_ble_eq_true rfl) ?_
      refine aw_goto (tgt := 38) dd_mo_roles_29 (by decide) ?_
      exact aw_iret dd_mo_roles_38 rfl ⟨_, rfl, fun _ => rfl, _, rfl, hR, wn_t hw1⟩
  · replace hw := zb_e0 hw
    rw [ab_roles, if_pos hw]
    refine aw_iconst (v := 0) dd_mo_roles_13 (by decide) ?_
    exact aw_iret dd_mo_roles_14 rfl ⟨_, rfl, fun h0 => absurd (show (1 : Int32) = 0 from h0) (by decide), _, rfl, hR, wn_f hw⟩
theorem wc_mo_close (G : ag_T) (κ : ck_T) (μ : cm_T) (o : Nat → Int64) (rest : List va_E) {A : aa_T} (hR : rm_R μ A) (x : Int32) : aw_w G mm_mo_close 1 22 0 0 0 (lv_args 0 [.ref (G.1 + 13), .int x]) [] (hp_f G κ μ o rest) (qm_V G κ o rest (ab_close A x)) := by
  obtain ⟨hB, hGr, hU, hSL, hDL, hRs, hSs⟩ := id hR; have hn6 := hB.2.1; have hu5 := hU.2.1
  refine aw_aload_n dd_mo_close_0 rfl 0 rfl ?_
  refine aw_aload_n dd_mo_close_1 rfl 0 rfl ?_
  refine aw_iload_n dd_mo_close_2 rfl 1 rfl ?_
  refine aw_cVi mm_mo_isSession 0 0 _ 5 [_] _ (wc_mo_isSession G κ _ o rest (A := A) hSs _) dd_mo_close_3 cv_mo_128 my_mo_isSession np_mo_isSession rfl rfl rfl (by decide) rfl rfl (Nat.le_of_ble_eq_true rfl) (Nat.le_of_ble_eq_true rfl) ?_
  refine aw_iconst (v := 1) dd_mo_close_6 (by decide) ?_
  refine aw_cVi mm_mo_when 0 0 _ 5 [_, _] _ (wc_mo_when G κ _ o rest _ _) dd_mo_close_7 cv_mo_86 my_mo_when np_mo_when rfl rfl rfl (by decide) rfl rfl (Nat.le_of_ble_eq_true rfl) (Nat.le_of_ble_eq_true rfl) ?_
  refine aw_if_eq (tgt := 20) dd_mo_close_10 (by decide) (fun hw => ?_) (fun hw => ?_)
  · replace hw := zb_e0 hw
    rw [ab_close, if_pos hw]
    exact aw_vret dd_mo_close_20 rfl (by first | exact ⟨rfl, _, rfl, hR, wn_f hw⟩ | exact ⟨rfl, _, rfl, ⟨hB, hGr, hU, hSL, hDL, hRs, so_c hSs⟩, wn_t hw1⟩)
  · have hw1 := bt_ne (zb_n0 hw)
    clear hw
    obtain ⟨j, v, hj, rfl, hv⟩ := se_t (Bool.not_eq_false _ ▸ hw1)
    rw [ab_close, if_neg hw1, iN_n (by omega)]
    refine aw_aload_n dd_mo_close_13 rfl 0 rfl ?_
    refine aw_getf _ 5 10 dd_mo_close_14 fl_mo_31 rfl rfl ?_
    refine aw_iload_n dd_mo_close_17 rfl 1 rfl ?_
    refine aw_iconst (v := 0) dd_mo_close_18 (by decide) ?_
    refine aw_zsN _ (j) dd_mo_close_19 rfl (hj) (by decide) (Or.inl rfl) ?_
    refine aw_h (hs_ma7 G _ _ _ _ _ _) ?_
    exact aw_vret dd_mo_close_20 rfl (by first | exact ⟨rfl, _, rfl, hR, wn_f hw⟩ | exact ⟨rfl, _, rfl, ⟨hB, hGr, hU, hSL, hDL, hRs, so_c hSs⟩, wn_t hw1⟩)
theorem wc_mo_active (G : ag_T) (κ : ck_T) (μ : cm_T) (o : Nat → Int64) (rest : List va_E) {A : aa_T} (hR : rm_R μ A) (x : Int32) : aw_w G mm_mo_active 1 22 0 0 0 (lv_args 0 [.ref (G.1 + 13), .int x]) [] (hp_f G κ μ o rest) (qm_R G κ o rest (ab_active A x)) := by
  obtain ⟨hB, hGr, hU, hSL, hDL, hRs, hSs⟩ := id hR; have hn6 := hB.2.1; have hu5 := hU.2.1
  refine aw_aload_n dd_mo_active_0 rfl 0 rfl ?_
  refine aw_aload_n dd_mo_active_1 rfl 0 rfl ?_
  refine aw_iload_n dd_mo_active_2 rfl 1 rfl ?_
  refine aw_cVi mm_mo_isSession 0 0 _ 5 [_] _ (wc_mo_isSession G κ _ o rest (A := A) hSs _) dd_mo_active_3 cv_mo_128 my_mo_isSession np_mo_isSession rfl rfl rfl (by decide) rfl rfl (Nat.le_of_ble_eq_true rfl) (Nat.le_of_ble_eq_true rfl) ?_
  refine aw_iconst (v := 1) dd_mo_active_6 (by decide) ?_
  refine aw_cVi mm_mo_when 0 0 _ 5 [_, _] _ (wc_mo_when G κ _ o rest _ _) dd_mo_active_7 cv_mo_86 my_mo_when np_mo_when rfl rfl rfl (by decide) rfl rfl (Nat.le_of_ble_eq_true rfl) (Nat.le_of_ble_eq_true rfl) ?_
  refine aw_if_eq (tgt := 22) dd_mo_active_10 (by decide) (fun hw => ?_) (fun hw => ?_)
  · replace hw := zb_e0 hw
    rw [ab_active, if_pos hw]
    refine aw_iconst (v := 0) dd_mo_active_22 (by decide) ?_
    exact aw_iret dd_mo_active_23 rfl (by first | exact ⟨_, rfl, fun h0 => absurd (show (1 : Int32) = 0 from h0) (by decide), _, rfl, hR, wn_f hw⟩ | exact ⟨_, rfl, fun _ => rfl, _, rfl, hR, wn_t hw1⟩)
  · have hw1 := bt_ne (zb_n0 hw)
    clear hw
    obtain ⟨j, v, hj, rfl, hv⟩ := se_t (Bool.not_eq_false _ ▸ hw1)
    obtain ⟨g8, g9, g10⟩ := (hSs.1 j hj).2 v hv
    rw [ab_active, if_neg hw1, iN_n (by omega)]
    refine aw_aload_n dd_mo_active_13 rfl 0 rfl ?_
    refine aw_getf _ 5 12 dd_mo_active_14 fl_mo_38 rfl rfl ?_
    refine aw_iload_n dd_mo_active_17 rfl 1 rfl ?_
    refine aw_iaN _ (j) dd_mo_active_18 rfl (hj) (by decide) ?_
    refine aw_top g10 ?_
    refine aw_goto (tgt := 23) dd_mo_active_19 (by decide) ?_
    exact aw_iret dd_mo_active_23 rfl (by first | exact ⟨_, rfl, fun h0 => absurd (show (1 : Int32) = 0 from h0) (by decide), _, rfl, hR, wn_f hw⟩ | exact ⟨_, rfl, fun _ => rfl, _, rfl, hR, wn_t hw1⟩)
theorem wc_mo_rest (G : ag_T) (κ : ck_T) (μ : cm_T) (o : Nat → Int64) (rest : List va_E) {A : aa_T} (hR : rm_R μ A) (x y : Int32) : aw_w G mm_mo_rest 1 22 0 0 0 (lv_args 0 [.ref (G.1 + 13), .int x, .int y]) [] (hp_f G κ μ o rest) (qm_R G κ o rest (ab_rest A x y)) := by
  obtain ⟨hB, hGr, hU, hSL, hDL, hRs, hSs⟩ := id hR; have hn6 := hB.2.1; have hu5 := hU.2.1
  refine aw_aload_n dd_mo_rest_0 rfl 0 rfl ?_
  refine aw_join (tgt := 22) (v := zb_i (se_i A x && rb_i (ga_n A) y)) ?_ (fun kj1 => ?_)
  · refine aw_iconst (v := 1) dd_mo_rest_22 (by decide) ?_
    refine aw_cVi mm_mo_when 0 0 _ 5 [_, _] _ (wc_mo_when G κ _ o rest _ _) dd_mo_rest_23 cv_mo_86 my_mo_when np_mo_when rfl rfl rfl (by decide) rfl rfl (Nat.le_of_ble_eq_true rfl) (Nat.le_of_ble_eq_true rfl) ?_
    refine aw_if_ne (tgt := 31) dd_mo_rest_26 (by decide) (fun hw => ?_) (fun hw => ?_)
    · have hw1 := bt_ne (zb_n0 hw)
      clear hw
      obtain ⟨h8, h9⟩ := Bool.and_eq_true_iff.mp (Bool.not_eq_false _ ▸ hw1)
      obtain ⟨j, v, hj, rfl, hv⟩ := se_t h8
      obtain ⟨g8, g9, g10⟩ := (hSs.1 j hj).2 v hv
      obtain ⟨k, hk, rfl⟩ := rb_n (by omega) h9
      rw [ab_rest, if_neg hw1, iN_n (by omega), iN_n (by omega)]
      refine aw_join (tgt := 50) (v := zb_i ((ga_c A j).testBit k)) ?_ (fun kj31 => ?_)
      · refine aw_istore_n (lv' := [(3, _), (0, _), (1, _), (2, _)]) dd_mo_rest_50 rfl (by decide) rfl ?_
        refine aw_aload_n dd_mo_rest_51 rfl 1 rfl ?_
        refine aw_getf _ 5 12 dd_mo_rest_52 fl_mo_38 rfl rfl ?_
        refine aw_iload_n dd_mo_rest_55 rfl 2 rfl ?_
        refine aw_aload_n dd_mo_rest_56 rfl 1 rfl ?_
        refine aw_getf _ 5 12 dd_mo_rest_57 fl_mo_38 rfl rfl ?_
        refine aw_iload_n dd_mo_rest_60 rfl 2 rfl ?_
        refine aw_iaN _ (j) dd_mo_rest_61 rfl (hj) (by decide) ?_
        refine aw_top (g10) ?_
        refine aw_iconst (v := 1) dd_mo_rest_62 (by decide) ?_
        refine aw_iload_n dd_mo_rest_63 rfl 3 rfl ?_
        refine aw_ishl dd_mo_rest_64 ?_
        refine aw_iconst (v := (-1)) dd_mo_rest_65 (by decide) ?_
        refine aw_ixor dd_mo_rest_66 ?_
        refine aw_iand dd_mo_rest_67 ?_
        refine aw_top (nI_clr _ (by omega)) ?_
        refine aw_isN _ (j) dd_mo_rest_68 rfl (hj) (by decide) ?_
        refine aw_h (hs_ma9 G _ _ _ _ _ _) ?_
        refine aw_iload_n dd_mo_rest_69 rfl 0 rfl ?_
        exact aw_zret dd_mo_rest_70 rfl (zb_01 _) ⟨_, rfl, fun _ => rfl, _, rfl, ⟨hB, hGr, hU, hSL, hDL, hRs, so_a hSs (bt_cl (n := 6) (hSs.2 j))⟩, wn_t hw1⟩
      · refine aw_aload_n dd_mo_rest_31 rfl 0 rfl ?_
        refine aw_getf _ 5 12 dd_mo_rest_32 fl_mo_38 rfl rfl ?_
        refine aw_iload_n dd_mo_rest_35 rfl 1 rfl ?_
        refine aw_iaN _ (j) dd_mo_rest_36 rfl (hj) (by decide) ?_
        refine aw_top (g10) ?_
        refine aw_iload_n dd_mo_rest_37 rfl 2 rfl ?_
        refine aw_ishr dd_mo_rest_38 ?_
        refine aw_iconst (v := 1) dd_mo_rest_39 (by decide) ?_
        refine aw_iand dd_mo_rest_40 ?_
        refine aw_top (nI_bit (by have := hSs.2 j; omega) (by omega)) ?_
        refine aw_iconst (v := 1) dd_mo_rest_41 (by decide) ?_
        refine aw_icmp_ne (tgt := 49) dd_mo_rest_42 (by decide) (fun h3 => ?_) (fun h3 => ?_)
        · refine aw_iconst (v := 0) dd_mo_rest_49 (by decide) ?_
          exact aw_top (by simp_all [zb_q1, zb_i]) kj31
        · refine aw_iconst (v := 1) dd_mo_rest_45 (by decide) ?_
          refine aw_goto (tgt := 50) dd_mo_rest_46 (by decide) ?_
          exact aw_top (by simp_all [zb_q1, zb_i]) kj31
    · replace hw := zb_e0 hw
      rw [ab_rest, if_pos hw]
      refine aw_iconst (v := 0) dd_mo_rest_29 (by decide) ?_
      exact aw_zret dd_mo_rest_30 rfl (by first | exact Or.inl rfl | exact Or.inr rfl) ⟨_, rfl, fun h0 => absurd (show (1 : Int32) = 0 from h0) (by decide), _, rfl, hR, wn_f hw⟩
  · refine aw_aload_n dd_mo_rest_1 rfl 0 rfl ?_
    refine aw_iload_n dd_mo_rest_2 rfl 1 rfl ?_
    refine aw_cVi mm_mo_isSession 0 0 _ 5 [_] _ (wc_mo_isSession G κ _ o rest (A := A) hSs _) dd_mo_rest_3 cv_mo_128 my_mo_isSession np_mo_isSession rfl rfl rfl (by decide) rfl rfl (Nat.le_of_ble_eq_true rfl) (Nat.le_of_ble_eq_true rfl) ?_
    refine aw_if_eq (tgt := 21) dd_mo_rest_6 (by decide) (fun h1 => ?_) (fun h1 => ?_)
    · refine aw_iconst (v := 0) dd_mo_rest_21 (by decide) ?_
      exact aw_top (by simp_all [zb_q0, zb_q1, zb_i]) kj1
    · refine aw_aload_n dd_mo_rest_9 rfl 0 rfl ?_
      refine aw_iload_n dd_mo_rest_10 rfl 2 rfl ?_
      refine aw_cVi mm_mo_isRole 0 0 _ 5 [_] _ (wc_mo_isRole G κ _ o rest (n := ga_n A) hB.1 _) dd_mo_rest_11 cv_mo_90 my_mo_isRole np_mo_isRole rfl rfl rfl (by decide) rfl rfl (Nat.le_of_ble_eq_true rfl) (Nat.le_of_ble_eq_true rfl) ?_
      refine aw_if_eq (tgt := 21) dd_mo_rest_14 (by decide) (fun h2 => ?_) (fun h2 => ?_)
      · refine aw_iconst (v := 0) dd_mo_rest_21 (by decide) ?_
        exact aw_top (by simp_all [zb_q0, zb_q1, zb_i]) kj1
      · refine aw_iconst (v := 1) dd_mo_rest_17 (by decide) ?_
        refine aw_goto (tgt := 22) dd_mo_rest_18 (by decide) ?_
        exact aw_top (by simp_all [zb_q0, zb_q1, zb_i]) kj1
theorem wc_mo_activate (G : ag_T) (κ : ck_T) (μ : cm_T) (o : Nat → Int64) (rest : List va_E) {A : aa_T} (hR : rm_R μ A) (x y : Int32) : aw_w G mm_mo_activate 2 45 0 0 0 (lv_args 0 [.ref (G.1 + 13), .int x, .int y]) [] (hp_f G κ μ o rest) (qm_R G κ o rest (ab_activate A x y)) := by
  obtain ⟨hB, hGr, hU, hSL, hDL, hRs, hSs⟩ := id hR; have hn6 := hB.2.1; have hu5 := hU.2.1
  refine aw_aload_n dd_mo_activate_0 rfl 0 rfl ?_
  refine aw_join (tgt := 22) (v := zb_i (se_i A x && rb_i (ga_n A) y)) ?_ (fun kj1 => ?_)
  · refine aw_iconst (v := 1) dd_mo_activate_22 (by decide) ?_
    refine aw_cVi mm_mo_when 0 0 _ 5 [_, _] _ (wc_mo_when G κ _ o rest _ _) dd_mo_activate_23 cv_mo_86 my_mo_when np_mo_when rfl rfl rfl (by decide) rfl rfl (Nat.le_of_ble_eq_true rfl) (Nat.le_of_ble_eq_true rfl) ?_
    refine aw_if_ne (tgt := 31) dd_mo_activate_26 (by decide) (fun hw => ?_) (fun hw => ?_)
    · have hw1 := bt_ne (zb_n0 hw)
      clear hw
      obtain ⟨h8, h9⟩ := Bool.and_eq_true_iff.mp (Bool.not_eq_false _ ▸ hw1)
      obtain ⟨j, v, hj, rfl, hv⟩ := se_t h8
      obtain ⟨g8, g9, g10⟩ := (hSs.1 j hj).2 v hv
      obtain ⟨k, hk, rfl⟩ := rb_n (by omega) h9
      rw [ab_activate, if_neg hw1, iN_n (by omega), iN_n (by omega), rm_i A j hj v hv]
      have hs : ga_c A j ||| 1 <<< k < 64 := bt_or (n := 6) (hSs.2 j) (bt_1 (by omega))
      have hs9 := hSs.2 j
      refine aw_aload_n dd_mo_activate_31 rfl 0 rfl ?_
      refine aw_getf _ 5 12 dd_mo_activate_32 fl_mo_38 rfl rfl ?_
      refine aw_iload_n dd_mo_activate_35 rfl 1 rfl ?_
      refine aw_iaN _ (j) dd_mo_activate_36 rfl (hj) (by decide) ?_
      refine aw_top (g10) ?_
      refine aw_iconst (v := (nI 1)) dd_mo_activate_37 (by decide) ?_
      refine aw_iload_n dd_mo_activate_38 rfl 2 rfl ?_
      refine aw_ishl dd_mo_activate_39 ?_
      refine aw_top (nI_shl 1 (by omega)) ?_
      refine aw_ior dd_mo_activate_40 ?_
      refine aw_top (nI_or _ _) ?_
      refine aw_istore_n (lv' := [(3, _), (0, _), (1, _), (2, _)]) dd_mo_activate_41 rfl (by decide) rfl ?_
      refine aw_aload_n dd_mo_activate_42 rfl 1 rfl ?_
      refine aw_join (tgt := 71) (v := zb_i ((pc_f (ga_b A) (ga_a A v) (ga_n A)).testBit k)) ?_ (fun kj43 => ?_)
      · refine aw_iconst (v := 2) dd_mo_activate_71 (by decide) ?_
        refine aw_cVi mm_mo_when 0 0 _ 5 [_, _] _ (wc_mo_when G κ _ o rest _ _) dd_mo_activate_72 cv_mo_86 my_mo_when np_mo_when rfl rfl rfl (by decide) rfl rfl (Nat.le_of_ble_eq_true rfl) (Nat.le_of_ble_eq_true rfl) ?_
        refine aw_if_eq (tgt := 91) dd_mo_activate_75 (by decide) (fun hw => ?_) (fun hw => ?_)
        · replace hw := zb_e0 hw
          rw [if_pos hw]
          refine aw_iconst (v := 0) dd_mo_activate_91 (by decide) ?_
          exact aw_zret dd_mo_activate_92 rfl (by first | exact Or.inl rfl | exact Or.inr rfl) (by first | exact ⟨_, rfl, fun h0 => absurd (show (2 : Int32) = 0 from h0) (by decide), _, rfl, hR, wn_f hw⟩ | exact ⟨_, rfl, fun h0 => absurd (show (3 : Int32) = 0 from h0) (by decide), _, rfl, hR, wn_f hw⟩)
        · have hw2 := bt_ne (zb_n0 hw)
          clear hw
          rw [if_neg hw2]
          refine aw_aload_n dd_mo_activate_78 rfl 1 rfl ?_
          refine aw_aload_n dd_mo_activate_79 rfl 1 rfl ?_
          refine aw_iload_n dd_mo_activate_80 rfl 0 rfl ?_
          refine aw_cVi mm_mo_dynamicKept 0 0 _ 5 [_] _ (wc_mo_dynamicKept G κ (km_s (km_s μ 0 (if (se_i A (nI j) && rb_i (ga_n A) (nI k)) = true then 0 else 1)) 0 (if ((pc_f (ga_b A) (ga_a A v) (ga_n A)).testBit k) = true then 0 else 2)) o rest hDL hs) dd_mo_activate_81 cv_mo_97 my_mo_dynamicKept np_mo_dynamicKept rfl rfl rfl (by decide) rfl rfl (Nat.le_of_ble_eq_true rfl) (Nat.le_of_ble_eq_true rfl) ?_
          refine aw_iconst (v := 3) dd_mo_activate_84 (by decide) ?_
          refine aw_cVi mm_mo_when 0 0 _ 5 [_, _] _ (wc_mo_when G κ _ o rest _ _) dd_mo_activate_85 cv_mo_86 my_mo_when np_mo_when rfl rfl rfl (by decide) rfl rfl (Nat.le_of_ble_eq_true rfl) (Nat.le_of_ble_eq_true rfl) ?_
          refine aw_if_ne (tgt := 93) dd_mo_activate_88 (by decide) (fun hw => ?_) (fun hw => ?_)
          · have hw3 := bt_ne (zb_n0 hw)
            clear hw
            rw [if_neg hw3]
            refine aw_join (tgt := 108) (v := zb_i (decide (¬ ga_c A j ||| 1 <<< k = ga_c A j))) ?_ (fun kj93 => ?_)
            · refine aw_istore (lv' := [(4, _), (3, _), (0, _), (1, _), (2, _)]) dd_mo_activate_108 (by decide) rfl ?_
              refine aw_aload_n dd_mo_activate_110 rfl 2 rfl ?_
              refine aw_getf _ 5 12 dd_mo_activate_111 fl_mo_38 rfl rfl ?_
              refine aw_iload_n dd_mo_activate_114 rfl 3 rfl ?_
              refine aw_iload_n dd_mo_activate_115 rfl 1 rfl ?_
              refine aw_isN _ (j) dd_mo_activate_116 rfl (hj) (by decide) ?_
              refine aw_h (hs_ma9 G _ _ _ _ _ _) ?_
              refine aw_iload dd_mo_activate_117 0 rfl ?_
              exact aw_zret dd_mo_activate_119 rfl (zb_01 _) ⟨_, rfl, fun _ => rfl, _, rfl, ⟨hB, hGr, hU, hSL, hDL, hRs, so_a hSs hs⟩, wn_t hw3⟩
            · refine aw_iload_n dd_mo_activate_93 rfl 0 rfl ?_
              refine aw_aload_n dd_mo_activate_94 rfl 1 rfl ?_
              refine aw_getf _ 5 12 dd_mo_activate_95 fl_mo_38 rfl rfl ?_
              refine aw_iload_n dd_mo_activate_98 rfl 2 rfl ?_
              refine aw_iaN _ (j) dd_mo_activate_99 rfl (hj) (by decide) ?_
              refine aw_top (g10) ?_
              refine aw_icmp_eq (tgt := 107) dd_mo_activate_100 (by decide) (fun h4 => ?_) (fun h4 => ?_)
              · refine aw_iconst (v := 0) dd_mo_activate_107 (by decide) ?_
                exact aw_top (by rw [nI_eq (by omega) (by omega)] at h4; simp [zb_i, h4]) kj93
              · refine aw_iconst (v := 1) dd_mo_activate_103 (by decide) ?_
                refine aw_goto (tgt := 108) dd_mo_activate_104 (by decide) ?_
                exact aw_top (by rw [nI_eq (by omega) (by omega)] at h4; simp [zb_i, h4]) kj93
          · replace hw := zb_e0 hw
            rw [if_pos hw]
            refine aw_iconst (v := 0) dd_mo_activate_91 (by decide) ?_
            exact aw_zret dd_mo_activate_92 rfl (by first | exact Or.inl rfl | exact Or.inr rfl) (by first | exact ⟨_, rfl, fun h0 => absurd (show (2 : Int32) = 0 from h0) (by decide), _, rfl, hR, wn_f hw⟩ | exact ⟨_, rfl, fun h0 => absurd (show (3 : Int32) = 0 from h0) (by decide), _, rfl, hR, wn_f hw⟩)
      · refine aw_aload_n dd_mo_activate_43 rfl 1 rfl ?_
        refine aw_aload_n dd_mo_activate_44 rfl 1 rfl ?_
        refine aw_getf _ 5 6 dd_mo_activate_45 fl_mo_19 rfl rfl ?_
        refine aw_aload_n dd_mo_activate_48 rfl 1 rfl ?_
        refine aw_getf _ 5 11 dd_mo_activate_49 fl_mo_35 rfl rfl ?_
        refine aw_iload_n dd_mo_activate_52 rfl 2 rfl ?_
        refine aw_iaN _ (j) dd_mo_activate_53 rfl (hj) (by decide) ?_
        refine aw_top (g8) ?_
        refine aw_iaN _ (v) dd_mo_activate_54 rfl (g9) (by decide) ?_
        refine aw_top (hU.2.2.1 v g9) ?_
        refine aw_cVi mm_mo_closed 0 0 _ 5 [_] _ (wc_mo_closed G κ (km_s μ 0 (if (se_i A (nI j) && rb_i (ga_n A) (nI k)) = true then 0 else 1)) o rest hB (hU.2.2.2 v)) dd_mo_activate_55 cv_mo_75 my_mo_closed np_mo_closed rfl rfl rfl (by decide) rfl rfl (Nat.le_of_ble_eq_true rfl) (Nat.le_of_ble_eq_true rfl) ?_
        refine aw_iload_n dd_mo_activate_58 rfl 3 rfl ?_
        refine aw_ishr dd_mo_activate_59 ?_
        refine aw_iconst (v := 1) dd_mo_activate_60 (by decide) ?_
        refine aw_iand dd_mo_activate_61 ?_
        refine aw_top (nI_bit (by have := pc_64 hB.2.2.2 (hU.2.2.2 v) (ga_n A); omega) (by omega)) ?_
        refine aw_iconst (v := 1) dd_mo_activate_62 (by decide) ?_
        refine aw_icmp_ne (tgt := 70) dd_mo_activate_63 (by decide) (fun h3 => ?_) (fun h3 => ?_)
        · refine aw_iconst (v := 0) dd_mo_activate_70 (by decide) ?_
          exact aw_top (by simp_all [zb_q1, zb_i]) kj43
        · refine aw_iconst (v := 1) dd_mo_activate_66 (by decide) ?_
          refine aw_goto (tgt := 71) dd_mo_activate_67 (by decide) ?_
          exact aw_top (by simp_all [zb_q1, zb_i]) kj43
    · replace hw := zb_e0 hw
      rw [ab_activate, if_pos hw]
      refine aw_iconst (v := 0) dd_mo_activate_29 (by decide) ?_
      exact aw_zret dd_mo_activate_30 rfl (by first | exact Or.inl rfl | exact Or.inr rfl) ⟨_, rfl, fun h0 => absurd (show (1 : Int32) = 0 from h0) (by decide), _, rfl, hR, wn_f hw⟩
  · refine aw_aload_n dd_mo_activate_1 rfl 0 rfl ?_
    refine aw_iload_n dd_mo_activate_2 rfl 1 rfl ?_
    refine aw_cVi mm_mo_isSession 0 0 _ 5 [_] _ (wc_mo_isSession G κ _ o rest (A := A) hSs _) dd_mo_activate_3 cv_mo_128 my_mo_isSession np_mo_isSession rfl rfl rfl (by decide) rfl rfl (Nat.le_of_ble_eq_true rfl) (Nat.le_of_ble_eq_true rfl) ?_
    refine aw_if_eq (tgt := 21) dd_mo_activate_6 (by decide) (fun h1 => ?_) (fun h1 => ?_)
    · refine aw_iconst (v := 0) dd_mo_activate_21 (by decide) ?_
      exact aw_top (by simp_all [zb_q0, zb_q1, zb_i]) kj1
    · refine aw_aload_n dd_mo_activate_9 rfl 0 rfl ?_
      refine aw_iload_n dd_mo_activate_10 rfl 2 rfl ?_
      refine aw_cVi mm_mo_isRole 0 0 _ 5 [_] _ (wc_mo_isRole G κ _ o rest (n := ga_n A) hB.1 _) dd_mo_activate_11 cv_mo_90 my_mo_isRole np_mo_isRole rfl rfl rfl (by decide) rfl rfl (Nat.le_of_ble_eq_true rfl) (Nat.le_of_ble_eq_true rfl) ?_
      refine aw_if_eq (tgt := 21) dd_mo_activate_14 (by decide) (fun h2 => ?_) (fun h2 => ?_)
      · refine aw_iconst (v := 0) dd_mo_activate_21 (by decide) ?_
        exact aw_top (by simp_all [zb_q0, zb_q1, zb_i]) kj1
      · refine aw_iconst (v := 1) dd_mo_activate_17 (by decide) ?_
        refine aw_goto (tgt := 22) dd_mo_activate_18 (by decide) ?_
        exact aw_top (by simp_all [zb_q0, zb_q1, zb_i]) kj1
theorem wl_mo_may (G : ag_T) (κ : ck_T) (μ : cm_T) (o : Nat → Int64) (rest : List va_E) {n : Nat} {bel : Nat → Nat} (hB : rm_c μ n bel) {gr : Nat → Nat} (hGr : rm_g μ gr) {s q : Nat} (hs : s < 64) (hq : q < 31) (y1 : Value) : ∀ (k r : Nat), r + k = n → aw_w G mm_mo_may 1 23 0 0 50 [(5, .int (nI r)), (4, .int (zb_i (pn_k (fun i => (pc_f bel s n).testBit i && (gr i).testBit q) r))), (3, .int (nI (pc_f bel s n))), (0, .ref (G.1 + 13)), (1, y1), (2, .int (nI q))] [] (hp_f G κ μ o rest) (q_i (zb_i (pn_k (fun i => (pc_f bel s n).testBit i && (gr i).testBit q) n)) (hp_f G κ μ o rest)) := by
  have hn6 := hB.2.1
  have hA := pc_64 hB.2.2.2 hs n
  intro k
  induction k with
  | zero =>
    intro r hr
    have e : r = n := by omega
    subst e
    refine aw_iload dd_mo_may_50 0 rfl ?_
    refine aw_aload_n dd_mo_may_52 rfl 3 rfl ?_
    refine aw_getf _ 5 1 dd_mo_may_53 fl_mo_69 rfl rfl ?_
    refine aw_top hB.1 ?_
    refine aw_icmp_ge (tgt := 102) dd_mo_may_56 (by decide) (fun _ => ?_) (fun h9 => absurd (nI_le (Nat.le_refl _) (by omega)) h9)
    refine aw_iload dd_mo_may_102 1 rfl ?_
    exact aw_zret dd_mo_may_104 rfl (zb_01 _) ⟨rfl, rfl⟩
  | succ k ih =>
    intro r hr
    refine aw_iload dd_mo_may_50 0 rfl ?_
    refine aw_aload_n dd_mo_may_52 rfl 3 rfl ?_
    refine aw_getf _ 5 1 dd_mo_may_53 fl_mo_69 rfl rfl ?_
    refine aw_top hB.1 ?_
    refine aw_icmp_ge (tgt := 102) dd_mo_may_56 (by decide) (fun h9 => absurd h9 (nI_ge (by omega) (by omega))) (fun _ => ?_)
    refine aw_join (tgt := 94) (v := zb_i (pn_k (fun i => (pc_f bel s n).testBit i && (gr i).testBit q) (r + 1))) ?_ (fun kj59 => ?_)
    · refine aw_istore (lv' := [(4, _), (5, _), (3, _), (0, _), (1, _), (2, _)]) dd_mo_may_94 (by decide) rfl ?_
      refine aw_iinc (v := nI (r + 1)) (lv' := [(5, _), (4, _), (3, _), (0, _), (1, _), (2, _)]) dd_mo_may_96 1 rfl (nI_1 _) (by decide) rfl ?_
      refine aw_goto (tgt := 50) dd_mo_may_99 (by decide) ?_
      exact ih (r + 1) (by omega)
    · refine aw_iload dd_mo_may_59 1 rfl ?_
      refine aw_if_ne (tgt := 89) dd_mo_may_61 (by decide) (fun h1 => ?_) (fun h1 => ?_)
      · refine aw_iconst (v := 1) dd_mo_may_89 (by decide) ?_
        refine aw_goto (tgt := 94) dd_mo_may_90 (by decide) ?_
        exact aw_top (by simp only [zb_q0, zb_q1, Bool.not_eq_false, Bool.not_eq_true] at *; simp_all [zb_i, pn_k]) kj59
      · refine aw_iload_n dd_mo_may_64 rfl 2 rfl ?_
        refine aw_iload dd_mo_may_65 0 rfl ?_
        refine aw_ishr dd_mo_may_67 ?_
        refine aw_iconst (v := 1) dd_mo_may_68 (by decide) ?_
        refine aw_iand dd_mo_may_69 ?_
        refine aw_top (nI_bit (by omega) (by omega)) ?_
        refine aw_iconst (v := 1) dd_mo_may_70 (by decide) ?_
        refine aw_icmp_ne (tgt := 93) dd_mo_may_71 (by decide) (fun h2 => ?_) (fun h2 => ?_)
        · refine aw_iconst (v := 0) dd_mo_may_93 (by decide) ?_
          exact aw_top (by simp only [zb_q0, zb_q1, Bool.not_eq_false, Bool.not_eq_true] at *; simp_all [zb_i, pn_k]) kj59
        · refine aw_aload_n dd_mo_may_74 rfl 3 rfl ?_
          refine aw_getf _ 5 4 dd_mo_may_75 fl_mo_13 rfl rfl ?_
          refine aw_iload dd_mo_may_78 0 rfl ?_
          refine aw_iaN _ (r) dd_mo_may_80 rfl (by omega) (by decide) ?_
          refine aw_top (hGr.1 r (by omega)) ?_
          refine aw_iload_n dd_mo_may_81 rfl 5 rfl ?_
          refine aw_ishr dd_mo_may_82 ?_
          refine aw_iconst (v := 1) dd_mo_may_83 (by decide) ?_
          refine aw_iand dd_mo_may_84 ?_
          refine aw_top (nI_bit (hGr.2 r) (by omega)) ?_
          refine aw_iconst (v := 1) dd_mo_may_85 (by decide) ?_
          refine aw_icmp_ne (tgt := 93) dd_mo_may_86 (by decide) (fun h3 => ?_) (fun h3 => ?_)
          · refine aw_iconst (v := 0) dd_mo_may_93 (by decide) ?_
            exact aw_top (by simp only [zb_q0, zb_q1, Bool.not_eq_false, Bool.not_eq_true] at *; simp_all [zb_i, pn_k]) kj59
          · refine aw_iconst (v := 1) dd_mo_may_89 (by decide) ?_
            refine aw_goto (tgt := 94) dd_mo_may_90 (by decide) ?_
            exact aw_top (by simp only [zb_q0, zb_q1, Bool.not_eq_false, Bool.not_eq_true] at *; simp_all [zb_i, pn_k]) kj59
theorem wc_mo_may (G : ag_T) (κ : ck_T) (μ : cm_T) (o : Nat → Int64) (rest : List va_E) {A : aa_T} (hR : rm_R μ A) (x y : Int32) : aw_w G mm_mo_may 1 23 0 0 0 (lv_args 0 [.ref (G.1 + 13), .int x, .int y]) [] (hp_f G κ μ o rest) (qm_R G κ o rest (ab_may A x y)) := by
  obtain ⟨hB, hGr, hU, hSL, hDL, hRs, hSs⟩ := id hR; have hn6 := hB.2.1; have hu5 := hU.2.1
  refine aw_aload_n dd_mo_may_0 rfl 0 rfl ?_
  refine aw_join (tgt := 24) (v := zb_i (se_i A x && pm_i y)) ?_ (fun kj1 => ?_)
  · refine aw_iconst (v := 1) dd_mo_may_24 (by decide) ?_
    refine aw_cVi mm_mo_when 0 0 _ 5 [_, _] _ (wc_mo_when G κ _ o rest _ _) dd_mo_may_25 cv_mo_86 my_mo_when np_mo_when rfl rfl rfl (by decide) rfl rfl (Nat.le_of_ble_eq_true rfl) (Nat.le_of_ble_eq_true rfl) ?_
    refine aw_if_ne (tgt := 33) dd_mo_may_28 (by decide) (fun hw => ?_) (fun hw => ?_)
    · have hw1 := bt_ne (zb_n0 hw)
      clear hw
      obtain ⟨h8, h9⟩ := Bool.and_eq_true_iff.mp (Bool.not_eq_false _ ▸ hw1)
      obtain ⟨j, v, hj, rfl, hv⟩ := se_t h8
      obtain ⟨g8, g9, g10⟩ := (hSs.1 j hj).2 v hv
      obtain ⟨q, hq, rfl⟩ := pm_n h9
      rw [ab_may, if_neg hw1, iN_n (by omega), iN_n (by omega)]
      refine aw_aload_n dd_mo_may_33 rfl 0 rfl ?_
      refine aw_aload_n dd_mo_may_34 rfl 0 rfl ?_
      refine aw_getf _ 5 12 dd_mo_may_35 fl_mo_38 rfl rfl ?_
      refine aw_iload_n dd_mo_may_38 rfl 1 rfl ?_
      refine aw_iaN _ (j) dd_mo_may_39 rfl (hj) (by decide) ?_
      refine aw_top g10 ?_
      refine aw_cVi mm_mo_closed 0 0 _ 5 [_] _ (wc_mo_closed G κ (km_s μ 0 _) o rest hB (hSs.2 j)) dd_mo_may_40 cv_mo_75 my_mo_closed np_mo_closed rfl rfl rfl (by decide) rfl rfl (Nat.le_of_ble_eq_true rfl) (Nat.le_of_ble_eq_true rfl) ?_
      refine aw_istore_n (lv' := [(3, _), (0, _), (1, _), (2, _)]) dd_mo_may_43 rfl (by decide) rfl ?_
      refine aw_iconst (v := 0) dd_mo_may_44 (by decide) ?_
      refine aw_istore (lv' := [(4, _), (3, _), (0, _), (1, _), (2, _)]) dd_mo_may_45 (by decide) rfl ?_
      refine aw_iconst (v := 0) dd_mo_may_47 (by decide) ?_
      refine aw_istore (lv' := [(5, _), (4, _), (3, _), (0, _), (1, _), (2, _)]) dd_mo_may_48 (by decide) rfl ?_
      refine aw_mono ?_ (wl_mo_may G κ (km_s μ 0 _) o rest hB hGr (hSs.2 j) hq _ (ga_n A) 0 (Nat.zero_add _))
      rintro o9 h9 ⟨rfl, rfl⟩
      exact ⟨_, rfl, fun _ => rfl, _, rfl, hR, wn_t hw1⟩
    · replace hw := zb_e0 hw
      rw [ab_may, if_pos hw]
      refine aw_iconst (v := 0) dd_mo_may_31 (by decide) ?_
      exact aw_zret dd_mo_may_32 rfl (by first | exact Or.inl rfl | exact Or.inr rfl) ⟨_, rfl, fun h0 => absurd (show (1 : Int32) = 0 from h0) (by decide), _, rfl, hR, wn_f hw⟩
  · refine aw_aload_n dd_mo_may_1 rfl 0 rfl ?_
    refine aw_iload_n dd_mo_may_2 rfl 1 rfl ?_
    refine aw_cVi mm_mo_isSession 0 0 _ 5 [_] _ (wc_mo_isSession G κ _ o rest (A := A) hSs _) dd_mo_may_3 cv_mo_128 my_mo_isSession np_mo_isSession rfl rfl rfl (by decide) rfl rfl (Nat.le_of_ble_eq_true rfl) (Nat.le_of_ble_eq_true rfl) ?_
    refine aw_if_eq (tgt := 23) dd_mo_may_6 (by decide) (fun h1 => ?_) (fun h1 => ?_)
    · refine aw_iconst (v := 0) dd_mo_may_23 (by decide) ?_
      exact aw_top (by simp_all [zb_q0, zb_q1, zb_i, pm_i]) kj1
    · refine aw_iload_n dd_mo_may_9 rfl 2 rfl ?_
      refine aw_if_lt (tgt := 23) dd_mo_may_10 (by decide) (fun h2 => ?_) (fun h2 => ?_)
      · refine aw_iconst (v := 0) dd_mo_may_23 (by decide) ?_
        exact aw_top (by simp_all [zb_q0, zb_q1, zb_i, pm_i]) kj1
      · refine aw_iload_n dd_mo_may_13 rfl 2 rfl ?_
        refine aw_bipush (v := 30) dd_mo_may_14 (by decide) ?_
        refine aw_icmp_gt (tgt := 23) dd_mo_may_16 (by decide) (fun h3 => ?_) (fun h3 => ?_)
        · refine aw_iconst (v := 0) dd_mo_may_23 (by decide) ?_
          exact aw_top (by simp_all [zb_q0, zb_q1, zb_i, pm_i]) kj1
        · refine aw_iconst (v := 1) dd_mo_may_19 (by decide) ?_
          refine aw_goto (tgt := 24) dd_mo_may_20 (by decide) ?_
          exact aw_top (by simp_all [zb_q0, zb_q1, zb_i, pm_i]) kj1
theorem wc_mo_giveRule (G : ag_T) (κ : ck_T) (μ : cm_T) (o : Nat → Int64) (rest : List va_E) {A : aa_T} (hR : rm_R μ A) (x y z w : Int32) : aw_w G mm_mo_giveRule 1 25 0 0 0 (lv_args 0 [.ref (G.1 + 13), .int x, .int y, .int z, .int w]) [] (hp_f G κ μ o rest) (qm_R G κ o rest (ab_giveRule A x y z w)) := by
  obtain ⟨hB, hGr, hU, hSL, hDL, hRs, hSs⟩ := id hR; have hn6 := hB.2.1; have hu5 := hU.2.1
  have hr8 := hRs.2.1
  refine aw_aload_n dd_mo_giveRule_0 rfl 0 rfl ?_
  refine aw_join (tgt := 23) (v := zb_i (rb_i (ga_n A) x && rb_i (ga_n A) w)) ?_ (fun kj1 => ?_)
  · refine aw_iconst (v := 1) dd_mo_giveRule_23 (by decide) ?_
    refine aw_cVi mm_mo_when 0 0 _ 5 [_, _] _ (wc_mo_when G κ _ o rest _ _) dd_mo_giveRule_24 cv_mo_86 my_mo_when np_mo_when rfl rfl rfl (by decide) rfl rfl (Nat.le_of_ble_eq_true rfl) (Nat.le_of_ble_eq_true rfl) ?_
    refine aw_if_eq (tgt := 79) dd_mo_giveRule_27 (by decide) (fun hw => ?_) (fun hw => ?_)
    · replace hw := zb_e0 hw
      rw [ab_giveRule, if_pos hw]
      refine aw_iconst (v := 0) dd_mo_giveRule_79 (by decide) ?_
      exact aw_iret dd_mo_giveRule_80 rfl (by first | exact ⟨_, rfl, fun h0 => absurd (show (1 : Int32) = 0 from h0) (by decide), _, rfl, hR, wn_f hw⟩ | exact ⟨_, rfl, fun h0 => absurd (show (2 : Int32) = 0 from h0) (by decide), _, rfl, hR, wn_f hw⟩ | exact ⟨_, rfl, fun h0 => absurd (show (3 : Int32) = 0 from h0) (by decide), _, rfl, hR, wn_f hw⟩)
    · have hw1 := bt_ne (zb_n0 hw)
      clear hw
      obtain ⟨h8, h9⟩ := Bool.and_eq_true_iff.mp (Bool.not_eq_false _ ▸ hw1)
      obtain ⟨i, hi, rfl⟩ := rb_n (by omega) h8
      obtain ⟨k, hk, rfl⟩ := rb_n (by omega) h9
      rw [ab_giveRule, if_neg hw1, iN_n (by omega), iN_n (by omega)]
      refine aw_aload_n dd_mo_giveRule_30 rfl 0 rfl ?_
      refine aw_join (tgt := 50) (v := zb_i (st_i y && st_i z)) ?_ (fun kj31 => ?_)
      · refine aw_iconst (v := 2) dd_mo_giveRule_50 (by decide) ?_
        refine aw_cVi mm_mo_when 0 0 _ 5 [_, _] _ (wc_mo_when G κ _ o rest _ _) dd_mo_giveRule_51 cv_mo_86 my_mo_when np_mo_when rfl rfl rfl (by decide) rfl rfl (Nat.le_of_ble_eq_true rfl) (Nat.le_of_ble_eq_true rfl) ?_
        refine aw_if_eq (tgt := 79) dd_mo_giveRule_54 (by decide) (fun hw => ?_) (fun hw => ?_)
        · replace hw := zb_e0 hw
          rw [if_pos hw]
          refine aw_iconst (v := 0) dd_mo_giveRule_79 (by decide) ?_
          exact aw_iret dd_mo_giveRule_80 rfl (by first | exact ⟨_, rfl, fun h0 => absurd (show (1 : Int32) = 0 from h0) (by decide), _, rfl, hR, wn_f hw⟩ | exact ⟨_, rfl, fun h0 => absurd (show (2 : Int32) = 0 from h0) (by decide), _, rfl, hR, wn_f hw⟩ | exact ⟨_, rfl, fun h0 => absurd (show (3 : Int32) = 0 from h0) (by decide), _, rfl, hR, wn_f hw⟩)
        · have hw2 := bt_ne (zb_n0 hw)
          clear hw
          rw [if_neg hw2]
          obtain ⟨h8, h9⟩ := Bool.and_eq_true_iff.mp (Bool.not_eq_false _ ▸ hw2)
          obtain ⟨a, ha, rfl⟩ := st_n h8
          obtain ⟨b, hb, rfl⟩ := st_n h9
          rw [iN_n (by omega), iN_n (by omega)]
          refine aw_aload_n dd_mo_giveRule_57 rfl 0 rfl ?_
          refine aw_join (tgt := 72) (v := zb_i (decide ((ga_r A).length < 8))) ?_ (fun kj58 => ?_)
          · refine aw_iconst (v := 3) dd_mo_giveRule_72 (by decide) ?_
            refine aw_cVi mm_mo_when 0 0 _ 5 [_, _] _ (wc_mo_when G κ _ o rest _ _) dd_mo_giveRule_73 cv_mo_86 my_mo_when np_mo_when rfl rfl rfl (by decide) rfl rfl (Nat.le_of_ble_eq_true rfl) (Nat.le_of_ble_eq_true rfl) ?_
            refine aw_if_ne (tgt := 81) dd_mo_giveRule_76 (by decide) (fun hw => ?_) (fun hw => ?_)
            · have hw3 := bt_ne (zb_n0 hw)
              clear hw
              have h8l : (ga_r A).length < 8 := by simpa using hw3
              rw [if_neg (show ¬ ¬ (ga_r A).length < 8 from fun h9 => h9 h8l)]
              refine aw_aload_n dd_mo_giveRule_81 rfl 0 rfl ?_
              refine aw_iconst (v := 1) dd_mo_giveRule_82 (by decide) ?_
              refine aw_iload_n dd_mo_giveRule_83 rfl 1 rfl ?_
              refine aw_iload_n dd_mo_giveRule_84 rfl 2 rfl ?_
              refine aw_iload_n dd_mo_giveRule_85 rfl 3 rfl ?_
              refine aw_iload dd_mo_giveRule_86 4 rfl ?_
              refine aw_cVe mm_mo_addRule 0 0 _ 5 [_, _, _, _, _] _ (wc_mo_addRule G κ (km_s (km_s (km_s μ 0 (if (rb_i (ga_n A) (nI i) && rb_i (ga_n A) (nI k)) = true then 0 else 1)) 0 (if (st_i (nI a) && st_i (nI b)) = true then 0 else 2)) 0 (if (decide ((ga_r A).length < 8)) = true then 0 else 3)) o rest hR (true, i, a, b, k) ⟨show i < 6 by omega, ha, hb, show k < 6 by omega⟩ h8l (wn_t hw3)) dd_mo_giveRule_88 cv_mo_106 my_mo_addRule np_mo_addRule rfl rfl rfl (by decide) rfl rfl (Nat.le_of_ble_eq_true rfl) (Nat.le_of_ble_eq_true rfl) (fun w9 h9 hq => ?_)
              obtain ⟨e1, μ1, rfl, e3, e4⟩ := hq
              exact aw_iret dd_mo_giveRule_91 rfl ⟨_, rfl, e1, μ1, rfl, e3, e4⟩
            · replace hw := zb_e0 hw
              rw [if_pos (show ¬ (ga_r A).length < 8 by simpa using hw)]
              refine aw_iconst (v := 0) dd_mo_giveRule_79 (by decide) ?_
              exact aw_iret dd_mo_giveRule_80 rfl (by first | exact ⟨_, rfl, fun h0 => absurd (show (1 : Int32) = 0 from h0) (by decide), _, rfl, hR, wn_f hw⟩ | exact ⟨_, rfl, fun h0 => absurd (show (2 : Int32) = 0 from h0) (by decide), _, rfl, hR, wn_f hw⟩ | exact ⟨_, rfl, fun h0 => absurd (show (3 : Int32) = 0 from h0) (by decide), _, rfl, hR, wn_f hw⟩)
          · refine aw_aload_n dd_mo_giveRule_58 rfl 0 rfl ?_
            refine aw_getf _ 5 13 dd_mo_giveRule_59 fl_mo_100 rfl rfl ?_
            refine aw_top hRs.1 ?_
            refine aw_bipush (v := (nI 8)) dd_mo_giveRule_62 (by decide) ?_
            refine aw_icmp_ge (tgt := 71) dd_mo_giveRule_64 (by decide) (fun h5 => ?_) (fun h5 => ?_)
            · refine aw_iconst (v := 0) dd_mo_giveRule_71 (by decide) ?_
              exact aw_top (by rw [nI_leI (by omega) (by omega)] at h5; simp [zb_i]; omega) kj58
            · refine aw_iconst (v := 1) dd_mo_giveRule_67 (by decide) ?_
              refine aw_goto (tgt := 72) dd_mo_giveRule_68 (by decide) ?_
              exact aw_top (by rw [nI_leI (by omega) (by omega)] at h5; simp [zb_i]; omega) kj58
      · refine aw_iload_n dd_mo_giveRule_31 rfl 2 rfl ?_
        refine aw_cSi mm_mo_isSet 0 0 [_] _ (wc_mo_isSet G _ _) dd_mo_giveRule_32 cs_mo_103 my_mo_isSet np_mo_isSet rfl (by decide) rfl rfl (Nat.le_of_ble_eq_true rfl) (Nat.le_of_ble_eq_true rfl) ?_
        refine aw_if_eq (tgt := 49) dd_mo_giveRule_35 (by decide) (fun h3 => ?_) (fun h3 => ?_)
        · refine aw_iconst (v := 0) dd_mo_giveRule_49 (by decide) ?_
          exact aw_top (by simp_all [zb_q0, zb_q1, zb_i]) kj31
        · refine aw_iload_n dd_mo_giveRule_38 rfl 3 rfl ?_
          refine aw_cSi mm_mo_isSet 0 0 [_] _ (wc_mo_isSet G _ _) dd_mo_giveRule_39 cs_mo_103 my_mo_isSet np_mo_isSet rfl (by decide) rfl rfl (Nat.le_of_ble_eq_true rfl) (Nat.le_of_ble_eq_true rfl) ?_
          refine aw_if_eq (tgt := 49) dd_mo_giveRule_42 (by decide) (fun h4 => ?_) (fun h4 => ?_)
          · refine aw_iconst (v := 0) dd_mo_giveRule_49 (by decide) ?_
            exact aw_top (by simp_all [zb_q0, zb_q1, zb_i]) kj31
          · refine aw_iconst (v := 1) dd_mo_giveRule_45 (by decide) ?_
            refine aw_goto (tgt := 50) dd_mo_giveRule_46 (by decide) ?_
            exact aw_top (by simp_all [zb_q0, zb_q1, zb_i]) kj31
  · refine aw_aload_n dd_mo_giveRule_1 rfl 0 rfl ?_
    refine aw_iload_n dd_mo_giveRule_2 rfl 1 rfl ?_
    refine aw_cVi mm_mo_isRole 0 0 _ 5 [_] _ (wc_mo_isRole G κ _ o rest (n := ga_n A) hB.1 _) dd_mo_giveRule_3 cv_mo_90 my_mo_isRole np_mo_isRole rfl rfl rfl (by decide) rfl rfl (Nat.le_of_ble_eq_true rfl) (Nat.le_of_ble_eq_true rfl) ?_
    refine aw_if_eq (tgt := 22) dd_mo_giveRule_6 (by decide) (fun h1 => ?_) (fun h1 => ?_)
    · refine aw_iconst (v := 0) dd_mo_giveRule_22 (by decide) ?_
      exact aw_top (by simp_all [zb_q0, zb_q1, zb_i]) kj1
    · refine aw_aload_n dd_mo_giveRule_9 rfl 0 rfl ?_
      refine aw_iload dd_mo_giveRule_10 4 rfl ?_
      refine aw_cVi mm_mo_isRole 0 0 _ 5 [_] _ (wc_mo_isRole G κ _ o rest (n := ga_n A) hB.1 _) dd_mo_giveRule_12 cv_mo_90 my_mo_isRole np_mo_isRole rfl rfl rfl (by decide) rfl rfl (Nat.le_of_ble_eq_true rfl) (Nat.le_of_ble_eq_true rfl) ?_
      refine aw_if_eq (tgt := 22) dd_mo_giveRule_15 (by decide) (fun h2 => ?_) (fun h2 => ?_)
      · refine aw_iconst (v := 0) dd_mo_giveRule_22 (by decide) ?_
        exact aw_top (by simp_all [zb_q0, zb_q1, zb_i]) kj1
      · refine aw_iconst (v := 1) dd_mo_giveRule_18 (by decide) ?_
        refine aw_goto (tgt := 23) dd_mo_giveRule_19 (by decide) ?_
        exact aw_top (by simp_all [zb_q0, zb_q1, zb_i]) kj1
theorem wc_mo_takeRule (G : ag_T) (κ : ck_T) (μ : cm_T) (o : Nat → Int64) (rest : List va_E) {A : aa_T} (hR : rm_R μ A) (x w : Int32) : aw_w G mm_mo_takeRule 1 25 0 0 0 (lv_args 0 [.ref (G.1 + 13), .int x, .int w]) [] (hp_f G κ μ o rest) (qm_R G κ o rest (ab_takeRule A x w)) := by
  obtain ⟨hB, hGr, hU, hSL, hDL, hRs, hSs⟩ := id hR; have hn6 := hB.2.1; have hu5 := hU.2.1
  have hr8 := hRs.2.1
  refine aw_aload_n dd_mo_takeRule_0 rfl 0 rfl ?_
  refine aw_join (tgt := 22) (v := zb_i (rb_i (ga_n A) x && rb_i (ga_n A) w)) ?_ (fun kj1 => ?_)
  · refine aw_iconst (v := 1) dd_mo_takeRule_22 (by decide) ?_
    refine aw_cVi mm_mo_when 0 0 _ 5 [_, _] _ (wc_mo_when G κ _ o rest _ _) dd_mo_takeRule_23 cv_mo_86 my_mo_when np_mo_when rfl rfl rfl (by decide) rfl rfl (Nat.le_of_ble_eq_true rfl) (Nat.le_of_ble_eq_true rfl) ?_
    refine aw_if_eq (tgt := 51) dd_mo_takeRule_26 (by decide) (fun hw => ?_) (fun hw => ?_)
    · replace hw := zb_e0 hw
      rw [ab_takeRule, if_pos hw]
      refine aw_iconst (v := 0) dd_mo_takeRule_51 (by decide) ?_
      exact aw_iret dd_mo_takeRule_52 rfl (by first | exact ⟨_, rfl, fun h0 => absurd (show (1 : Int32) = 0 from h0) (by decide), _, rfl, hR, wn_f hw⟩ | exact ⟨_, rfl, fun h0 => absurd (show (2 : Int32) = 0 from h0) (by decide), _, rfl, hR, wn_f hw⟩)
    · have hw1 := bt_ne (zb_n0 hw)
      clear hw
      obtain ⟨h8, h9⟩ := Bool.and_eq_true_iff.mp (Bool.not_eq_false _ ▸ hw1)
      obtain ⟨i, hi, rfl⟩ := rb_n (by omega) h8
      obtain ⟨k, hk, rfl⟩ := rb_n (by omega) h9
      rw [ab_takeRule, if_neg hw1, iN_n (by omega), iN_n (by omega)]
      refine aw_aload_n dd_mo_takeRule_29 rfl 0 rfl ?_
      refine aw_join (tgt := 44) (v := zb_i (decide ((ga_r A).length < 8))) ?_ (fun kj30 => ?_)
      · refine aw_iconst (v := 2) dd_mo_takeRule_44 (by decide) ?_
        refine aw_cVi mm_mo_when 0 0 _ 5 [_, _] _ (wc_mo_when G κ _ o rest _ _) dd_mo_takeRule_45 cv_mo_86 my_mo_when np_mo_when rfl rfl rfl (by decide) rfl rfl (Nat.le_of_ble_eq_true rfl) (Nat.le_of_ble_eq_true rfl) ?_
        refine aw_if_ne (tgt := 53) dd_mo_takeRule_48 (by decide) (fun hw => ?_) (fun hw => ?_)
        · have hw3 := bt_ne (zb_n0 hw)
          clear hw
          have h8l : (ga_r A).length < 8 := by simpa using hw3
          rw [if_neg (show ¬ ¬ (ga_r A).length < 8 from fun h9 => h9 h8l)]
          refine aw_aload_n dd_mo_takeRule_53 rfl 0 rfl ?_
          refine aw_iconst (v := (zb_i false)) dd_mo_takeRule_54 (by decide) ?_
          refine aw_iload_n dd_mo_takeRule_55 rfl 1 rfl ?_
          refine aw_iconst (v := (nI 0)) dd_mo_takeRule_56 (by decide) ?_
          refine aw_iconst (v := (nI 0)) dd_mo_takeRule_57 (by decide) ?_
          refine aw_iload_n dd_mo_takeRule_58 rfl 2 rfl ?_
          refine aw_cVe mm_mo_addRule 0 0 _ 5 [_, _, _, _, _] _ (wc_mo_addRule G κ (km_s (km_s μ 0 (if (rb_i (ga_n A) (nI i) && rb_i (ga_n A) (nI k)) = true then 0 else 1)) 0 (if (decide ((ga_r A).length < 8)) = true then 0 else 2)) o rest hR (false, i, 0, 0, k) ⟨show i < 6 by omega, show 0 < 64 by decide, show 0 < 64 by decide, show k < 6 by omega⟩ h8l (wn_t hw3)) dd_mo_takeRule_59 cv_mo_106 my_mo_addRule np_mo_addRule rfl rfl rfl (by decide) rfl rfl (Nat.le_of_ble_eq_true rfl) (Nat.le_of_ble_eq_true rfl) (fun w9 h9 hq => ?_)
          obtain ⟨e1, μ1, rfl, e3, e4⟩ := hq
          exact aw_iret dd_mo_takeRule_62 rfl ⟨_, rfl, e1, μ1, rfl, e3, e4⟩
        · replace hw := zb_e0 hw
          rw [if_pos (show ¬ (ga_r A).length < 8 by simpa using hw)]
          refine aw_iconst (v := 0) dd_mo_takeRule_51 (by decide) ?_
          exact aw_iret dd_mo_takeRule_52 rfl (by first | exact ⟨_, rfl, fun h0 => absurd (show (1 : Int32) = 0 from h0) (by decide), _, rfl, hR, wn_f hw⟩ | exact ⟨_, rfl, fun h0 => absurd (show (2 : Int32) = 0 from h0) (by decide), _, rfl, hR, wn_f hw⟩)
      · refine aw_aload_n dd_mo_takeRule_30 rfl 0 rfl ?_
        refine aw_getf _ 5 13 dd_mo_takeRule_31 fl_mo_100 rfl rfl ?_
        refine aw_top hRs.1 ?_
        refine aw_bipush (v := (nI 8)) dd_mo_takeRule_34 (by decide) ?_
        refine aw_icmp_ge (tgt := 43) dd_mo_takeRule_36 (by decide) (fun h5 => ?_) (fun h5 => ?_)
        · refine aw_iconst (v := 0) dd_mo_takeRule_43 (by decide) ?_
          exact aw_top (by rw [nI_leI (by omega) (by omega)] at h5; simp [zb_i]; omega) kj30
        · refine aw_iconst (v := 1) dd_mo_takeRule_39 (by decide) ?_
          refine aw_goto (tgt := 44) dd_mo_takeRule_40 (by decide) ?_
          exact aw_top (by rw [nI_leI (by omega) (by omega)] at h5; simp [zb_i]; omega) kj30
  · refine aw_aload_n dd_mo_takeRule_1 rfl 0 rfl ?_
    refine aw_iload_n dd_mo_takeRule_2 rfl 1 rfl ?_
    refine aw_cVi mm_mo_isRole 0 0 _ 5 [_] _ (wc_mo_isRole G κ _ o rest (n := ga_n A) hB.1 _) dd_mo_takeRule_3 cv_mo_90 my_mo_isRole np_mo_isRole rfl rfl rfl (by decide) rfl rfl (Nat.le_of_ble_eq_true rfl) (Nat.le_of_ble_eq_true rfl) ?_
    refine aw_if_eq (tgt := 21) dd_mo_takeRule_6 (by decide) (fun h1 => ?_) (fun h1 => ?_)
    · refine aw_iconst (v := 0) dd_mo_takeRule_21 (by decide) ?_
      exact aw_top (by simp_all [zb_q0, zb_q1, zb_i]) kj1
    · refine aw_aload_n dd_mo_takeRule_9 rfl 0 rfl ?_
      refine aw_iload_n dd_mo_takeRule_10 rfl 2 rfl ?_
      refine aw_cVi mm_mo_isRole 0 0 _ 5 [_] _ (wc_mo_isRole G κ _ o rest (n := ga_n A) hB.1 _) dd_mo_takeRule_11 cv_mo_90 my_mo_isRole np_mo_isRole rfl rfl rfl (by decide) rfl rfl (Nat.le_of_ble_eq_true rfl) (Nat.le_of_ble_eq_true rfl) ?_
      refine aw_if_eq (tgt := 21) dd_mo_takeRule_14 (by decide) (fun h2 => ?_) (fun h2 => ?_)
      · refine aw_iconst (v := 0) dd_mo_takeRule_21 (by decide) ?_
        exact aw_top (by simp_all [zb_q0, zb_q1, zb_i]) kj1
      · refine aw_iconst (v := 1) dd_mo_takeRule_17 (by decide) ?_
        refine aw_goto (tgt := 22) dd_mo_takeRule_18 (by decide) ?_
        exact aw_top (by simp_all [zb_q0, zb_q1, zb_i]) kj1
theorem fr_4 {so : Nat → Option Nat} {r : Nat} (h : ∀ s, s < r → (so s).isSome = true) (h2 : r < 4 → so r = none) (hr : r ≤ 4) : ab_free so = r := by
  have hh : ∀ s, s < r → ¬ so s = none := fun s hs h9 => by have := h s hs; rw [h9] at this; cases this
  unfold ab_free
  rcases (show r = 0 ∨ r = 1 ∨ r = 2 ∨ r = 3 ∨ r = 4 by omega) with e | e | e | e | e <;> subst e
  · rw [if_pos (h2 (by decide))]
  · rw [if_neg (hh 0 (by decide)), if_pos (h2 (by decide))]
  · rw [if_neg (hh 0 (by decide)), if_neg (hh 1 (by decide)), if_pos (h2 (by decide))]
  · rw [if_neg (hh 0 (by decide)), if_neg (hh 1 (by decide)), if_neg (hh 2 (by decide)), if_pos (h2 (by decide))]
  · rw [if_neg (hh 0 (by decide)), if_neg (hh 1 (by decide)), if_neg (hh 2 (by decide)), if_neg (hh 3 (by decide))]
theorem wm_mo_open (G : ag_T) (κ : ck_T) (μ : cm_T) (o : Nat → Int64) (rest : List va_E) {A : aa_T} (hR : rm_R μ A) (x : Int32) : aw_w G mm_mo_open 1 22 0 0 22 [(2, .int (nI (ab_free (ga_o A)))), (0, .ref (G.1 + 13)), (1, .int x)] [] (hp_f G κ μ o rest) (qm_R G κ o rest (ab_open A x)) := by
  obtain ⟨hB, hGr, hU, hSL, hDL, hRs, hSs⟩ := id hR; have hn6 := hB.2.1; have hu5 := hU.2.1
  have hF : ab_free (ga_o A) ≤ 4 := by unfold ab_free; repeat (first | (split; decide) | decide | (split; omega) | omega)
  refine aw_aload_n dd_mo_open_22 rfl 1 rfl ?_
  refine aw_aload_n dd_mo_open_23 rfl 1 rfl ?_
  refine aw_iload_n dd_mo_open_24 rfl 2 rfl ?_
  refine aw_cVi mm_mo_isUser 0 0 _ 5 [_] _ (wc_mo_isUser G κ _ o rest (n := ga_u A) hU.1 _) dd_mo_open_25 cv_mo_113 my_mo_isUser np_mo_isUser rfl rfl rfl (by decide) rfl rfl (Nat.le_of_ble_eq_true rfl) (Nat.le_of_ble_eq_true rfl) ?_
  refine aw_iconst (v := 1) dd_mo_open_28 (by decide) ?_
  refine aw_cVi mm_mo_when 0 0 _ 5 [_, _] _ (wc_mo_when G κ _ o rest _ _) dd_mo_open_29 cv_mo_86 my_mo_when np_mo_when rfl rfl rfl (by decide) rfl rfl (Nat.le_of_ble_eq_true rfl) (Nat.le_of_ble_eq_true rfl) ?_
  refine aw_if_eq (tgt := 53) dd_mo_open_32 (by decide) (fun hw => ?_) (fun hw => ?_)
  · replace hw := zb_e0 hw
    rw [ab_open, if_pos hw]
    refine aw_iconst (v := 0) dd_mo_open_53 (by decide) ?_
    exact aw_iret dd_mo_open_54 rfl (by first | exact ⟨_, rfl, fun h0 => absurd (show (1 : Int32) = 0 from h0) (by decide), _, rfl, hR, wn_f hw⟩ | exact ⟨_, rfl, fun h0 => absurd (show (2 : Int32) = 0 from h0) (by decide), _, rfl, hR, wn_f hw⟩)
  · have hw1 := bt_ne (zb_n0 hw)
    clear hw
    obtain ⟨j, hj, rfl⟩ := rb_n (by omega) (Bool.not_eq_false _ ▸ hw1)
    rw [ab_open, if_neg hw1, iN_n (by omega)]
    refine aw_aload_n dd_mo_open_35 rfl 1 rfl ?_
    refine aw_join (tgt := 46) (v := zb_i (decide (ab_free (ga_o A) < 4))) ?_ (fun kj36 => ?_)
    · refine aw_iconst (v := 2) dd_mo_open_46 (by decide) ?_
      refine aw_cVi mm_mo_when 0 0 _ 5 [_, _] _ (wc_mo_when G κ _ o rest _ _) dd_mo_open_47 cv_mo_86 my_mo_when np_mo_when rfl rfl rfl (by decide) rfl rfl (Nat.le_of_ble_eq_true rfl) (Nat.le_of_ble_eq_true rfl) ?_
      refine aw_if_ne (tgt := 55) dd_mo_open_50 (by decide) (fun hw => ?_) (fun hw => ?_)
      · have hw3 := bt_ne (zb_n0 hw)
        clear hw
        have h4l : ab_free (ga_o A) < 4 := by simpa using hw3
        rw [if_neg (show ¬ ¬ ab_free (ga_o A) < 4 from fun h9 => h9 h4l)]
        refine aw_aload_n dd_mo_open_55 rfl 1 rfl ?_
        refine aw_getf _ 5 10 dd_mo_open_56 fl_mo_31 rfl rfl ?_
        refine aw_iload_n dd_mo_open_59 rfl 0 rfl ?_
        refine aw_iconst (v := 1) dd_mo_open_60 (by decide) ?_
        refine aw_zsN _ (ab_free (ga_o A)) dd_mo_open_61 rfl (h4l) (by decide) (Or.inr rfl) ?_
        refine aw_h (hs_ma7 G _ _ _ _ _ _) ?_
        refine aw_aload_n dd_mo_open_62 rfl 1 rfl ?_
        refine aw_getf _ 5 11 dd_mo_open_63 fl_mo_35 rfl rfl ?_
        refine aw_iload_n dd_mo_open_66 rfl 0 rfl ?_
        refine aw_iload_n dd_mo_open_67 rfl 2 rfl ?_
        refine aw_isN _ (ab_free (ga_o A)) dd_mo_open_68 rfl (h4l) (by decide) ?_
        refine aw_h (hs_ma8 G _ _ _ _ _ _) ?_
        refine aw_aload_n dd_mo_open_69 rfl 1 rfl ?_
        refine aw_getf _ 5 12 dd_mo_open_70 fl_mo_38 rfl rfl ?_
        refine aw_iload_n dd_mo_open_73 rfl 0 rfl ?_
        refine aw_iconst (v := 0) dd_mo_open_74 (by decide) ?_
        refine aw_isN _ (ab_free (ga_o A)) dd_mo_open_75 rfl (h4l) (by decide) ?_
        refine aw_h (hs_ma9 G _ _ _ _ _ _) ?_
        refine aw_iload_n dd_mo_open_76 rfl 0 rfl ?_
        exact aw_iret dd_mo_open_77 rfl ⟨_, rfl, fun _ => rfl, _, rfl, ⟨hB, hGr, hU, hSL, hDL, hRs, so_o hSs (by omega)⟩, wn_t hw3⟩
      · replace hw := zb_e0 hw
        rw [if_pos (show ¬ ab_free (ga_o A) < 4 by simpa using hw)]
        refine aw_iconst (v := 0) dd_mo_open_53 (by decide) ?_
        exact aw_iret dd_mo_open_54 rfl (by first | exact ⟨_, rfl, fun h0 => absurd (show (1 : Int32) = 0 from h0) (by decide), _, rfl, hR, wn_f hw⟩ | exact ⟨_, rfl, fun h0 => absurd (show (2 : Int32) = 0 from h0) (by decide), _, rfl, hR, wn_f hw⟩)
    · refine aw_iload_n dd_mo_open_36 rfl 0 rfl ?_
      refine aw_iconst (v := (nI 4)) dd_mo_open_37 (by decide) ?_
      refine aw_icmp_ge (tgt := 45) dd_mo_open_38 (by decide) (fun h5 => ?_) (fun h5 => ?_)
      · refine aw_iconst (v := 0) dd_mo_open_45 (by decide) ?_
        exact aw_top (by rw [nI_leI (by omega) (by omega)] at h5; simp [zb_i]; omega) kj36
      · refine aw_iconst (v := 1) dd_mo_open_41 (by decide) ?_
        refine aw_goto (tgt := 46) dd_mo_open_42 (by decide) ?_
        exact aw_top (by rw [nI_leI (by omega) (by omega)] at h5; simp [zb_i]; omega) kj36
theorem wl_mo_open (G : ag_T) (κ : ck_T) (μ : cm_T) (o : Nat → Int64) (rest : List va_E) {A : aa_T} (hR : rm_R μ A) (x : Int32) : ∀ (k r : Nat), r + k = 4 → (∀ s, s < r → (ga_o A s).isSome = true) → aw_w G mm_mo_open 1 22 0 0 2 [(2, .int (nI r)), (0, .ref (G.1 + 13)), (1, .int x)] [] (hp_f G κ μ o rest) (qm_R G κ o rest (ab_open A x)) := by
  intro k
  induction k with
  | zero =>
    intro r hr hs
    have e : r = 4 := by omega
    subst e
    have e9 := fr_4 hs (fun h9 => absurd h9 (by decide)) (by decide)
    refine aw_iload_n dd_mo_open_2 rfl 0 rfl ?_
    refine aw_iconst (v := 4) dd_mo_open_3 (by decide) ?_
    refine aw_icmp_ge (tgt := 22) dd_mo_open_4 (by decide) (fun _ => ?_) (fun h9 => absurd (nI_le (a := 4) (b := 4) (by decide) (by decide)) h9)
    have w9 := wm_mo_open G κ μ o rest hR x
    rw [e9] at w9
    exact w9
  | succ k ih =>
    intro r hr hs
    have hSs := hR.2.2.2.2.2.2
    refine aw_iload_n dd_mo_open_2 rfl 0 rfl ?_
    refine aw_iconst (v := 4) dd_mo_open_3 (by decide) ?_
    refine aw_icmp_ge (tgt := 22) dd_mo_open_4 (by decide) (fun h9 => absurd h9 (nI_ge (b := 4) (by omega) (by decide))) (fun _ => ?_)
    refine aw_aload_n dd_mo_open_7 rfl 1 rfl ?_
    refine aw_getf _ 5 10 dd_mo_open_8 fl_mo_31 rfl rfl ?_
    refine aw_iload_n dd_mo_open_11 rfl 0 rfl ?_
    refine aw_zaN _ (r) dd_mo_open_12 rfl (by omega) (by decide) ?_
    refine aw_top (hSs.1 r (by omega)).1 ?_
    refine aw_if_eq (tgt := 22) dd_mo_open_13 (by decide) (fun h1 => ?_) (fun h1 => ?_)
    · have e9 := fr_4 hs (fun _ => by have := zb_e0 h1; simpa using this) (by omega)
      have w9 := wm_mo_open G κ μ o rest hR x
      rw [e9] at w9
      exact w9
    · refine aw_iinc (v := nI (r + 1)) (lv' := [(2, _), (0, _), (1, _)]) dd_mo_open_16 0 rfl (nI_1 _) (by decide) rfl ?_
      refine aw_goto (tgt := 2) dd_mo_open_19 (by decide) ?_
      refine ih (r + 1) (by omega) (fun s h9 => ?_)
      by_cases e : s = r
      · subst e; exact zb_n0 h1
      · exact hs s (by omega)
theorem wc_mo_open (G : ag_T) (κ : ck_T) (μ : cm_T) (o : Nat → Int64) (rest : List va_E) {A : aa_T} (hR : rm_R μ A) (x : Int32) : aw_w G mm_mo_open 1 22 0 0 0 (lv_args 0 [.ref (G.1 + 13), .int x]) [] (hp_f G κ μ o rest) (qm_R G κ o rest (ab_open A x)) := by
  refine aw_iconst (v := 0) dd_mo_open_0 (by decide) ?_
  refine aw_istore_n (lv' := [(2, _), (0, _), (1, _)]) dd_mo_open_1 rfl (by decide) rfl ?_
  exact wl_mo_open G κ μ o rest hR x 4 0 rfl (fun s h9 => absurd h9 (Nat.not_lt_zero s))
end
section
/-! ===== the reference: limit, above ===== -/
theorem li_add {μ : cm_T} {K off : Nat} {ls : pl_T} (hL : rm_l μ K off ls) (h4 : ls.length < 4) {a : Nat} (ha : a < 64) {m : Int32} {μ' : cm_T} (e4 : μ'.2 4 K = nI (ls.length + 1)) (e5 : ∀ i, i ≤ ls.length → μ'.2 5 (off + i) = upd (μ.2 5) (off + ls.length) (nI a) (off + i)) (e6 : ∀ i, i ≤ ls.length → μ'.2 6 (off + i) = upd (μ.2 6) (off + ls.length) m (off + i)) : rm_l μ' K off (ls ++ [(a, m)]) := by
  refine ⟨by rw [e4, List.length_append]; rfl, by rw [List.length_append]; exact h4, fun i y hy => ?_⟩
  by_cases hi : i < ls.length
  · rw [List.getElem?_append_left hi] at hy
    obtain ⟨l1, l2, l3⟩ := hL.2.2 i y hy
    rw [e5 i (by omega), e6 i (by omega)]
    unfold upd
    rw [if_neg (by omega), if_neg (by omega)]
    exact ⟨l1, l2, l3⟩
  · have hi2 : i = ls.length := by
      have := (List.getElem?_eq_some_iff.mp hy).1
      rw [List.length_append] at this
      simp at this
      omega
    subst hi2
    rw [List.getElem?_concat_length] at hy
    cases hy
    rw [e5 _ (Nat.le_refl _), e6 _ (Nat.le_refl _)]
    unfold upd
    rw [if_pos rfl, if_pos rfl]
    exact ⟨rfl, rfl, ha⟩
theorem li_oth {μ : cm_T} {K off : Nat} {ls : pl_T} (hL : rm_l μ K off ls) {μ' : cm_T} (e4 : μ'.2 4 K = μ.2 4 K) (e5 : ∀ i, i < ls.length → μ'.2 5 (off + i) = μ.2 5 (off + i)) (e6 : ∀ i, i < ls.length → μ'.2 6 (off + i) = μ.2 6 (off + i)) : rm_l μ' K off ls := by
  refine ⟨by rw [e4]; exact hL.1, hL.2.1, fun i y hy => ?_⟩
  have := (List.getElem?_eq_some_iff.mp hy).1
  rw [e5 i this, e6 i this]
  exact hL.2.2 i y hy
theorem wm_mo_limit1 (G : ag_T) (κ : ck_T) (μ : cm_T) (o : Nat → Int64) (rest : List va_E) {A : aa_T} (hR : rm_R μ A) (m : Int32) {a : Nat} (ha : a < 64) (h4 : (ga_d A).length < 4) : aw_w G mm_mo_limit 3 69 0 0 178 [(7, .int (nI 4)), (6, .int (zb_i (pa_k (fun i => !(ga_o A i).isSome || pk_l (ga_d A ++ [(a, m)]) (ga_c A i)) 4))), (5, .int (nI (4 + (ga_d A).length))), (4, .int (nI 1)), (0, .ref (G.1 + 13)), (1, .int (zb_i true)), (2, .int (nI a)), (3, .int m)] [] (hp_f G κ (km_a (km_a (km_a μ 5 (4 + (ga_d A).length) (nI a)) 6 (4 + (ga_d A).length) m) 4 1 (nI ((ga_d A).length + 1))) o rest) (qm_V G κ o rest (if pa_k (fun i => !(ga_o A i).isSome || pk_l (ga_d A ++ [(a, m)]) (ga_c A i)) 4 = true then (0, 0, sa_d A (ga_d A ++ [(a, m)])) else (2, 0, A))) := by
  obtain ⟨hB, hGr, hU, hSL, hDL, hRs, hSs⟩ := id hR; have hn6 := hB.2.1; have hu5 := hU.2.1
  refine aw_aload_n dd_mo_limit_178 rfl 4 rfl ?_
  refine aw_iload dd_mo_limit_179 1 rfl ?_
  refine aw_iconst (v := 2) dd_mo_limit_181 (by decide) ?_
  refine aw_cVi mm_mo_when 0 0 _ 5 [_, _] _ (wc_mo_when G κ _ o rest _ _) dd_mo_limit_182 cv_mo_86 my_mo_when np_mo_when rfl rfl rfl (by decide) rfl rfl (Nat.le_of_ble_eq_true rfl) (Nat.le_of_ble_eq_true rfl) ?_
  refine aw_if_ne (tgt := 199) dd_mo_limit_185 (by decide) (fun hw => ?_) (fun hw => ?_)
  · replace hw := zb_n0 hw
    rw [show (if pa_k (fun i => !(ga_o A i).isSome || pk_l (ga_d A ++ [(a, m)]) (ga_c A i)) 4 = true then ((0, 0, sa_d A (ga_d A ++ [(a, m)])) : ar_T) else (2, 0, A)) = (0, 0, sa_d A (ga_d A ++ [(a, m)])) from if_pos hw]
    exact aw_vret dd_mo_limit_199 rfl (by first | exact ⟨rfl, _, rfl, ⟨hB, hGr, hU, li_oth hSL rfl (fun i hi => by show upd _ _ _ _ = _; unfold upd; rw [if_neg (by have := hSL.2.1; omega)]; try rfl) (fun i hi => by show upd _ _ _ _ = _; unfold upd; rw [if_neg (by have := hSL.2.1; omega)]; try rfl), li_add hDL h4 ha rfl (fun i _ => rfl) (fun i _ => rfl), hRs, hSs⟩, wn_t (bt_ne hw)⟩ | exact ⟨rfl, _, rfl, ⟨hB, hGr, hU, li_oth hSL rfl (fun i hi => by show upd _ _ _ _ = _; unfold upd; rw [if_neg (by have := hSL.2.1; omega)]; try rfl) (fun i hi => by show upd _ _ _ _ = _; unfold upd; rw [if_neg (by have := hSL.2.1; omega)]; try rfl), li_oth hDL hDL.1.symm (fun i hi => by show upd _ _ _ _ = _; unfold upd; rw [if_neg (by omega)]; try rfl) (fun i hi => by show upd _ _ _ _ = _; unfold upd; rw [if_neg (by omega)]; try rfl), hRs, hSs⟩, wn_f hw⟩)
  · replace hw := zb_e0 hw
    rw [show (if pa_k (fun i => !(ga_o A i).isSome || pk_l (ga_d A ++ [(a, m)]) (ga_c A i)) 4 = true then ((0, 0, sa_d A (ga_d A ++ [(a, m)])) : ar_T) else (2, 0, A)) = (2, 0, A) from if_neg (show ¬ pa_k (fun i => !(ga_o A i).isSome || pk_l (ga_d A ++ [(a, m)]) (ga_c A i)) 4 = true by rw [hw]; decide)]
    refine aw_aload_n dd_mo_limit_188 rfl 4 rfl ?_
    refine aw_getf _ 5 7 dd_mo_limit_189 fl_mo_22 rfl rfl ?_
    refine aw_iload dd_mo_limit_192 3 rfl ?_
    refine aw_dup2 dd_mo_limit_194 rfl rfl ?_
    refine aw_iaN _ (1) dd_mo_limit_195 rfl (by decide) (by decide) ?_
    refine aw_top (y := nI ((ga_d A).length + 1)) rfl ?_
    refine aw_iconst (v := 1) dd_mo_limit_196 (by decide) ?_
    refine aw_isub dd_mo_limit_197 ?_
    refine aw_top (nI_pred _) ?_
    refine aw_isN _ (1) dd_mo_limit_198 rfl (by decide) (by decide) ?_
    refine aw_h (hs_ma4 G _ _ _ _ _ _) ?_
    exact aw_vret dd_mo_limit_199 rfl (by first | exact ⟨rfl, _, rfl, ⟨hB, hGr, hU, li_oth hSL rfl (fun i hi => by show upd _ _ _ _ = _; unfold upd; rw [if_neg (by have := hSL.2.1; omega)]; try rfl) (fun i hi => by show upd _ _ _ _ = _; unfold upd; rw [if_neg (by have := hSL.2.1; omega)]; try rfl), li_add hDL h4 ha rfl (fun i _ => rfl) (fun i _ => rfl), hRs, hSs⟩, wn_t (bt_ne hw)⟩ | exact ⟨rfl, _, rfl, ⟨hB, hGr, hU, li_oth hSL rfl (fun i hi => by show upd _ _ _ _ = _; unfold upd; rw [if_neg (by have := hSL.2.1; omega)]; try rfl) (fun i hi => by show upd _ _ _ _ = _; unfold upd; rw [if_neg (by have := hSL.2.1; omega)]; try rfl), li_oth hDL hDL.1.symm (fun i hi => by show upd _ _ _ _ = _; unfold upd; rw [if_neg (by omega)]; try rfl) (fun i hi => by show upd _ _ _ _ = _; unfold upd; rw [if_neg (by omega)]; try rfl), hRs, hSs⟩, wn_f hw⟩)
theorem wl_mo_limit1 (G : ag_T) (κ : ck_T) (μ : cm_T) (o : Nat → Int64) (rest : List va_E) {A : aa_T} (hR : rm_R μ A) (m : Int32) {a : Nat} (ha : a < 64) (h4 : (ga_d A).length < 4) : ∀ (k r : Nat), r + k = 4 → aw_w G mm_mo_limit 3 69 0 0 126 [(7, .int (nI r)), (6, .int (zb_i (pa_k (fun i => !(ga_o A i).isSome || pk_l (ga_d A ++ [(a, m)]) (ga_c A i)) r))), (5, .int (nI (4 + (ga_d A).length))), (4, .int (nI 1)), (0, .ref (G.1 + 13)), (1, .int (zb_i true)), (2, .int (nI a)), (3, .int m)] [] (hp_f G κ (km_a (km_a (km_a μ 5 (4 + (ga_d A).length) (nI a)) 6 (4 + (ga_d A).length) m) 4 1 (nI ((ga_d A).length + 1))) o rest) (qm_V G κ o rest (if pa_k (fun i => !(ga_o A i).isSome || pk_l (ga_d A ++ [(a, m)]) (ga_c A i)) 4 = true then (0, 0, sa_d A (ga_d A ++ [(a, m)])) else (2, 0, A))) := by
  obtain ⟨hB, hGr, hU, hSL, hDL, hRs, hSs⟩ := id hR; have hn6 := hB.2.1; have hu5 := hU.2.1
  intro k
  induction k with
  | zero =>
    intro r hr
    have e : r = 4 := by omega
    subst e
    refine aw_iload dd_mo_limit_126 0 rfl ?_
    refine aw_iconst (v := 4) dd_mo_limit_128 (by decide) ?_
    refine aw_icmp_ge (tgt := 178) dd_mo_limit_129 (by decide) (fun _ => ?_) (fun h9 => absurd (nI_le (a := 4) (b := 4) (by decide) (by decide)) h9)
    exact wm_mo_limit1 G κ μ o rest hR m ha h4
  | succ k ih =>
    intro r hr
    refine aw_iload dd_mo_limit_126 0 rfl ?_
    refine aw_iconst (v := 4) dd_mo_limit_128 (by decide) ?_
    refine aw_icmp_ge (tgt := 178) dd_mo_limit_129 (by decide) (fun h9 => absurd h9 (nI_ge (b := 4) (by omega) (by decide))) (fun _ => ?_)
    refine aw_join (tgt := 170) (v := zb_i (pa_k (fun i => !(ga_o A i).isSome || pk_l (ga_d A ++ [(a, m)]) (ga_c A i)) (r + 1))) ?_ (fun kj132 => ?_)
    · refine aw_istore (lv' := [(6, _), (7, _), (5, _), (4, _), (0, _), (1, _), (2, _), (3, _)]) dd_mo_limit_170 (by decide) rfl ?_
      refine aw_iinc (v := nI (r + 1)) (lv' := [(7, _), (6, _), (5, _), (4, _), (0, _), (1, _), (2, _), (3, _)]) dd_mo_limit_172 1 rfl (nI_1 _) (by decide) rfl ?_
      refine aw_goto (tgt := 126) dd_mo_limit_175 (by decide) ?_
      exact ih (r + 1) (by omega)
    · refine aw_iload dd_mo_limit_132 1 rfl ?_
      refine aw_if_eq (tgt := 169) dd_mo_limit_134 (by decide) (fun h1 => ?_) (fun h1 => ?_)
      · refine aw_iconst (v := 0) dd_mo_limit_169 (by decide) ?_
        exact aw_top (by simp only [zb_q0, zb_q1, Bool.not_eq_false, Bool.not_eq_true] at *; simp_all [zb_i, pa_k]) kj132
      · refine aw_iload_n dd_mo_limit_137 rfl 5 rfl ?_
        refine aw_if_eq (tgt := 165) dd_mo_limit_138 (by decide) (fun h9 => absurd h9 (by decide)) (fun _ => ?_)
        refine aw_aload_n dd_mo_limit_141 rfl 4 rfl ?_
        refine aw_getf _ 5 10 dd_mo_limit_142 fl_mo_31 rfl rfl ?_
        refine aw_iload dd_mo_limit_145 0 rfl ?_
        refine aw_zaN _ (r) dd_mo_limit_147 rfl (by omega) (by decide) ?_
        refine aw_top (hSs.1 r (by omega)).1 ?_
        refine aw_if_eq (tgt := 165) dd_mo_limit_148 (by decide) (fun h2 => ?_) (fun h2 => ?_)
        · refine aw_iconst (v := 1) dd_mo_limit_165 (by decide) ?_
          refine aw_goto (tgt := 170) dd_mo_limit_166 (by decide) ?_
          exact aw_top (by simp only [zb_q0, zb_q1, Bool.not_eq_false, Bool.not_eq_true] at *; simp_all [zb_i, pa_k]) kj132
        · obtain ⟨v, hv⟩ := Option.isSome_iff_exists.mp (zb_n0 h2)
          obtain ⟨g1, g2, g3⟩ := (hSs.1 r (by omega)).2 v hv
          refine aw_aload_n dd_mo_limit_151 rfl 4 rfl ?_
          refine aw_aload_n dd_mo_limit_152 rfl 4 rfl ?_
          refine aw_getf _ 5 12 dd_mo_limit_153 fl_mo_38 rfl rfl ?_
          refine aw_iload dd_mo_limit_156 0 rfl ?_
          refine aw_iaN _ (r) dd_mo_limit_158 rfl (by omega) (by decide) ?_
          refine aw_top g3 ?_
          refine aw_cVi mm_mo_dynamicKept 0 0 _ 5 [_] _ (wc_mo_dynamicKept G κ (km_a (km_a (km_a μ 5 (4 + (ga_d A).length) (nI a)) 6 (4 + (ga_d A).length) m) 4 1 (nI ((ga_d A).length + 1))) o rest (dl := ga_d A ++ [(a, m)]) (li_add hDL h4 ha rfl (fun i _ => rfl) (fun i _ => rfl)) (hSs.2 r)) dd_mo_limit_159 cv_mo_97 my_mo_dynamicKept np_mo_dynamicKept rfl rfl rfl (by decide) rfl rfl (Nat.le_of_ble_eq_true rfl) (Nat.le_of_ble_eq_true rfl) ?_
          refine aw_if_eq (tgt := 169) dd_mo_limit_162 (by decide) (fun h3 => ?_) (fun h3 => ?_)
          · refine aw_iconst (v := 0) dd_mo_limit_169 (by decide) ?_
            exact aw_top (by simp only [zb_q0, zb_q1, Bool.not_eq_false, Bool.not_eq_true] at *; simp_all [zb_i, pa_k]) kj132
          · refine aw_iconst (v := 1) dd_mo_limit_165 (by decide) ?_
            refine aw_goto (tgt := 170) dd_mo_limit_166 (by decide) ?_
            exact aw_top (by simp only [zb_q0, zb_q1, Bool.not_eq_false, Bool.not_eq_true] at *; simp_all [zb_i, pa_k]) kj132
theorem wc_mo_limit1 (G : ag_T) (κ : ck_T) (μ : cm_T) (o : Nat → Int64) (rest : List va_E) {A : aa_T} (hR : rm_R μ A) (s m : Int32) : aw_w G mm_mo_limit 3 69 0 0 0 (lv_args 0 [.ref (G.1 + 13), .int (zb_i true), .int s, .int m]) [] (hp_f G κ μ o rest) (qm_V G κ o rest (ab_limit A true s m)) := by
  obtain ⟨hB, hGr, hU, hSL, hDL, hRs, hSs⟩ := id hR; have hn6 := hB.2.1; have hu5 := hU.2.1
  have hl4 := hDL.2.1
  refine aw_iload_n dd_mo_limit_0 rfl 1 rfl ?_
  refine aw_if_eq (tgt := 8) dd_mo_limit_1 (by decide) (fun h9 => absurd h9 (by decide)) (fun _ => ?_)
  refine aw_iconst (v := (nI 1)) dd_mo_limit_4 (by decide) ?_
  refine aw_goto (tgt := 9) dd_mo_limit_5 (by decide) ?_
  refine aw_istore (lv' := [(4, _), (0, _), (1, _), (2, _), (3, _)]) dd_mo_limit_9 (by decide) rfl ?_
  refine aw_aload_n dd_mo_limit_11 rfl 1 rfl ?_
  refine aw_join (tgt := 32) (v := zb_i (decide (¬ m < 2) && st_i s)) ?_ (fun kj12 => ?_)
  · refine aw_iconst (v := 1) dd_mo_limit_32 (by decide) ?_
    refine aw_cVi mm_mo_when 0 0 _ 5 [_, _] _ (wc_mo_when G κ _ o rest _ _) dd_mo_limit_33 cv_mo_86 my_mo_when np_mo_when rfl rfl rfl (by decide) rfl rfl (Nat.le_of_ble_eq_true rfl) (Nat.le_of_ble_eq_true rfl) ?_
    refine aw_if_eq (tgt := 63) dd_mo_limit_36 (by decide) (fun hw => ?_) (fun hw => ?_)
    · replace hw := zb_e0 hw
      rw [ab_limit, if_pos hw]
      exact aw_vret dd_mo_limit_63 rfl ⟨rfl, _, rfl, hR, wn_f hw⟩
    · have hw1 := bt_ne (zb_n0 hw)
      clear hw
      obtain ⟨h8, h9⟩ := Bool.and_eq_true_iff.mp (Bool.not_eq_false _ ▸ hw1)
      obtain ⟨a, ha, rfl⟩ := st_n h9
      rw [ab_limit, if_neg hw1, iN_n (by omega)]
      refine aw_aload_n dd_mo_limit_39 rfl 1 rfl ?_
      refine aw_join (tgt := 56) (v := zb_i (decide ((ga_d A).length < 4))) ?_ (fun kj40 => ?_)
      · refine aw_iconst (v := 2) dd_mo_limit_56 (by decide) ?_
        refine aw_cVi mm_mo_when 0 0 _ 5 [_, _] _ (wc_mo_when G κ _ o rest _ _) dd_mo_limit_57 cv_mo_86 my_mo_when np_mo_when rfl rfl rfl (by decide) rfl rfl (Nat.le_of_ble_eq_true rfl) (Nat.le_of_ble_eq_true rfl) ?_
        refine aw_if_ne (tgt := 64) dd_mo_limit_60 (by decide) (fun hw => ?_) (fun hw => ?_)
        · have hw3 := bt_ne (zb_n0 hw)
          clear hw
          have h4 : (ga_d A).length < 4 := by simpa using hw3
          rw [if_neg (show ¬ ¬ (if true = true then ga_d A else ga_s A).length < 4 from fun h9 => h9 h4), if_pos rfl]
          refine aw_iconst (v := (nI 4)) dd_mo_limit_64 (by decide) ?_
          refine aw_iload dd_mo_limit_65 0 rfl ?_
          refine aw_imul dd_mo_limit_67 ?_
          refine aw_top (y := nI 4) rfl ?_
          refine aw_aload_n dd_mo_limit_68 rfl 1 rfl ?_
          refine aw_getf _ 5 7 dd_mo_limit_69 fl_mo_22 rfl rfl ?_
          refine aw_iload dd_mo_limit_72 0 rfl ?_
          refine aw_iaN _ (1) dd_mo_limit_74 rfl (by decide) (by decide) ?_
          refine aw_top hDL.1 ?_
          refine aw_iadd dd_mo_limit_75 ?_
          refine aw_top (nI_add _ _) ?_
          refine aw_istore (lv' := [(5, _), (4, _), (0, _), (1, _), (2, _), (3, _)]) dd_mo_limit_76 (by decide) rfl ?_
          refine aw_aload_n dd_mo_limit_78 rfl 2 rfl ?_
          refine aw_getf _ 5 8 dd_mo_limit_79 fl_mo_25 rfl rfl ?_
          refine aw_iload dd_mo_limit_82 0 rfl ?_
          refine aw_iload_n dd_mo_limit_84 rfl 4 rfl ?_
          refine aw_isN _ (4 + (ga_d A).length) dd_mo_limit_85 rfl (by omega) (by decide) ?_
          refine aw_h (hs_ma5 G _ _ _ _ _ _) ?_
          refine aw_aload_n dd_mo_limit_86 rfl 2 rfl ?_
          refine aw_getf _ 5 9 dd_mo_limit_87 fl_mo_28 rfl rfl ?_
          refine aw_iload dd_mo_limit_90 0 rfl ?_
          refine aw_iload_n dd_mo_limit_92 rfl 5 rfl ?_
          refine aw_isN _ (4 + (ga_d A).length) dd_mo_limit_93 rfl (by omega) (by decide) ?_
          refine aw_h (hs_ma6 G _ _ _ _ _ _) ?_
          refine aw_aload_n dd_mo_limit_94 rfl 2 rfl ?_
          refine aw_getf _ 5 7 dd_mo_limit_95 fl_mo_22 rfl rfl ?_
          refine aw_iload dd_mo_limit_98 1 rfl ?_
          refine aw_dup2 dd_mo_limit_100 rfl rfl ?_
          refine aw_iaN _ (1) dd_mo_limit_101 rfl (by decide) (by decide) ?_
          refine aw_top hDL.1 ?_
          refine aw_iconst (v := 1) dd_mo_limit_102 (by decide) ?_
          refine aw_iadd dd_mo_limit_103 ?_
          refine aw_top (nI_1 _) ?_
          refine aw_isN _ (1) dd_mo_limit_104 rfl (by decide) (by decide) ?_
          refine aw_h (hs_ma4 G _ _ _ _ _ _) ?_
          refine aw_iload_n dd_mo_limit_105 rfl 3 rfl ?_
          refine aw_if_ne (tgt := 116) dd_mo_limit_106 (by decide) (fun _ => ?_) (fun h9 => absurd h9 (by decide))
          refine aw_iconst (v := 1) dd_mo_limit_116 (by decide) ?_
          refine aw_goto (tgt := 121) dd_mo_limit_117 (by decide) ?_
          refine aw_istore (lv' := [(6, _), (5, _), (4, _), (0, _), (1, _), (2, _), (3, _)]) dd_mo_limit_121 (by decide) rfl ?_
          refine aw_iconst (v := 0) dd_mo_limit_123 (by decide) ?_
          refine aw_istore (lv' := [(7, _), (6, _), (5, _), (4, _), (0, _), (1, _), (2, _), (3, _)]) dd_mo_limit_124 (by decide) rfl ?_
          exact wl_mo_limit1 G κ (km_s (km_s μ 0 (if (decide (¬ m < 2) && st_i (nI a)) = true then 0 else 1)) 0 (if (decide ((ga_d A).length < 4)) = true then 0 else 2)) o rest hR m ha h4 4 0 rfl
        · replace hw := zb_e0 hw
          rw [if_pos (show ¬ (if true = true then ga_d A else ga_s A).length < 4 by simpa using hw)]
          exact aw_vret dd_mo_limit_63 rfl ⟨rfl, _, rfl, hR, wn_f hw⟩
      · refine aw_aload_n dd_mo_limit_40 rfl 1 rfl ?_
        refine aw_getf _ 5 7 dd_mo_limit_41 fl_mo_22 rfl rfl ?_
        refine aw_iload dd_mo_limit_44 0 rfl ?_
        refine aw_iaN _ (1) dd_mo_limit_46 rfl (by decide) (by decide) ?_
        refine aw_top hDL.1 ?_
        refine aw_iconst (v := (nI 4)) dd_mo_limit_47 (by decide) ?_
        refine aw_icmp_ge (tgt := 55) dd_mo_limit_48 (by decide) (fun h5 => ?_) (fun h5 => ?_)
        · refine aw_iconst (v := 0) dd_mo_limit_55 (by decide) ?_
          exact aw_top (by rw [nI_leI (by omega) (by omega)] at h5; simp [zb_i]; omega) kj40
        · refine aw_iconst (v := 1) dd_mo_limit_51 (by decide) ?_
          refine aw_goto (tgt := 56) dd_mo_limit_52 (by decide) ?_
          exact aw_top (by rw [nI_leI (by omega) (by omega)] at h5; simp [zb_i]; omega) kj40
  · refine aw_iload_n dd_mo_limit_12 rfl 4 rfl ?_
    refine aw_iconst (v := 2) dd_mo_limit_13 (by decide) ?_
    refine aw_icmp_lt (tgt := 31) dd_mo_limit_14 (by decide) (fun h1 => ?_) (fun h1 => ?_)
    · refine aw_iconst (v := 0) dd_mo_limit_31 (by decide) ?_
      exact aw_top (by simp_all [zb_i, st_i]) kj12
    · refine aw_iload_n dd_mo_limit_17 rfl 3 rfl ?_
      refine aw_if_lt (tgt := 31) dd_mo_limit_18 (by decide) (fun h2 => ?_) (fun h2 => ?_)
      · refine aw_iconst (v := 0) dd_mo_limit_31 (by decide) ?_
        exact aw_top (by simp_all [zb_i, st_i]) kj12
      · refine aw_iload_n dd_mo_limit_21 rfl 3 rfl ?_
        refine aw_bipush (v := 63) dd_mo_limit_22 (by decide) ?_
        refine aw_icmp_gt (tgt := 31) dd_mo_limit_24 (by decide) (fun h3 => ?_) (fun h3 => ?_)
        · refine aw_iconst (v := 0) dd_mo_limit_31 (by decide) ?_
          exact aw_top (by simp_all [zb_i, st_i]) kj12
        · refine aw_iconst (v := 1) dd_mo_limit_27 (by decide) ?_
          refine aw_goto (tgt := 32) dd_mo_limit_28 (by decide) ?_
          exact aw_top (by simp_all [zb_i, st_i]) kj12
theorem wm_mo_limit0 (G : ag_T) (κ : ck_T) (μ : cm_T) (o : Nat → Int64) (rest : List va_E) {A : aa_T} (hR : rm_R μ A) (m : Int32) {a : Nat} (ha : a < 64) (h4 : (ga_s A).length < 4) : aw_w G mm_mo_limit 3 69 0 0 178 [(7, .int (nI 4)), (6, .int (zb_i (pa_k (fun v => pk_l (ga_s A ++ [(a, m)]) (ga_l A (ga_a A v))) (ga_u A)))), (5, .int (nI (0 + (ga_s A).length))), (4, .int (nI 0)), (0, .ref (G.1 + 13)), (1, .int (zb_i false)), (2, .int (nI a)), (3, .int m)] [] (hp_f G κ (km_a (km_a (km_a μ 5 (0 + (ga_s A).length) (nI a)) 6 (0 + (ga_s A).length) m) 4 0 (nI ((ga_s A).length + 1))) o rest) (qm_V G κ o rest (if pa_k (fun v => pk_l (ga_s A ++ [(a, m)]) (ga_l A (ga_a A v))) (ga_u A) = true then (0, 0, sa_s A (ga_s A ++ [(a, m)])) else (2, 0, A))) := by
  obtain ⟨hB, hGr, hU, hSL, hDL, hRs, hSs⟩ := id hR; have hn6 := hB.2.1; have hu5 := hU.2.1
  refine aw_aload_n dd_mo_limit_178 rfl 4 rfl ?_
  refine aw_iload dd_mo_limit_179 1 rfl ?_
  refine aw_iconst (v := 2) dd_mo_limit_181 (by decide) ?_
  refine aw_cVi mm_mo_when 0 0 _ 5 [_, _] _ (wc_mo_when G κ _ o rest _ _) dd_mo_limit_182 cv_mo_86 my_mo_when np_mo_when rfl rfl rfl (by decide) rfl rfl (Nat.le_of_ble_eq_true rfl) (Nat.le_of_ble_eq_true rfl) ?_
  refine aw_if_ne (tgt := 199) dd_mo_limit_185 (by decide) (fun hw => ?_) (fun hw => ?_)
  · replace hw := zb_n0 hw
    rw [show (if pa_k (fun v => pk_l (ga_s A ++ [(a, m)]) (ga_l A (ga_a A v))) (ga_u A) = true then ((0, 0, sa_s A (ga_s A ++ [(a, m)])) : ar_T) else (2, 0, A)) = (0, 0, sa_s A (ga_s A ++ [(a, m)])) from if_pos hw]
    exact aw_vret dd_mo_limit_199 rfl (by first | exact ⟨rfl, _, rfl, ⟨hB, hGr, hU, li_add hSL h4 ha rfl (fun i _ => rfl) (fun i _ => rfl), li_oth hDL rfl (fun i hi => by show upd _ _ _ _ = _; unfold upd; rw [if_neg (by omega)]; try rfl) (fun i hi => by show upd _ _ _ _ = _; unfold upd; rw [if_neg (by omega)]; try rfl), hRs, hSs⟩, wn_t (bt_ne hw)⟩ | exact ⟨rfl, _, rfl, ⟨hB, hGr, hU, li_oth hSL hSL.1.symm (fun i hi => by show upd _ _ _ _ = _; unfold upd; rw [if_neg (by omega)]; try rfl) (fun i hi => by show upd _ _ _ _ = _; unfold upd; rw [if_neg (by omega)]; try rfl), li_oth hDL rfl (fun i hi => by show upd _ _ _ _ = _; unfold upd; rw [if_neg (by omega)]; try rfl) (fun i hi => by show upd _ _ _ _ = _; unfold upd; rw [if_neg (by omega)]; try rfl), hRs, hSs⟩, wn_f hw⟩)
  · replace hw := zb_e0 hw
    rw [show (if pa_k (fun v => pk_l (ga_s A ++ [(a, m)]) (ga_l A (ga_a A v))) (ga_u A) = true then ((0, 0, sa_s A (ga_s A ++ [(a, m)])) : ar_T) else (2, 0, A)) = (2, 0, A) from if_neg (show ¬ pa_k (fun v => pk_l (ga_s A ++ [(a, m)]) (ga_l A (ga_a A v))) (ga_u A) = true by rw [hw]; decide)]
    refine aw_aload_n dd_mo_limit_188 rfl 4 rfl ?_
    refine aw_getf _ 5 7 dd_mo_limit_189 fl_mo_22 rfl rfl ?_
    refine aw_iload dd_mo_limit_192 3 rfl ?_
    refine aw_dup2 dd_mo_limit_194 rfl rfl ?_
    refine aw_iaN _ (0) dd_mo_limit_195 rfl (by decide) (by decide) ?_
    refine aw_top (y := nI ((ga_s A).length + 1)) rfl ?_
    refine aw_iconst (v := 1) dd_mo_limit_196 (by decide) ?_
    refine aw_isub dd_mo_limit_197 ?_
    refine aw_top (nI_pred _) ?_
    refine aw_isN _ (0) dd_mo_limit_198 rfl (by decide) (by decide) ?_
    refine aw_h (hs_ma4 G _ _ _ _ _ _) ?_
    exact aw_vret dd_mo_limit_199 rfl (by first | exact ⟨rfl, _, rfl, ⟨hB, hGr, hU, li_add hSL h4 ha rfl (fun i _ => rfl) (fun i _ => rfl), li_oth hDL rfl (fun i hi => by show upd _ _ _ _ = _; unfold upd; rw [if_neg (by omega)]; try rfl) (fun i hi => by show upd _ _ _ _ = _; unfold upd; rw [if_neg (by omega)]; try rfl), hRs, hSs⟩, wn_t (bt_ne hw)⟩ | exact ⟨rfl, _, rfl, ⟨hB, hGr, hU, li_oth hSL hSL.1.symm (fun i hi => by show upd _ _ _ _ = _; unfold upd; rw [if_neg (by omega)]; try rfl) (fun i hi => by show upd _ _ _ _ = _; unfold upd; rw [if_neg (by omega)]; try rfl), li_oth hDL rfl (fun i hi => by show upd _ _ _ _ = _; unfold upd; rw [if_neg (by omega)]; try rfl) (fun i hi => by show upd _ _ _ _ = _; unfold upd; rw [if_neg (by omega)]; try rfl), hRs, hSs⟩, wn_f hw⟩)
theorem wl_mo_limit0 (G : ag_T) (κ : ck_T) (μ : cm_T) (o : Nat → Int64) (rest : List va_E) {A : aa_T} (hR : rm_R μ A) (m : Int32) {a : Nat} (ha : a < 64) (h4 : (ga_s A).length < 4) : ∀ (k r : Nat), r + k = 4 → aw_w G mm_mo_limit 3 69 0 0 126 [(7, .int (nI r)), (6, .int (zb_i (pa_k (fun v => pk_l (ga_s A ++ [(a, m)]) (ga_l A (ga_a A v))) (ga_u A)))), (5, .int (nI (0 + (ga_s A).length))), (4, .int (nI 0)), (0, .ref (G.1 + 13)), (1, .int (zb_i false)), (2, .int (nI a)), (3, .int m)] [] (hp_f G κ (km_a (km_a (km_a μ 5 (0 + (ga_s A).length) (nI a)) 6 (0 + (ga_s A).length) m) 4 0 (nI ((ga_s A).length + 1))) o rest) (qm_V G κ o rest (if pa_k (fun v => pk_l (ga_s A ++ [(a, m)]) (ga_l A (ga_a A v))) (ga_u A) = true then (0, 0, sa_s A (ga_s A ++ [(a, m)])) else (2, 0, A))) := by
  obtain ⟨hB, hGr, hU, hSL, hDL, hRs, hSs⟩ := id hR; have hn6 := hB.2.1; have hu5 := hU.2.1
  intro k
  induction k with
  | zero =>
    intro r hr
    have e : r = 4 := by omega
    subst e
    refine aw_iload dd_mo_limit_126 0 rfl ?_
    refine aw_iconst (v := 4) dd_mo_limit_128 (by decide) ?_
    refine aw_icmp_ge (tgt := 178) dd_mo_limit_129 (by decide) (fun _ => ?_) (fun h9 => absurd (nI_le (a := 4) (b := 4) (by decide) (by decide)) h9)
    exact wm_mo_limit0 G κ μ o rest hR m ha h4
  | succ k ih =>
    intro r hr
    refine aw_iload dd_mo_limit_126 0 rfl ?_
    refine aw_iconst (v := 4) dd_mo_limit_128 (by decide) ?_
    refine aw_icmp_ge (tgt := 178) dd_mo_limit_129 (by decide) (fun h9 => absurd h9 (nI_ge (b := 4) (by omega) (by decide))) (fun _ => ?_)
    refine aw_join (tgt := 170) (v := zb_i (pa_k (fun v => pk_l (ga_s A ++ [(a, m)]) (ga_l A (ga_a A v))) (ga_u A))) ?_ (fun kj132 => ?_)
    · refine aw_istore (lv' := [(6, _), (7, _), (5, _), (4, _), (0, _), (1, _), (2, _), (3, _)]) dd_mo_limit_170 (by decide) rfl ?_
      refine aw_iinc (v := nI (r + 1)) (lv' := [(7, _), (6, _), (5, _), (4, _), (0, _), (1, _), (2, _), (3, _)]) dd_mo_limit_172 1 rfl (nI_1 _) (by decide) rfl ?_
      refine aw_goto (tgt := 126) dd_mo_limit_175 (by decide) ?_
      exact ih (r + 1) (by omega)
    · refine aw_iload dd_mo_limit_132 1 rfl ?_
      refine aw_if_eq (tgt := 169) dd_mo_limit_134 (by decide) (fun h1 => ?_) (fun h1 => ?_)
      · refine aw_iconst (v := 0) dd_mo_limit_169 (by decide) ?_
        exact aw_top (by simp only [zb_q0, zb_q1, Bool.not_eq_false, Bool.not_eq_true] at *; simp_all [zb_i]) kj132
      · refine aw_iload_n dd_mo_limit_137 rfl 5 rfl ?_
        refine aw_if_eq (tgt := 165) dd_mo_limit_138 (by decide) (fun _ => ?_) (fun h9 => absurd (rfl) h9)
        refine aw_iconst (v := 1) dd_mo_limit_165 (by decide) ?_
        refine aw_goto (tgt := 170) dd_mo_limit_166 (by decide) ?_
        exact aw_top (by simp only [zb_q0, zb_q1, Bool.not_eq_false, Bool.not_eq_true] at *; simp_all [zb_i]) kj132
theorem wc_mo_limit0 (G : ag_T) (κ : ck_T) (μ : cm_T) (o : Nat → Int64) (rest : List va_E) {A : aa_T} (hR : rm_R μ A) (s m : Int32) : aw_w G mm_mo_limit 3 69 0 0 0 (lv_args 0 [.ref (G.1 + 13), .int (zb_i false), .int s, .int m]) [] (hp_f G κ μ o rest) (qm_V G κ o rest (ab_limit A false s m)) := by
  obtain ⟨hB, hGr, hU, hSL, hDL, hRs, hSs⟩ := id hR; have hn6 := hB.2.1; have hu5 := hU.2.1
  have hl4 := hSL.2.1
  refine aw_iload_n dd_mo_limit_0 rfl 1 rfl ?_
  refine aw_if_eq (tgt := 8) dd_mo_limit_1 (by decide) (fun _ => ?_) (fun h9 => absurd (rfl) h9)
  refine aw_iconst (v := (nI 0)) dd_mo_limit_8 (by decide) ?_
  refine aw_istore (lv' := [(4, _), (0, _), (1, _), (2, _), (3, _)]) dd_mo_limit_9 (by decide) rfl ?_
  refine aw_aload_n dd_mo_limit_11 rfl 1 rfl ?_
  refine aw_join (tgt := 32) (v := zb_i (decide (¬ m < 2) && st_i s)) ?_ (fun kj12 => ?_)
  · refine aw_iconst (v := 1) dd_mo_limit_32 (by decide) ?_
    refine aw_cVi mm_mo_when 0 0 _ 5 [_, _] _ (wc_mo_when G κ _ o rest _ _) dd_mo_limit_33 cv_mo_86 my_mo_when np_mo_when rfl rfl rfl (by decide) rfl rfl (Nat.le_of_ble_eq_true rfl) (Nat.le_of_ble_eq_true rfl) ?_
    refine aw_if_eq (tgt := 63) dd_mo_limit_36 (by decide) (fun hw => ?_) (fun hw => ?_)
    · replace hw := zb_e0 hw
      rw [ab_limit, if_pos hw]
      exact aw_vret dd_mo_limit_63 rfl ⟨rfl, _, rfl, hR, wn_f hw⟩
    · have hw1 := bt_ne (zb_n0 hw)
      clear hw
      obtain ⟨h8, h9⟩ := Bool.and_eq_true_iff.mp (Bool.not_eq_false _ ▸ hw1)
      obtain ⟨a, ha, rfl⟩ := st_n h9
      rw [ab_limit, if_neg hw1, iN_n (by omega)]
      refine aw_aload_n dd_mo_limit_39 rfl 1 rfl ?_
      refine aw_join (tgt := 56) (v := zb_i (decide ((ga_s A).length < 4))) ?_ (fun kj40 => ?_)
      · refine aw_iconst (v := 2) dd_mo_limit_56 (by decide) ?_
        refine aw_cVi mm_mo_when 0 0 _ 5 [_, _] _ (wc_mo_when G κ _ o rest _ _) dd_mo_limit_57 cv_mo_86 my_mo_when np_mo_when rfl rfl rfl (by decide) rfl rfl (Nat.le_of_ble_eq_true rfl) (Nat.le_of_ble_eq_true rfl) ?_
        refine aw_if_ne (tgt := 64) dd_mo_limit_60 (by decide) (fun hw => ?_) (fun hw => ?_)
        · have hw3 := bt_ne (zb_n0 hw)
          clear hw
          have h4 : (ga_s A).length < 4 := by simpa using hw3
          rw [if_neg (show ¬ ¬ (if false = true then ga_d A else ga_s A).length < 4 from fun h9 => h9 h4), if_neg (show ¬ false = true by decide)]
          refine aw_iconst (v := (nI 4)) dd_mo_limit_64 (by decide) ?_
          refine aw_iload dd_mo_limit_65 0 rfl ?_
          refine aw_imul dd_mo_limit_67 ?_
          refine aw_top (y := nI 0) rfl ?_
          refine aw_aload_n dd_mo_limit_68 rfl 1 rfl ?_
          refine aw_getf _ 5 7 dd_mo_limit_69 fl_mo_22 rfl rfl ?_
          refine aw_iload dd_mo_limit_72 0 rfl ?_
          refine aw_iaN _ (0) dd_mo_limit_74 rfl (by decide) (by decide) ?_
          refine aw_top hSL.1 ?_
          refine aw_iadd dd_mo_limit_75 ?_
          refine aw_top (nI_add _ _) ?_
          refine aw_istore (lv' := [(5, _), (4, _), (0, _), (1, _), (2, _), (3, _)]) dd_mo_limit_76 (by decide) rfl ?_
          refine aw_aload_n dd_mo_limit_78 rfl 2 rfl ?_
          refine aw_getf _ 5 8 dd_mo_limit_79 fl_mo_25 rfl rfl ?_
          refine aw_iload dd_mo_limit_82 0 rfl ?_
          refine aw_iload_n dd_mo_limit_84 rfl 4 rfl ?_
          refine aw_isN _ (0 + (ga_s A).length) dd_mo_limit_85 rfl (by omega) (by decide) ?_
          refine aw_h (hs_ma5 G _ _ _ _ _ _) ?_
          refine aw_aload_n dd_mo_limit_86 rfl 2 rfl ?_
          refine aw_getf _ 5 9 dd_mo_limit_87 fl_mo_28 rfl rfl ?_
          refine aw_iload dd_mo_limit_90 0 rfl ?_
          refine aw_iload_n dd_mo_limit_92 rfl 5 rfl ?_
          refine aw_isN _ (0 + (ga_s A).length) dd_mo_limit_93 rfl (by omega) (by decide) ?_
          refine aw_h (hs_ma6 G _ _ _ _ _ _) ?_
          refine aw_aload_n dd_mo_limit_94 rfl 2 rfl ?_
          refine aw_getf _ 5 7 dd_mo_limit_95 fl_mo_22 rfl rfl ?_
          refine aw_iload dd_mo_limit_98 1 rfl ?_
          refine aw_dup2 dd_mo_limit_100 rfl rfl ?_
          refine aw_iaN _ (0) dd_mo_limit_101 rfl (by decide) (by decide) ?_
          refine aw_top hSL.1 ?_
          refine aw_iconst (v := 1) dd_mo_limit_102 (by decide) ?_
          refine aw_iadd dd_mo_limit_103 ?_
          refine aw_top (nI_1 _) ?_
          refine aw_isN _ (0) dd_mo_limit_104 rfl (by decide) (by decide) ?_
          refine aw_h (hs_ma4 G _ _ _ _ _ _) ?_
          refine aw_iload_n dd_mo_limit_105 rfl 3 rfl ?_
          refine aw_if_ne (tgt := 116) dd_mo_limit_106 (by decide) (fun h9 => absurd (by decide) h9) (fun _ => ?_)
          refine aw_join (tgt := 121) (v := zb_i (pa_k (fun v => pk_l (ga_s A ++ [(a, m)]) (ga_l A (ga_a A v))) (ga_u A))) ?_ (fun kj109 => ?_)
          · refine aw_istore (lv' := [(6, _), (5, _), (4, _), (0, _), (1, _), (2, _), (3, _)]) dd_mo_limit_121 (by decide) rfl ?_
            refine aw_iconst (v := 0) dd_mo_limit_123 (by decide) ?_
            refine aw_istore (lv' := [(7, _), (6, _), (5, _), (4, _), (0, _), (1, _), (2, _), (3, _)]) dd_mo_limit_124 (by decide) rfl ?_
            exact wl_mo_limit0 G κ (km_s (km_s μ 0 (if (decide (¬ m < 2) && st_i (nI a)) = true then 0 else 1)) 0 (if (decide ((ga_s A).length < 4)) = true then 0 else 2)) o rest hR m ha h4 4 0 rfl
          · refine aw_aload_n dd_mo_limit_109 rfl 2 rfl ?_
            refine aw_cVi mm_mo_allStaticKept 0 0 _ 5 [] _ (wc_mo_allStaticKept G κ (km_a (km_a (km_a (km_s (km_s μ 0 (if (decide (¬ m < 2) && st_i (nI a)) = true then 0 else 1)) 0 (if (decide ((ga_s A).length < 4)) = true then 0 else 2)) 5 (0 + (ga_s A).length) (nI a)) 6 (0 + (ga_s A).length) m) 4 0 (nI ((ga_s A).length + 1))) o rest hB (sl := ga_s A ++ [(a, m)]) (li_add hSL h4 ha rfl (fun i _ => rfl) (fun i _ => rfl)) hU) dd_mo_limit_110 cv_mo_93 my_mo_allStaticKept np_mo_allStaticKept rfl rfl rfl (by decide) rfl rfl (Nat.le_of_ble_eq_true rfl) (Nat.le_of_ble_eq_true rfl) ?_
            refine aw_if_eq (tgt := 120) dd_mo_limit_113 (by decide) (fun h6 => ?_) (fun h6 => ?_)
            · refine aw_iconst (v := 0) dd_mo_limit_120 (by decide) ?_
              exact aw_top (by simp only [zb_q0, zb_q1, Bool.not_eq_false, Bool.not_eq_true] at *; simp_all [zb_i]) kj109
            · refine aw_iconst (v := 1) dd_mo_limit_116 (by decide) ?_
              refine aw_goto (tgt := 121) dd_mo_limit_117 (by decide) ?_
              exact aw_top (by simp only [zb_q0, zb_q1, Bool.not_eq_false, Bool.not_eq_true] at *; simp_all [zb_i]) kj109
        · replace hw := zb_e0 hw
          rw [if_pos (show ¬ (if false = true then ga_d A else ga_s A).length < 4 by simpa using hw)]
          exact aw_vret dd_mo_limit_63 rfl ⟨rfl, _, rfl, hR, wn_f hw⟩
      · refine aw_aload_n dd_mo_limit_40 rfl 1 rfl ?_
        refine aw_getf _ 5 7 dd_mo_limit_41 fl_mo_22 rfl rfl ?_
        refine aw_iload dd_mo_limit_44 0 rfl ?_
        refine aw_iaN _ (0) dd_mo_limit_46 rfl (by decide) (by decide) ?_
        refine aw_top hSL.1 ?_
        refine aw_iconst (v := (nI 4)) dd_mo_limit_47 (by decide) ?_
        refine aw_icmp_ge (tgt := 55) dd_mo_limit_48 (by decide) (fun h5 => ?_) (fun h5 => ?_)
        · refine aw_iconst (v := 0) dd_mo_limit_55 (by decide) ?_
          exact aw_top (by rw [nI_leI (by omega) (by omega)] at h5; simp [zb_i]; omega) kj40
        · refine aw_iconst (v := 1) dd_mo_limit_51 (by decide) ?_
          refine aw_goto (tgt := 56) dd_mo_limit_52 (by decide) ?_
          exact aw_top (by rw [nI_leI (by omega) (by omega)] at h5; simp [zb_i]; omega) kj40
  · refine aw_iload_n dd_mo_limit_12 rfl 4 rfl ?_
    refine aw_iconst (v := 2) dd_mo_limit_13 (by decide) ?_
    refine aw_icmp_lt (tgt := 31) dd_mo_limit_14 (by decide) (fun h1 => ?_) (fun h1 => ?_)
    · refine aw_iconst (v := 0) dd_mo_limit_31 (by decide) ?_
      exact aw_top (by simp_all [zb_i, st_i]) kj12
    · refine aw_iload_n dd_mo_limit_17 rfl 3 rfl ?_
      refine aw_if_lt (tgt := 31) dd_mo_limit_18 (by decide) (fun h2 => ?_) (fun h2 => ?_)
      · refine aw_iconst (v := 0) dd_mo_limit_31 (by decide) ?_
        exact aw_top (by simp_all [zb_i, st_i]) kj12
      · refine aw_iload_n dd_mo_limit_21 rfl 3 rfl ?_
        refine aw_bipush (v := 63) dd_mo_limit_22 (by decide) ?_
        refine aw_icmp_gt (tgt := 31) dd_mo_limit_24 (by decide) (fun h3 => ?_) (fun h3 => ?_)
        · refine aw_iconst (v := 0) dd_mo_limit_31 (by decide) ?_
          exact aw_top (by simp_all [zb_i, st_i]) kj12
        · refine aw_iconst (v := 1) dd_mo_limit_27 (by decide) ?_
          refine aw_goto (tgt := 32) dd_mo_limit_28 (by decide) ?_
          exact aw_top (by simp_all [zb_i, st_i]) kj12
theorem wc_mo_limit (G : ag_T) (κ : ck_T) (μ : cm_T) (o : Nat → Int64) (rest : List va_E) {A : aa_T} (hR : rm_R μ A) (d : Bool) (s m : Int32) : aw_w G mm_mo_limit 3 69 0 0 0 (lv_args 0 [.ref (G.1 + 13), .int (zb_i d), .int s, .int m]) [] (hp_f G κ μ o rest) (qm_V G κ o rest (ab_limit A d s m)) := by
  cases d
  · exact wc_mo_limit0 G κ μ o rest hR s m
  · exact wc_mo_limit1 G κ μ o rest hR s m
theorem kv_d (μ : cm_T) (k : Nat) (f g : Nat → Int32) : (((μ.1, va_up μ.2 k f) : cm_T).1, va_up ((μ.1, va_up μ.2 k f) : cm_T).2 k g) = ((μ.1, va_up μ.2 k g) : cm_T) := by
  unfold va_up
  congr 1
  funext i
  by_cases h : i = k <;> simp [h]
theorem pb_lt {n : Nat} {bel : Nat → Nat} (hb : ∀ r, bel r < 64) (a : Nat) {b : Nat} (h6 : b < 6) (r : Nat) : pb_u n bel a b r < 64 := by
  unfold pb_u
  split
  · exact bt_or (n := 6) (bt_or (n := 6) (hb r) (bt_1 h6)) (hb b)
  · exact hb r
theorem wl_mo_above1 (G : ag_T) (κ : ck_T) (μ : cm_T) (o : Nat → Int64) (rest : List va_E) {n : Nat} {bel : Nat → Nat} (hn : μ.1 1 = nI n) (hn6 : n ≤ 6) (hb : ∀ r, r < 6 → μ.2 0 r = nI (bel r)) {w : Int32} {a b : Nat} {Q : aq_T} (hend : ∀ f : Nat → Int32, (∀ i, i < n → f i = nI (bel i)) → aw_w G mm_mo_above 3 69 0 0 113 [(4, .int (nI n)), (3, .int w), (0, .ref (G.1 + 13)), (1, .int (nI a)), (2, .int (nI b))] [] (hp_f G κ (μ.1, va_up μ.2 2 f) o rest) Q) : ∀ (k r : Nat), r + k = n → ∀ f : Nat → Int32, (∀ i, i < r → f i = nI (bel i)) → aw_w G mm_mo_above 3 69 0 0 84 [(4, .int (nI r)), (3, .int w), (0, .ref (G.1 + 13)), (1, .int (nI a)), (2, .int (nI b))] [] (hp_f G κ (μ.1, va_up μ.2 2 f) o rest) Q := by
  intro k
  induction k with
  | zero =>
    intro r hr f hf
    have e : r = n := by omega
    subst e
    refine aw_iload dd_mo_above_84 0 rfl ?_
    refine aw_aload_n dd_mo_above_86 rfl 2 rfl ?_
    refine aw_getf _ 5 1 dd_mo_above_87 fl_mo_69 rfl rfl ?_
    refine aw_top hn ?_
    refine aw_icmp_ge (tgt := 113) dd_mo_above_90 (by decide) (fun _ => ?_) (fun h9 => absurd (nI_le (Nat.le_refl _) (by omega)) h9)
    exact hend f hf
  | succ k ih =>
    intro r hr f hf
    refine aw_iload dd_mo_above_84 0 rfl ?_
    refine aw_aload_n dd_mo_above_86 rfl 2 rfl ?_
    refine aw_getf _ 5 1 dd_mo_above_87 fl_mo_69 rfl rfl ?_
    refine aw_top hn ?_
    refine aw_icmp_ge (tgt := 113) dd_mo_above_90 (by decide) (fun h9 => absurd h9 (nI_ge (by omega) (by omega))) (fun _ => ?_)
    refine aw_aload_n dd_mo_above_93 rfl 2 rfl ?_
    refine aw_getf _ 5 5 dd_mo_above_94 fl_mo_16 rfl rfl ?_
    refine aw_iload dd_mo_above_97 0 rfl ?_
    refine aw_aload_n dd_mo_above_99 rfl 2 rfl ?_
    refine aw_getf _ 5 3 dd_mo_above_100 fl_mo_7 rfl rfl ?_
    refine aw_iload dd_mo_above_103 0 rfl ?_
    refine aw_iaN _ (r) dd_mo_above_105 rfl (by omega) (by decide) ?_
    refine aw_top (hb r (by omega)) ?_
    refine aw_isN _ (r) dd_mo_above_106 rfl (by omega) (by decide) ?_
    refine aw_h (hs_ma2 G _ _ _ _ _ _) ?_
    rw [kv_a]
    refine aw_iinc (v := nI (r + 1)) (lv' := [(4, _), (3, _), (0, _), (1, _), (2, _)]) dd_mo_above_107 0 rfl (nI_1 _) (by decide) rfl ?_
    refine aw_goto (tgt := 84) dd_mo_above_110 (by decide) ?_
    refine ih (r + 1) (by omega) _ (fun i hi => ?_)
    unfold upd
    split
    · rename_i e; rw [e]
    · exact hf i (by omega)
theorem wl_mo_above2 (G : ag_T) (κ : ck_T) (μ : cm_T) (o : Nat → Int64) (rest : List va_E) {n : Nat} {bel : Nat → Nat} (hn : μ.1 1 = nI n) (hn6 : n ≤ 6) (hb : ∀ r, bel r < 64) (ht : ∀ r, r < n → μ.2 2 r = nI (bel r)) {w : Int32} {a b : Nat} (ha : a < n) (hb9 : b < n) {Q : aq_T} (hend : ∀ f : Nat → Int32, (∀ i, i < 6 → f i = nI (if i < n then pb_u n bel a b i else bel i)) → aw_w G mm_mo_above 3 69 0 0 187 [(4, .int (nI n)), (3, .int w), (0, .ref (G.1 + 13)), (1, .int (nI a)), (2, .int (nI b))] [] (hp_f G κ (μ.1, va_up μ.2 0 f) o rest) Q) : ∀ (k r : Nat), r + k = n → ∀ f : Nat → Int32, (∀ i, i < 6 → f i = nI (if i < r then pb_u n bel a b i else bel i)) → aw_w G mm_mo_above 3 69 0 0 116 [(4, .int (nI r)), (3, .int w), (0, .ref (G.1 + 13)), (1, .int (nI a)), (2, .int (nI b))] [] (hp_f G κ (μ.1, va_up μ.2 0 f) o rest) Q := by
  intro k
  induction k with
  | zero =>
    intro r hr f hf
    have e : r = n := by omega
    subst e
    refine aw_iload dd_mo_above_116 0 rfl ?_
    refine aw_aload_n dd_mo_above_118 rfl 2 rfl ?_
    refine aw_getf _ 5 1 dd_mo_above_119 fl_mo_69 rfl rfl ?_
    refine aw_top hn ?_
    refine aw_icmp_ge (tgt := 187) dd_mo_above_122 (by decide) (fun _ => ?_) (fun h9 => absurd (nI_le (Nat.le_refl _) (by omega)) h9)
    exact hend f hf
  | succ k ih =>
    intro r hr f hf
    refine aw_iload dd_mo_above_116 0 rfl ?_
    refine aw_aload_n dd_mo_above_118 rfl 2 rfl ?_
    refine aw_getf _ 5 1 dd_mo_above_119 fl_mo_69 rfl rfl ?_
    refine aw_top hn ?_
    refine aw_icmp_ge (tgt := 187) dd_mo_above_122 (by decide) (fun h9 => absurd h9 (nI_ge (by omega) (by omega))) (fun _ => ?_)
    refine aw_aload_n dd_mo_above_125 rfl 2 rfl ?_
    refine aw_getf _ 5 3 dd_mo_above_126 fl_mo_7 rfl rfl ?_
    refine aw_iload dd_mo_above_129 0 rfl ?_
    refine aw_join (tgt := 180) (v := nI (pb_u n bel a b r)) ?_ (fun kj131 => ?_)
    · refine aw_isN _ (r) dd_mo_above_180 rfl (by omega) (by decide) ?_
      refine aw_h (hs_ma0 G _ _ _ _ _ _) ?_
      rw [kv_a]
      refine aw_iinc (v := nI (r + 1)) (lv' := [(4, _), (3, _), (0, _), (1, _), (2, _)]) dd_mo_above_181 0 rfl (nI_1 _) (by decide) rfl ?_
      refine aw_goto (tgt := 116) dd_mo_above_184 (by decide) ?_
      refine ih (r + 1) (by omega) _ (fun i hi => ?_)
      unfold upd
      split
      · rename_i e; rw [e, if_pos (by omega)]
      · rw [hf i hi]; rename_i e; congr 1; by_cases h9 : i < r
        · rw [if_pos h9, if_pos (by omega)]
        · rw [if_neg h9, if_neg (by omega)]
    · refine aw_iload dd_mo_above_131 0 rfl ?_
      refine aw_iload_n dd_mo_above_133 rfl 3 rfl ?_
      refine aw_icmp_eq (tgt := 152) dd_mo_above_134 (by decide) (fun h1 => ?_) (fun h1 => ?_)
      · refine aw_aload_n dd_mo_above_152 rfl 2 rfl ?_
        refine aw_getf _ 5 5 dd_mo_above_153 fl_mo_16 rfl rfl ?_
        refine aw_iload dd_mo_above_156 0 rfl ?_
        refine aw_iaN _ (r) dd_mo_above_158 rfl (by omega) (by decide) ?_
        refine aw_top (ht r (by omega)) ?_
        refine aw_iconst (v := (nI 1)) dd_mo_above_159 (by decide) ?_
        refine aw_iload_n dd_mo_above_160 rfl 4 rfl ?_
        refine aw_ishl dd_mo_above_161 ?_
        refine aw_top (nI_shl 1 (by omega)) ?_
        refine aw_ior dd_mo_above_162 ?_
        refine aw_top (nI_or _ _) ?_
        refine aw_aload_n dd_mo_above_163 rfl 2 rfl ?_
        refine aw_getf _ 5 5 dd_mo_above_164 fl_mo_16 rfl rfl ?_
        refine aw_iload_n dd_mo_above_167 rfl 4 rfl ?_
        refine aw_iaN _ (b) dd_mo_above_168 rfl (by omega) (by decide) ?_
        refine aw_top (ht b hb9) ?_
        refine aw_ior dd_mo_above_169 ?_
        refine aw_top (nI_or _ _) ?_
        refine aw_goto (tgt := 180) dd_mo_above_170 (by decide) ?_
        exact aw_top (by simp only [zb_q1, nI_eq (show r < 2 ^ 31 by omega) (show a < 2 ^ 31 by omega)] at *; unfold pb_u; simp_all [show r < n by omega]) kj131
      · refine aw_aload_n dd_mo_above_137 rfl 2 rfl ?_
        refine aw_getf _ 5 5 dd_mo_above_138 fl_mo_16 rfl rfl ?_
        refine aw_iload dd_mo_above_141 0 rfl ?_
        refine aw_iaN _ (r) dd_mo_above_143 rfl (by omega) (by decide) ?_
        refine aw_top (ht r (by omega)) ?_
        refine aw_iload_n dd_mo_above_144 rfl 3 rfl ?_
        refine aw_ishr dd_mo_above_145 ?_
        refine aw_iconst (v := 1) dd_mo_above_146 (by decide) ?_
        refine aw_iand dd_mo_above_147 ?_
        refine aw_top (nI_bit (by have := hb r; omega) (by omega)) ?_
        refine aw_iconst (v := 1) dd_mo_above_148 (by decide) ?_
        refine aw_icmp_ne (tgt := 173) dd_mo_above_149 (by decide) (fun h2 => ?_) (fun h2 => ?_)
        · refine aw_aload_n dd_mo_above_173 rfl 2 rfl ?_
          refine aw_getf _ 5 5 dd_mo_above_174 fl_mo_16 rfl rfl ?_
          refine aw_iload dd_mo_above_177 0 rfl ?_
          refine aw_iaN _ (r) dd_mo_above_179 rfl (by omega) (by decide) ?_
          refine aw_top (ht r (by omega)) ?_
          exact aw_top (by simp only [zb_q1, nI_eq (show r < 2 ^ 31 by omega) (show a < 2 ^ 31 by omega)] at *; unfold pb_u; simp_all [show r < n by omega]) kj131
        · refine aw_aload_n dd_mo_above_152 rfl 2 rfl ?_
          refine aw_getf _ 5 5 dd_mo_above_153 fl_mo_16 rfl rfl ?_
          refine aw_iload dd_mo_above_156 0 rfl ?_
          refine aw_iaN _ (r) dd_mo_above_158 rfl (by omega) (by decide) ?_
          refine aw_top (ht r (by omega)) ?_
          refine aw_iconst (v := (nI 1)) dd_mo_above_159 (by decide) ?_
          refine aw_iload_n dd_mo_above_160 rfl 4 rfl ?_
          refine aw_ishl dd_mo_above_161 ?_
          refine aw_top (nI_shl 1 (by omega)) ?_
          refine aw_ior dd_mo_above_162 ?_
          refine aw_top (nI_or _ _) ?_
          refine aw_aload_n dd_mo_above_163 rfl 2 rfl ?_
          refine aw_getf _ 5 5 dd_mo_above_164 fl_mo_16 rfl rfl ?_
          refine aw_iload_n dd_mo_above_167 rfl 4 rfl ?_
          refine aw_iaN _ (b) dd_mo_above_168 rfl (by omega) (by decide) ?_
          refine aw_top (ht b hb9) ?_
          refine aw_ior dd_mo_above_169 ?_
          refine aw_top (nI_or _ _) ?_
          refine aw_goto (tgt := 180) dd_mo_above_170 (by decide) ?_
          exact aw_top (by simp only [zb_q1, nI_eq (show r < 2 ^ 31 by omega) (show a < 2 ^ 31 by omega)] at *; unfold pb_u; simp_all [show r < n by omega]) kj131
theorem wl_mo_above3 (G : ag_T) (κ : ck_T) (μ : cm_T) (o : Nat → Int64) (rest : List va_E) {n : Nat} {bel : Nat → Nat} (hn : μ.1 1 = nI n) (hn6 : n ≤ 6) (hb : ∀ r, bel r < 64) (ht : ∀ r, r < n → μ.2 2 r = nI (bel r)) {w : Int32} {a b : Nat} (ha : a < n) (hb9 : b < n) {Q : aq_T} (hend : ∀ f : Nat → Int32, (∀ i, i < 6 → f i = nI (if i < n then bel i else pb_u n bel a b i)) → aw_w G mm_mo_above 3 69 0 0 233 [(4, .int (nI n)), (3, .int w), (0, .ref (G.1 + 13)), (1, .int (nI a)), (2, .int (nI b))] [] (hp_f G κ (μ.1, va_up μ.2 0 f) o rest) Q) : ∀ (k r : Nat), r + k = n → ∀ f : Nat → Int32, (∀ i, i < 6 → f i = nI (if i < r then bel i else pb_u n bel a b i)) → aw_w G mm_mo_above 3 69 0 0 204 [(4, .int (nI r)), (3, .int w), (0, .ref (G.1 + 13)), (1, .int (nI a)), (2, .int (nI b))] [] (hp_f G κ (μ.1, va_up μ.2 0 f) o rest) Q := by
  intro k
  induction k with
  | zero =>
    intro r hr f hf
    have e : r = n := by omega
    subst e
    refine aw_iload dd_mo_above_204 0 rfl ?_
    refine aw_aload_n dd_mo_above_206 rfl 2 rfl ?_
    refine aw_getf _ 5 1 dd_mo_above_207 fl_mo_69 rfl rfl ?_
    refine aw_top hn ?_
    refine aw_icmp_ge (tgt := 233) dd_mo_above_210 (by decide) (fun _ => ?_) (fun h9 => absurd (nI_le (Nat.le_refl _) (by omega)) h9)
    exact hend f hf
  | succ k ih =>
    intro r hr f hf
    refine aw_iload dd_mo_above_204 0 rfl ?_
    refine aw_aload_n dd_mo_above_206 rfl 2 rfl ?_
    refine aw_getf _ 5 1 dd_mo_above_207 fl_mo_69 rfl rfl ?_
    refine aw_top hn ?_
    refine aw_icmp_ge (tgt := 233) dd_mo_above_210 (by decide) (fun h9 => absurd h9 (nI_ge (by omega) (by omega))) (fun _ => ?_)
    refine aw_aload_n dd_mo_above_213 rfl 2 rfl ?_
    refine aw_getf _ 5 3 dd_mo_above_214 fl_mo_7 rfl rfl ?_
    refine aw_iload dd_mo_above_217 0 rfl ?_
    refine aw_aload_n dd_mo_above_219 rfl 2 rfl ?_
    refine aw_getf _ 5 5 dd_mo_above_220 fl_mo_16 rfl rfl ?_
    refine aw_iload dd_mo_above_223 0 rfl ?_
    refine aw_iaN _ (r) dd_mo_above_225 rfl (by omega) (by decide) ?_
    refine aw_top (ht r (by omega)) ?_
    refine aw_isN _ (r) dd_mo_above_226 rfl (by omega) (by decide) ?_
    refine aw_h (hs_ma0 G _ _ _ _ _ _) ?_
    rw [kv_a]
    refine aw_iinc (v := nI (r + 1)) (lv' := [(4, _), (3, _), (0, _), (1, _), (2, _)]) dd_mo_above_227 0 rfl (nI_1 _) (by decide) rfl ?_
    refine aw_goto (tgt := 204) dd_mo_above_230 (by decide) ?_
    refine ih (r + 1) (by omega) _ (fun i hi => ?_)
    unfold upd
    split
    · rename_i e; rw [e, if_pos (by omega)]
    · rw [hf i hi]; rename_i e; congr 1; by_cases h9 : i < r
      · rw [if_pos h9, if_pos (by omega)]
      · rw [if_neg h9, if_neg (by omega)]
theorem wm_mo_above (G : ag_T) (κ : ck_T) (μ : cm_T) (o : Nat → Int64) (rest : List va_E) {A : aa_T} (hR : rm_R μ A) {a b : Nat} (ha : a < ga_n A) (hb : b < ga_n A) (t : Nat → Int32) (ht : ∀ i, i < ga_n A → t i = nI (ga_b A i)) (f : Nat → Int32) (hf : ∀ i, i < 6 → f i = nI (if i < ga_n A then pb_u (ga_n A) (ga_b A) a b i else ga_b A i)) : aw_w G mm_mo_above 3 69 0 0 187 [(4, .int (nI (ga_n A))), (3, .int (zb_i (!(ga_b A a).testBit b))), (0, .ref (G.1 + 13)), (1, .int (nI a)), (2, .int (nI b))] [] (hp_f G κ (μ.1, va_up (va_up μ.2 2 t) 0 f) o rest) (qm_R G κ o rest (if pa_k (fun v => pk_l (ga_s A) (pc_f (pb_u (ga_n A) (ga_b A) a b) (ga_a A v) (ga_n A))) (ga_u A) = false then (3, 0, A) else (0, zb_i (!(ga_b A a).testBit b), sa_b A (pb_u (ga_n A) (ga_b A) a b)))) := by
  obtain ⟨hB, hGr, hU, hSL, hDL, hRs, hSs⟩ := id hR; have hn6 := hB.2.1; have hu5 := hU.2.1
  have hB9 : rm_c (μ.1, va_up (va_up μ.2 2 t) 0 f) (ga_n A) (pb_u (ga_n A) (ga_b A) a b) := by
    refine ⟨hB.1, hB.2.1, fun r hr => ?_, pb_lt hB.2.2.2 a (by omega)⟩
    show f r = _
    rw [hf r hr]
    split
    · rfl
    · rename_i e
      unfold pb_u
      rw [if_neg (fun h9 => e h9.1)]
  refine aw_aload_n dd_mo_above_187 rfl 2 rfl ?_
  refine aw_aload_n dd_mo_above_188 rfl 2 rfl ?_
  refine aw_cVi mm_mo_allStaticKept 0 0 _ 5 [] _ (wc_mo_allStaticKept G κ _ o rest hB9 hSL hU) dd_mo_above_189 cv_mo_93 my_mo_allStaticKept np_mo_allStaticKept rfl rfl rfl (by decide) rfl rfl (Nat.le_of_ble_eq_true rfl) (Nat.le_of_ble_eq_true rfl) ?_
  refine aw_iconst (v := 3) dd_mo_above_192 (by decide) ?_
  refine aw_cVi mm_mo_when 0 0 _ 5 [_, _] _ (wc_mo_when G κ _ o rest _ _) dd_mo_above_193 cv_mo_86 my_mo_when np_mo_when rfl rfl rfl (by decide) rfl rfl (Nat.le_of_ble_eq_true rfl) (Nat.le_of_ble_eq_true rfl) ?_
  refine aw_if_eq (tgt := 201) dd_mo_above_196 (by decide) (fun hw => ?_) (fun hw => ?_)
  · replace hw := zb_e0 hw
    rw [show (if pa_k (fun v => pk_l (ga_s A) (pc_f (pb_u (ga_n A) (ga_b A) a b) (ga_a A v) (ga_n A))) (ga_u A) = false then ((3, 0, A) : ar_T) else (0, zb_i (!(ga_b A a).testBit b), sa_b A (pb_u (ga_n A) (ga_b A) a b))) = (3, 0, A) from if_pos hw]
    refine aw_iconst (v := 0) dd_mo_above_201 (by decide) ?_
    refine aw_istore (lv' := [(4, _), (3, _), (0, _), (1, _), (2, _)]) dd_mo_above_202 (by decide) rfl ?_
    refine wl_mo_above3 G κ ((km_s (μ.1, va_up (va_up μ.2 2 t) 0 f) 0 (if (pa_k (fun v => pk_l (ga_s A) (pc_f (pb_u (ga_n A) (ga_b A) a b) (ga_a A v) (ga_n A))) (ga_u A)) = true then 0 else 3)).1, va_up μ.2 2 t) o rest (n := ga_n A) (bel := ga_b A) hB.1 hn6 hB.2.2.2 ht ha hb (fun f9 hf9 => ?_) (ga_n A) 0 (Nat.zero_add _) f (fun i hi => ?_)
    · refine aw_iconst (v := 0) dd_mo_above_233 (by decide) ?_
      refine aw_zret dd_mo_above_234 rfl (Or.inl rfl) ⟨_, rfl, fun h0 => absurd (show (3 : Int32) = 0 from h0) (by decide), _, rfl, ⟨⟨hB.1, hB.2.1, fun r hr => ?_, hB.2.2.2⟩, hGr, hU, hSL, hDL, hRs, hSs⟩, wn_f hw⟩
      show f9 r = _
      rw [hf9 r hr]
      split
      · rfl
      · rename_i e; unfold pb_u; rw [if_neg (fun h9 => e h9.1)]
    · rw [hf i hi, if_neg (Nat.not_lt_zero i)]
      split
      · rfl
      · rename_i e; unfold pb_u; rw [if_neg (fun h9 => e h9.1)]
  · have hw := bt_ne (zb_n0 hw)
    rw [show (if pa_k (fun v => pk_l (ga_s A) (pc_f (pb_u (ga_n A) (ga_b A) a b) (ga_a A v) (ga_n A))) (ga_u A) = false then ((3, 0, A) : ar_T) else (0, zb_i (!(ga_b A a).testBit b), sa_b A (pb_u (ga_n A) (ga_b A) a b))) = (0, zb_i (!(ga_b A a).testBit b), sa_b A (pb_u (ga_n A) (ga_b A) a b)) from if_neg hw]
    refine aw_iload_n dd_mo_above_199 rfl 1 rfl ?_
    exact aw_zret dd_mo_above_200 rfl (zb_01 _) ⟨_, rfl, fun _ => rfl, _, rfl, ⟨hB9, hGr, hU, hSL, hDL, hRs, hSs⟩, wn_t hw⟩
theorem wc_mo_above (G : ag_T) (κ : ck_T) (μ : cm_T) (o : Nat → Int64) (rest : List va_E) {A : aa_T} (hR : rm_R μ A) (x y : Int32) : aw_w G mm_mo_above 3 69 0 0 0 (lv_args 0 [.ref (G.1 + 13), .int x, .int y]) [] (hp_f G κ μ o rest) (qm_R G κ o rest (ab_above A x y)) := by
  obtain ⟨hB, hGr, hU, hSL, hDL, hRs, hSs⟩ := id hR; have hn6 := hB.2.1; have hu5 := hU.2.1
  refine aw_aload_n dd_mo_above_0 rfl 0 rfl ?_
  refine aw_join (tgt := 22) (v := zb_i (rb_i (ga_n A) x && rb_i (ga_n A) y)) ?_ (fun kj1 => ?_)
  · refine aw_iconst (v := 1) dd_mo_above_22 (by decide) ?_
    refine aw_cVi mm_mo_when 0 0 _ 5 [_, _] _ (wc_mo_when G κ _ o rest _ _) dd_mo_above_23 cv_mo_86 my_mo_when np_mo_when rfl rfl rfl (by decide) rfl rfl (Nat.le_of_ble_eq_true rfl) (Nat.le_of_ble_eq_true rfl) ?_
    refine aw_if_eq (tgt := 60) dd_mo_above_26 (by decide) (fun hw => ?_) (fun hw => ?_)
    · replace hw := zb_e0 hw
      rw [ab_above, if_pos hw]
      refine aw_iconst (v := 0) dd_mo_above_60 (by decide) ?_
      exact aw_zret dd_mo_above_61 rfl (by first | exact Or.inl rfl | exact Or.inr rfl) (by first | exact ⟨_, rfl, fun h0 => absurd (show (1 : Int32) = 0 from h0) (by decide), _, rfl, hR, wn_f hw⟩ | exact ⟨_, rfl, fun h0 => absurd (show (2 : Int32) = 0 from h0) (by decide), _, rfl, hR, wn_f hw⟩)
    · have hw1 := bt_ne (zb_n0 hw)
      clear hw
      obtain ⟨h8, h9⟩ := Bool.and_eq_true_iff.mp (Bool.not_eq_false _ ▸ hw1)
      obtain ⟨a, ha, rfl⟩ := rb_n (by omega) h8
      obtain ⟨b, hb, rfl⟩ := rb_n (by omega) h9
      rw [ab_above, if_neg hw1, iN_n (by omega), iN_n (by omega)]
      have hba := hB.2.2.2 a
      have hbb := hB.2.2.2 b
      refine aw_aload_n dd_mo_above_29 rfl 0 rfl ?_
      refine aw_join (tgt := 53) (v := zb_i (decide (¬ nI a = nI b) && !(ga_b A b).testBit a)) ?_ (fun kj30 => ?_)
      · refine aw_iconst (v := 2) dd_mo_above_53 (by decide) ?_
        refine aw_cVi mm_mo_when 0 0 _ 5 [_, _] _ (wc_mo_when G κ _ o rest _ _) dd_mo_above_54 cv_mo_86 my_mo_when np_mo_when rfl rfl rfl (by decide) rfl rfl (Nat.le_of_ble_eq_true rfl) (Nat.le_of_ble_eq_true rfl) ?_
        refine aw_if_ne (tgt := 62) dd_mo_above_57 (by decide) (fun hw => ?_) (fun hw => ?_)
        · have hw2 := bt_ne (zb_n0 hw)
          clear hw
          rw [if_neg hw2]
          refine aw_join (tgt := 80) (v := zb_i (!(ga_b A a).testBit b)) ?_ (fun kj62 => ?_)
          · refine aw_istore_n (lv' := [(3, _), (0, _), (1, _), (2, _)]) dd_mo_above_80 rfl (by decide) rfl ?_
            refine aw_iconst (v := 0) dd_mo_above_81 (by decide) ?_
            refine aw_istore (lv' := [(4, _), (3, _), (0, _), (1, _), (2, _)]) dd_mo_above_82 (by decide) rfl ?_
            rw [← kv_0 (km_s (km_s μ 0 (if (rb_i (ga_n A) (nI a) && rb_i (ga_n A) (nI b)) = true then 0 else 1)) 0 (if (decide (¬ nI a = nI b) && !(ga_b A b).testBit a) = true then 0 else 2)) 2]
            refine wl_mo_above1 G κ (km_s (km_s μ 0 (if (rb_i (ga_n A) (nI a) && rb_i (ga_n A) (nI b)) = true then 0 else 1)) 0 (if (decide (¬ nI a = nI b) && !(ga_b A b).testBit a) = true then 0 else 2)) o rest (n := ga_n A) (bel := ga_b A) hB.1 hn6 hB.2.2.1 (fun t ht => ?_) (ga_n A) 0 (Nat.zero_add _) _ (fun i hi => absurd hi (Nat.not_lt_zero i))
            refine aw_iconst (v := 0) dd_mo_above_113 (by decide) ?_
            refine aw_istore (lv' := [(4, _), (3, _), (0, _), (1, _), (2, _)]) dd_mo_above_114 (by decide) rfl ?_
            rw [← kv_0 ((km_s (km_s μ 0 (if (rb_i (ga_n A) (nI a) && rb_i (ga_n A) (nI b)) = true then 0 else 1)) 0 (if (decide (¬ nI a = nI b) && !(ga_b A b).testBit a) = true then 0 else 2)).1, va_up (km_s (km_s μ 0 (if (rb_i (ga_n A) (nI a) && rb_i (ga_n A) (nI b)) = true then 0 else 1)) 0 (if (decide (¬ nI a = nI b) && !(ga_b A b).testBit a) = true then 0 else 2)).2 2 t) 0]
            refine wl_mo_above2 G κ ((km_s (km_s μ 0 (if (rb_i (ga_n A) (nI a) && rb_i (ga_n A) (nI b)) = true then 0 else 1)) 0 (if (decide (¬ nI a = nI b) && !(ga_b A b).testBit a) = true then 0 else 2)).1, va_up (km_s (km_s μ 0 (if (rb_i (ga_n A) (nI a) && rb_i (ga_n A) (nI b)) = true then 0 else 1)) 0 (if (decide (¬ nI a = nI b) && !(ga_b A b).testBit a) = true then 0 else 2)).2 2 t) o rest (n := ga_n A) (bel := ga_b A) hB.1 hn6 hB.2.2.2 ht ha hb (fun f hf => ?_) (ga_n A) 0 (Nat.zero_add _) _ (fun i hi => ?_)
            · exact wm_mo_above G κ (km_s (km_s μ 0 (if (rb_i (ga_n A) (nI a) && rb_i (ga_n A) (nI b)) = true then 0 else 1)) 0 (if (decide (¬ nI a = nI b) && !(ga_b A b).testBit a) = true then 0 else 2)) o rest hR ha hb t ht f hf
            · rw [if_neg (Nat.not_lt_zero i)]; exact hB.2.2.1 i hi
          · refine aw_aload_n dd_mo_above_62 rfl 0 rfl ?_
            refine aw_getf _ 5 3 dd_mo_above_63 fl_mo_7 rfl rfl ?_
            refine aw_iload_n dd_mo_above_66 rfl 1 rfl ?_
            refine aw_iaN _ (a) dd_mo_above_67 rfl (by omega) (by decide) ?_
            refine aw_top (hB.2.2.1 a (by omega)) ?_
            refine aw_iload_n dd_mo_above_68 rfl 2 rfl ?_
            refine aw_ishr dd_mo_above_69 ?_
            refine aw_iconst (v := 1) dd_mo_above_70 (by decide) ?_
            refine aw_iand dd_mo_above_71 ?_
            refine aw_top (nI_bit (by omega) (by omega)) ?_
            refine aw_if_ne (tgt := 79) dd_mo_above_72 (by decide) (fun h5 => ?_) (fun h5 => ?_)
            · refine aw_iconst (v := 0) dd_mo_above_79 (by decide) ?_
              exact aw_top (by simp only [zb_q0, zb_q1, Bool.not_eq_false, Bool.not_eq_true] at *; simp_all [zb_i]) kj62
            · refine aw_iconst (v := 1) dd_mo_above_75 (by decide) ?_
              refine aw_goto (tgt := 80) dd_mo_above_76 (by decide) ?_
              exact aw_top (by simp only [zb_q0, zb_q1, Bool.not_eq_false, Bool.not_eq_true] at *; simp_all [zb_i]) kj62
        · replace hw := zb_e0 hw
          rw [if_pos hw]
          refine aw_iconst (v := 0) dd_mo_above_60 (by decide) ?_
          exact aw_zret dd_mo_above_61 rfl (by first | exact Or.inl rfl | exact Or.inr rfl) (by first | exact ⟨_, rfl, fun h0 => absurd (show (1 : Int32) = 0 from h0) (by decide), _, rfl, hR, wn_f hw⟩ | exact ⟨_, rfl, fun h0 => absurd (show (2 : Int32) = 0 from h0) (by decide), _, rfl, hR, wn_f hw⟩)
      · refine aw_iload_n dd_mo_above_30 rfl 1 rfl ?_
        refine aw_iload_n dd_mo_above_31 rfl 2 rfl ?_
        refine aw_icmp_eq (tgt := 52) dd_mo_above_32 (by decide) (fun h3 => ?_) (fun h3 => ?_)
        · refine aw_iconst (v := 0) dd_mo_above_52 (by decide) ?_
          exact aw_top (by simp only [zb_q0, zb_q1, Bool.not_eq_false, Bool.not_eq_true] at *; simp_all [zb_i]) kj30
        · refine aw_aload_n dd_mo_above_35 rfl 0 rfl ?_
          refine aw_getf _ 5 3 dd_mo_above_36 fl_mo_7 rfl rfl ?_
          refine aw_iload_n dd_mo_above_39 rfl 2 rfl ?_
          refine aw_iaN _ (b) dd_mo_above_40 rfl (by omega) (by decide) ?_
          refine aw_top (hB.2.2.1 b (by omega)) ?_
          refine aw_iload_n dd_mo_above_41 rfl 1 rfl ?_
          refine aw_ishr dd_mo_above_42 ?_
          refine aw_iconst (v := 1) dd_mo_above_43 (by decide) ?_
          refine aw_iand dd_mo_above_44 ?_
          refine aw_top (nI_bit (by omega) (by omega)) ?_
          refine aw_if_ne (tgt := 52) dd_mo_above_45 (by decide) (fun h4 => ?_) (fun h4 => ?_)
          · refine aw_iconst (v := 0) dd_mo_above_52 (by decide) ?_
            exact aw_top (by simp only [zb_q0, zb_q1, Bool.not_eq_false, Bool.not_eq_true] at *; simp_all [zb_i]) kj30
          · refine aw_iconst (v := 1) dd_mo_above_48 (by decide) ?_
            refine aw_goto (tgt := 53) dd_mo_above_49 (by decide) ?_
            exact aw_top (by simp only [zb_q0, zb_q1, Bool.not_eq_false, Bool.not_eq_true] at *; simp_all [zb_i]) kj30
  · refine aw_aload_n dd_mo_above_1 rfl 0 rfl ?_
    refine aw_iload_n dd_mo_above_2 rfl 1 rfl ?_
    refine aw_cVi mm_mo_isRole 0 0 _ 5 [_] _ (wc_mo_isRole G κ _ o rest (n := ga_n A) hB.1 _) dd_mo_above_3 cv_mo_90 my_mo_isRole np_mo_isRole rfl rfl rfl (by decide) rfl rfl (Nat.le_of_ble_eq_true rfl) (Nat.le_of_ble_eq_true rfl) ?_
    refine aw_if_eq (tgt := 21) dd_mo_above_6 (by decide) (fun h1 => ?_) (fun h1 => ?_)
    · refine aw_iconst (v := 0) dd_mo_above_21 (by decide) ?_
      exact aw_top (by simp_all [zb_q0, zb_q1, zb_i]) kj1
    · refine aw_aload_n dd_mo_above_9 rfl 0 rfl ?_
      refine aw_iload_n dd_mo_above_10 rfl 2 rfl ?_
      refine aw_cVi mm_mo_isRole 0 0 _ 5 [_] _ (wc_mo_isRole G κ _ o rest (n := ga_n A) hB.1 _) dd_mo_above_11 cv_mo_90 my_mo_isRole np_mo_isRole rfl rfl rfl (by decide) rfl rfl (Nat.le_of_ble_eq_true rfl) (Nat.le_of_ble_eq_true rfl) ?_
      refine aw_if_eq (tgt := 21) dd_mo_above_14 (by decide) (fun h2 => ?_) (fun h2 => ?_)
      · refine aw_iconst (v := 0) dd_mo_above_21 (by decide) ?_
        exact aw_top (by simp_all [zb_q0, zb_q1, zb_i]) kj1
      · refine aw_iconst (v := 1) dd_mo_above_17 (by decide) ?_
        refine aw_goto (tgt := 22) dd_mo_above_18 (by decide) ?_
        exact aw_top (by simp_all [zb_q0, zb_q1, zb_i]) kj1
end
