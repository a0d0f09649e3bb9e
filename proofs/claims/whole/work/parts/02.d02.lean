/-! decode rows: printed by wip/whole/facts.py -/
theorem dd_po_addRule_0 : decode prog_3_method_5_code 0 = .ok (.aload_n 0, 1) := by decide +kernel
theorem dd_po_addRule_1 : decode prog_3_method_5_code 1 = .ok (.getfield 25, 3) := by decide +kernel
theorem dd_po_addRule_4 : decode prog_3_method_5_code 4 = .ok (.aload_n 1, 1) := by decide +kernel
theorem dd_po_addRule_5 : decode prog_3_method_5_code 5 = .ok (.invokevirtual 36, 3) := by decide +kernel
theorem dd_po_addRule_8 : decode prog_3_method_5_code 8 = .ok (.pop, 1) := by decide +kernel
theorem dd_po_addRule_9 : decode prog_3_method_5_code 9 = .ok (.aload_n 0, 1) := by decide +kernel
theorem dd_po_addRule_10 : decode prog_3_method_5_code 10 = .ok (.getfield 25, 3) := by decide +kernel
theorem dd_po_addRule_13 : decode prog_3_method_5_code 13 = .ok (.invokevirtual 40, 3) := by decide +kernel
theorem dd_po_addRule_16 : decode prog_3_method_5_code 16 = .ok (.iconst 1, 1) := by decide +kernel
theorem dd_po_addRule_17 : decode prog_3_method_5_code 17 = .ok (.isub, 1) := by decide +kernel
theorem dd_po_addRule_18 : decode prog_3_method_5_code 18 = .ok (.ireturn, 1) := by decide +kernel
theorem dd_lw_takeRule_0 : decode method_9_code 0 = .ok (.aload_n 3, 1) := by decide +kernel
theorem dd_lw_takeRule_1 : decode method_9_code 1 = .ok (.iconst 0, 1) := by decide +kernel
theorem dd_lw_takeRule_2 : decode method_9_code 2 = .ok (.aload_n 0, 1) := by decide +kernel
theorem dd_lw_takeRule_3 : decode method_9_code 3 = .ok (.iload_n 1, 1) := by decide +kernel
theorem dd_lw_takeRule_4 : decode method_9_code 4 = .ok (.iload_n 2, 1) := by decide +kernel
theorem dd_lw_takeRule_5 : decode method_9_code 5 = .ok (.invokevirtual 37, 3) := by decide +kernel
theorem dd_lw_takeRule_8 : decode method_9_code 8 = .ok (.i2l, 1) := by decide +kernel
theorem dd_lw_takeRule_9 : decode method_9_code 9 = .ok (.lastore, 1) := by decide +kernel
theorem dd_lw_takeRule_10 : decode method_9_code 10 = .ok (.goto 11, 3) := by decide +kernel
theorem dd_lw_takeRule_13 : decode method_9_code 13 = .ok (.astore 4, 2) := by decide +kernel
theorem dd_lw_takeRule_15 : decode method_9_code 15 = .ok (.iconst 1, 1) := by decide +kernel
theorem dd_lw_takeRule_16 : decode method_9_code 16 = .ok (.ireturn, 1) := by decide +kernel
theorem dd_lw_takeRule_17 : decode method_9_code 17 = .ok (.astore 4, 2) := by decide +kernel
theorem dd_lw_takeRule_19 : decode method_9_code 19 = .ok (.iconst 2, 1) := by decide +kernel
theorem dd_lw_takeRule_20 : decode method_9_code 20 = .ok (.ireturn, 1) := by decide +kernel
theorem dd_lw_takeRule_21 : decode method_9_code 21 = .ok (.iconst 0, 1) := by decide +kernel
theorem dd_lw_takeRule_22 : decode method_9_code 22 = .ok (.ireturn, 1) := by decide +kernel
theorem dd_ra_takeRule_0 : decode prog_1_method_8_code 0 = .ok (.aload_n 0, 1) := by decide +kernel
theorem dd_ra_takeRule_1 : decode prog_1_method_8_code 1 = .ok (.iload_n 1, 1) := by decide +kernel
theorem dd_ra_takeRule_2 : decode prog_1_method_8_code 2 = .ok (.invokevirtual 60, 3) := by decide +kernel
theorem dd_ra_takeRule_5 : decode prog_1_method_8_code 5 = .ok (.aload_n 0, 1) := by decide +kernel
theorem dd_ra_takeRule_6 : decode prog_1_method_8_code 6 = .ok (.iload_n 2, 1) := by decide +kernel
theorem dd_ra_takeRule_7 : decode prog_1_method_8_code 7 = .ok (.invokevirtual 60, 3) := by decide +kernel
theorem dd_ra_takeRule_10 : decode prog_1_method_8_code 10 = .ok (.aload_n 0, 1) := by decide +kernel
theorem dd_ra_takeRule_11 : decode prog_1_method_8_code 11 = .ok (.invokevirtual 131, 3) := by decide +kernel
theorem dd_ra_takeRule_14 : decode prog_1_method_8_code 14 = .ok (.aload_n 0, 1) := by decide +kernel
theorem dd_ra_takeRule_15 : decode prog_1_method_8_code 15 = .ok (.getfield 12, 3) := by decide +kernel
theorem dd_ra_takeRule_18 : decode prog_1_method_8_code 18 = .ok (.new 134, 3) := by decide +kernel
theorem dd_ra_takeRule_21 : decode prog_1_method_8_code 21 = .ok (.dup, 1) := by decide +kernel
theorem dd_ra_takeRule_22 : decode prog_1_method_8_code 22 = .ok (.iconst 0, 1) := by decide +kernel
theorem dd_ra_takeRule_23 : decode prog_1_method_8_code 23 = .ok (.iload_n 1, 1) := by decide +kernel
theorem dd_ra_takeRule_24 : decode prog_1_method_8_code 24 = .ok (.iconst 0, 1) := by decide +kernel
theorem dd_ra_takeRule_25 : decode prog_1_method_8_code 25 = .ok (.iconst 0, 1) := by decide +kernel
theorem dd_ra_takeRule_26 : decode prog_1_method_8_code 26 = .ok (.iload_n 2, 1) := by decide +kernel
theorem dd_ra_takeRule_27 : decode prog_1_method_8_code 27 = .ok (.invokespecial 136, 3) := by decide +kernel
theorem dd_ra_takeRule_30 : decode prog_1_method_8_code 30 = .ok (.invokevirtual 139, 3) := by decide +kernel
theorem dd_ra_takeRule_33 : decode prog_1_method_8_code 33 = .ok (.ireturn, 1) := by decide +kernel
theorem dd_lw_assign_0 : decode method_10_code 0 = .ok (.aload_n 3, 1) := by decide +kernel
theorem dd_lw_assign_1 : decode method_10_code 1 = .ok (.iconst 0, 1) := by decide +kernel
theorem dd_lw_assign_2 : decode method_10_code 2 = .ok (.aload_n 0, 1) := by decide +kernel
theorem dd_lw_assign_3 : decode method_10_code 3 = .ok (.iload_n 1, 1) := by decide +kernel
theorem dd_lw_assign_4 : decode method_10_code 4 = .ok (.iload_n 2, 1) := by decide +kernel
theorem dd_lw_assign_5 : decode method_10_code 5 = .ok (.invokevirtual 41, 3) := by decide +kernel
theorem dd_lw_assign_8 : decode method_10_code 8 = .ok (.ifCond .eq 7, 3) := by decide +kernel
theorem dd_lw_assign_11 : decode method_10_code 11 = .ok (.lconst 1, 1) := by decide +kernel
theorem dd_lw_assign_12 : decode method_10_code 12 = .ok (.goto 4, 3) := by decide +kernel
theorem dd_lw_assign_15 : decode method_10_code 15 = .ok (.lconst 0, 1) := by decide +kernel
theorem dd_lw_assign_16 : decode method_10_code 16 = .ok (.lastore, 1) := by decide +kernel
theorem dd_lw_assign_17 : decode method_10_code 17 = .ok (.goto 11, 3) := by decide +kernel
theorem dd_lw_assign_20 : decode method_10_code 20 = .ok (.astore 4, 2) := by decide +kernel
theorem dd_lw_assign_22 : decode method_10_code 22 = .ok (.iconst 1, 1) := by decide +kernel
theorem dd_lw_assign_23 : decode method_10_code 23 = .ok (.ireturn, 1) := by decide +kernel
theorem dd_lw_assign_24 : decode method_10_code 24 = .ok (.astore 4, 2) := by decide +kernel
theorem dd_lw_assign_26 : decode method_10_code 26 = .ok (.iconst 2, 1) := by decide +kernel
theorem dd_lw_assign_27 : decode method_10_code 27 = .ok (.ireturn, 1) := by decide +kernel
theorem dd_lw_assign_28 : decode method_10_code 28 = .ok (.iconst 0, 1) := by decide +kernel
theorem dd_lw_assign_29 : decode method_10_code 29 = .ok (.ireturn, 1) := by decide +kernel
theorem dd_ra_assign_0 : decode prog_1_method_9_code 0 = .ok (.aload_n 0, 1) := by decide +kernel
theorem dd_ra_assign_1 : decode prog_1_method_9_code 1 = .ok (.iload_n 1, 1) := by decide +kernel
theorem dd_ra_assign_2 : decode prog_1_method_9_code 2 = .ok (.invokevirtual 143, 3) := by decide +kernel
theorem dd_ra_assign_5 : decode prog_1_method_9_code 5 = .ok (.aload_n 0, 1) := by decide +kernel
theorem dd_ra_assign_6 : decode prog_1_method_9_code 6 = .ok (.iload_n 2, 1) := by decide +kernel
theorem dd_ra_assign_7 : decode prog_1_method_9_code 7 = .ok (.invokevirtual 60, 3) := by decide +kernel
theorem dd_ra_assign_10 : decode prog_1_method_9_code 10 = .ok (.aload_n 0, 1) := by decide +kernel
theorem dd_ra_assign_11 : decode prog_1_method_9_code 11 = .ok (.iload_n 1, 1) := by decide +kernel
theorem dd_ra_assign_12 : decode prog_1_method_9_code 12 = .ok (.iload_n 2, 1) := by decide +kernel
theorem dd_ra_assign_13 : decode prog_1_method_9_code 13 = .ok (.invokevirtual 146, 3) := by decide +kernel
theorem dd_ra_assign_16 : decode prog_1_method_9_code 16 = .ok (.ireturn, 1) := by decide +kernel
theorem dd_ra_checkUser_0 : decode prog_1_method_28_code 0 = .ok (.iload_n 1, 1) := by decide +kernel
theorem dd_ra_checkUser_1 : decode prog_1_method_28_code 1 = .ok (.ifCond .lt 11, 3) := by decide +kernel
theorem dd_ra_checkUser_4 : decode prog_1_method_28_code 4 = .ok (.iload_n 1, 1) := by decide +kernel
theorem dd_ra_checkUser_5 : decode prog_1_method_28_code 5 = .ok (.aload_n 0, 1) := by decide +kernel
theorem dd_ra_checkUser_6 : decode prog_1_method_28_code 6 = .ok (.getfield 55, 3) := by decide +kernel
theorem dd_ra_checkUser_9 : decode prog_1_method_28_code 9 = .ok (.if_icmp .lt 13, 3) := by decide +kernel
theorem dd_ra_checkUser_12 : decode prog_1_method_28_code 12 = .ok (.new 195, 3) := by decide +kernel
theorem dd_ra_checkUser_15 : decode prog_1_method_28_code 15 = .ok (.dup, 1) := by decide +kernel
theorem dd_ra_checkUser_16 : decode prog_1_method_28_code 16 = .ok (.ldc 200, 2) := by decide +kernel
theorem dd_ra_checkUser_18 : decode prog_1_method_28_code 18 = .ok (.invokespecial 199, 3) := by decide +kernel
theorem dd_ra_checkUser_21 : decode prog_1_method_28_code 21 = .ok (.athrow, 1) := by decide +kernel
theorem dd_ra_checkUser_22 : decode prog_1_method_28_code 22 = .ok (.return_, 1) := by decide +kernel
theorem dd_ra_addAssignment_0 : decode prog_1_method_23_code 0 = .ok (.aload_n 0, 1) := by decide +kernel
theorem dd_ra_addAssignment_1 : decode prog_1_method_23_code 1 = .ok (.getfield 25, 3) := by decide +kernel
theorem dd_ra_addAssignment_4 : decode prog_1_method_23_code 4 = .ok (.iload_n 1, 1) := by decide +kernel
theorem dd_ra_addAssignment_5 : decode prog_1_method_23_code 5 = .ok (.iaload, 1) := by decide +kernel
theorem dd_ra_addAssignment_6 : decode prog_1_method_23_code 6 = .ok (.iconst 1, 1) := by decide +kernel
theorem dd_ra_addAssignment_7 : decode prog_1_method_23_code 7 = .ok (.iload_n 2, 1) := by decide +kernel
theorem dd_ra_addAssignment_8 : decode prog_1_method_23_code 8 = .ok (.ishl, 1) := by decide +kernel
theorem dd_ra_addAssignment_9 : decode prog_1_method_23_code 9 = .ok (.ior, 1) := by decide +kernel
theorem dd_ra_addAssignment_10 : decode prog_1_method_23_code 10 = .ok (.istore_n 3, 1) := by decide +kernel
theorem dd_ra_addAssignment_11 : decode prog_1_method_23_code 11 = .ok (.aload_n 0, 1) := by decide +kernel
theorem dd_ra_addAssignment_12 : decode prog_1_method_23_code 12 = .ok (.aload_n 0, 1) := by decide +kernel
theorem dd_ra_addAssignment_13 : decode prog_1_method_23_code 13 = .ok (.getfield 12, 3) := by decide +kernel
theorem dd_ra_addAssignment_16 : decode prog_1_method_23_code 16 = .ok (.getfield 172, 3) := by decide +kernel
theorem dd_ra_addAssignment_19 : decode prog_1_method_23_code 19 = .ok (.iload_n 3, 1) := by decide +kernel
theorem dd_ra_addAssignment_20 : decode prog_1_method_23_code 20 = .ok (.iaload, 1) := by decide +kernel
theorem dd_ra_addAssignment_21 : decode prog_1_method_23_code 21 = .ok (.invokevirtual 81, 3) := by decide +kernel
theorem dd_ra_addAssignment_24 : decode prog_1_method_23_code 24 = .ok (.iload_n 3, 1) := by decide +kernel
theorem dd_ra_addAssignment_25 : decode prog_1_method_23_code 25 = .ok (.aload_n 0, 1) := by decide +kernel
theorem dd_ra_addAssignment_26 : decode prog_1_method_23_code 26 = .ok (.getfield 25, 3) := by decide +kernel
theorem dd_ra_addAssignment_29 : decode prog_1_method_23_code 29 = .ok (.iload_n 1, 1) := by decide +kernel
theorem dd_ra_addAssignment_30 : decode prog_1_method_23_code 30 = .ok (.iaload, 1) := by decide +kernel
theorem dd_ra_addAssignment_31 : decode prog_1_method_23_code 31 = .ok (.if_icmp .eq 7, 3) := by decide +kernel
theorem dd_ra_addAssignment_34 : decode prog_1_method_23_code 34 = .ok (.iconst 1, 1) := by decide +kernel
theorem dd_ra_addAssignment_35 : decode prog_1_method_23_code 35 = .ok (.goto 4, 3) := by decide +kernel
theorem dd_ra_addAssignment_38 : decode prog_1_method_23_code 38 = .ok (.iconst 0, 1) := by decide +kernel
theorem dd_ra_addAssignment_39 : decode prog_1_method_23_code 39 = .ok (.istore 4, 2) := by decide +kernel
theorem dd_ra_addAssignment_41 : decode prog_1_method_23_code 41 = .ok (.aload_n 0, 1) := by decide +kernel
theorem dd_ra_addAssignment_42 : decode prog_1_method_23_code 42 = .ok (.getfield 25, 3) := by decide +kernel
theorem dd_ra_addAssignment_45 : decode prog_1_method_23_code 45 = .ok (.iload_n 1, 1) := by decide +kernel
theorem dd_ra_addAssignment_46 : decode prog_1_method_23_code 46 = .ok (.iload_n 3, 1) := by decide +kernel
theorem dd_ra_addAssignment_47 : decode prog_1_method_23_code 47 = .ok (.iastore, 1) := by decide +kernel
theorem dd_ra_addAssignment_48 : decode prog_1_method_23_code 48 = .ok (.iload 4, 2) := by decide +kernel
theorem dd_ra_addAssignment_50 : decode prog_1_method_23_code 50 = .ok (.ireturn, 1) := by decide +kernel
theorem dd_lw_remove_0 : decode method_11_code 0 = .ok (.aload_n 3, 1) := by decide +kernel
theorem dd_lw_remove_1 : decode method_11_code 1 = .ok (.iconst 0, 1) := by decide +kernel
theorem dd_lw_remove_2 : decode method_11_code 2 = .ok (.aload_n 0, 1) := by decide +kernel
theorem dd_lw_remove_3 : decode method_11_code 3 = .ok (.iload_n 1, 1) := by decide +kernel
theorem dd_lw_remove_4 : decode method_11_code 4 = .ok (.iload_n 2, 1) := by decide +kernel
theorem dd_lw_remove_5 : decode method_11_code 5 = .ok (.invokevirtual 44, 3) := by decide +kernel
theorem dd_lw_remove_8 : decode method_11_code 8 = .ok (.ifCond .eq 7, 3) := by decide +kernel
theorem dd_lw_remove_11 : decode method_11_code 11 = .ok (.lconst 1, 1) := by decide +kernel
theorem dd_lw_remove_12 : decode method_11_code 12 = .ok (.goto 4, 3) := by decide +kernel
theorem dd_lw_remove_15 : decode method_11_code 15 = .ok (.lconst 0, 1) := by decide +kernel
theorem dd_lw_remove_16 : decode method_11_code 16 = .ok (.lastore, 1) := by decide +kernel
theorem dd_lw_remove_17 : decode method_11_code 17 = .ok (.goto 7, 3) := by decide +kernel
theorem dd_lw_remove_20 : decode method_11_code 20 = .ok (.astore 4, 2) := by decide +kernel
theorem dd_lw_remove_22 : decode method_11_code 22 = .ok (.iconst 1, 1) := by decide +kernel
theorem dd_lw_remove_23 : decode method_11_code 23 = .ok (.ireturn, 1) := by decide +kernel
theorem dd_lw_remove_24 : decode method_11_code 24 = .ok (.iconst 0, 1) := by decide +kernel
theorem dd_lw_remove_25 : decode method_11_code 25 = .ok (.ireturn, 1) := by decide +kernel
theorem dd_ra_remove_0 : decode prog_1_method_10_code 0 = .ok (.aload_n 0, 1) := by decide +kernel
theorem dd_ra_remove_1 : decode prog_1_method_10_code 1 = .ok (.iload_n 1, 1) := by decide +kernel
theorem dd_ra_remove_2 : decode prog_1_method_10_code 2 = .ok (.invokevirtual 143, 3) := by decide +kernel
theorem dd_ra_remove_5 : decode prog_1_method_10_code 5 = .ok (.aload_n 0, 1) := by decide +kernel
theorem dd_ra_remove_6 : decode prog_1_method_10_code 6 = .ok (.iload_n 2, 1) := by decide +kernel
theorem dd_ra_remove_7 : decode prog_1_method_10_code 7 = .ok (.invokevirtual 60, 3) := by decide +kernel
theorem dd_ra_remove_10 : decode prog_1_method_10_code 10 = .ok (.aload_n 0, 1) := by decide +kernel
theorem dd_ra_remove_11 : decode prog_1_method_10_code 11 = .ok (.iload_n 1, 1) := by decide +kernel
theorem dd_ra_remove_12 : decode prog_1_method_10_code 12 = .ok (.iload_n 2, 1) := by decide +kernel
theorem dd_ra_remove_13 : decode prog_1_method_10_code 13 = .ok (.invokevirtual 149, 3) := by decide +kernel
theorem dd_ra_remove_16 : decode prog_1_method_10_code 16 = .ok (.ireturn, 1) := by decide +kernel
theorem dd_ra_dropAssignment_0 : decode prog_1_method_24_code 0 = .ok (.aload_n 0, 1) := by decide +kernel
theorem dd_ra_dropAssignment_1 : decode prog_1_method_24_code 1 = .ok (.getfield 25, 3) := by decide +kernel
theorem dd_ra_dropAssignment_4 : decode prog_1_method_24_code 4 = .ok (.iload_n 1, 1) := by decide +kernel
theorem dd_ra_dropAssignment_5 : decode prog_1_method_24_code 5 = .ok (.iaload, 1) := by decide +kernel
theorem dd_ra_dropAssignment_6 : decode prog_1_method_24_code 6 = .ok (.iload_n 2, 1) := by decide +kernel
theorem dd_ra_dropAssignment_7 : decode prog_1_method_24_code 7 = .ok (.invokestatic 91, 3) := by decide +kernel
theorem dd_ra_dropAssignment_10 : decode prog_1_method_24_code 10 = .ok (.istore_n 3, 1) := by decide +kernel
theorem dd_ra_dropAssignment_11 : decode prog_1_method_24_code 11 = .ok (.aload_n 0, 1) := by decide +kernel
theorem dd_ra_dropAssignment_12 : decode prog_1_method_24_code 12 = .ok (.getfield 25, 3) := by decide +kernel
theorem dd_ra_dropAssignment_15 : decode prog_1_method_24_code 15 = .ok (.iload_n 1, 1) := by decide +kernel
theorem dd_ra_dropAssignment_16 : decode prog_1_method_24_code 16 = .ok (.dup2, 1) := by decide +kernel
theorem dd_ra_dropAssignment_17 : decode prog_1_method_24_code 17 = .ok (.iaload, 1) := by decide +kernel
theorem dd_ra_dropAssignment_18 : decode prog_1_method_24_code 18 = .ok (.iconst 1, 1) := by decide +kernel
theorem dd_ra_dropAssignment_19 : decode prog_1_method_24_code 19 = .ok (.iload_n 2, 1) := by decide +kernel
theorem dd_ra_dropAssignment_20 : decode prog_1_method_24_code 20 = .ok (.ishl, 1) := by decide +kernel
theorem dd_ra_dropAssignment_21 : decode prog_1_method_24_code 21 = .ok (.iconst (-1), 1) := by decide +kernel
theorem dd_ra_dropAssignment_22 : decode prog_1_method_24_code 22 = .ok (.ixor, 1) := by decide +kernel
theorem dd_ra_dropAssignment_23 : decode prog_1_method_24_code 23 = .ok (.iand, 1) := by decide +kernel
theorem dd_ra_dropAssignment_24 : decode prog_1_method_24_code 24 = .ok (.iastore, 1) := by decide +kernel
theorem dd_ra_dropAssignment_25 : decode prog_1_method_24_code 25 = .ok (.iconst 0, 1) := by decide +kernel
theorem dd_ra_dropAssignment_26 : decode prog_1_method_24_code 26 = .ok (.istore 4, 2) := by decide +kernel
theorem dd_ra_dropAssignment_28 : decode prog_1_method_24_code 28 = .ok (.iload 4, 2) := by decide +kernel
theorem dd_ra_dropAssignment_30 : decode prog_1_method_24_code 30 = .ok (.iconst 4, 1) := by decide +kernel
theorem dd_ra_dropAssignment_31 : decode prog_1_method_24_code 31 = .ok (.if_icmp .ge 35, 3) := by decide +kernel
theorem dd_ra_dropAssignment_34 : decode prog_1_method_24_code 34 = .ok (.aload_n 0, 1) := by decide +kernel
theorem dd_ra_dropAssignment_35 : decode prog_1_method_24_code 35 = .ok (.getfield 32, 3) := by decide +kernel
theorem dd_ra_dropAssignment_38 : decode prog_1_method_24_code 38 = .ok (.iload 4, 2) := by decide +kernel
theorem dd_ra_dropAssignment_40 : decode prog_1_method_24_code 40 = .ok (.iaload, 1) := by decide +kernel
theorem dd_ra_dropAssignment_41 : decode prog_1_method_24_code 41 = .ok (.iload_n 1, 1) := by decide +kernel
theorem dd_ra_dropAssignment_42 : decode prog_1_method_24_code 42 = .ok (.if_icmp .ne 18, 3) := by decide +kernel
theorem dd_ra_dropAssignment_45 : decode prog_1_method_24_code 45 = .ok (.aload_n 0, 1) := by decide +kernel
theorem dd_ra_dropAssignment_46 : decode prog_1_method_24_code 46 = .ok (.getfield 35, 3) := by decide +kernel
theorem dd_ra_dropAssignment_49 : decode prog_1_method_24_code 49 = .ok (.iload 4, 2) := by decide +kernel
theorem dd_ra_dropAssignment_51 : decode prog_1_method_24_code 51 = .ok (.dup2, 1) := by decide +kernel
theorem dd_ra_dropAssignment_52 : decode prog_1_method_24_code 52 = .ok (.iaload, 1) := by decide +kernel
theorem dd_ra_dropAssignment_53 : decode prog_1_method_24_code 53 = .ok (.aload_n 0, 1) := by decide +kernel
theorem dd_ra_dropAssignment_54 : decode prog_1_method_24_code 54 = .ok (.iload_n 1, 1) := by decide +kernel
theorem dd_ra_dropAssignment_55 : decode prog_1_method_24_code 55 = .ok (.invokevirtual 73, 3) := by decide +kernel
theorem dd_ra_dropAssignment_58 : decode prog_1_method_24_code 58 = .ok (.iand, 1) := by decide +kernel
theorem dd_ra_dropAssignment_59 : decode prog_1_method_24_code 59 = .ok (.iastore, 1) := by decide +kernel
theorem dd_ra_dropAssignment_60 : decode prog_1_method_24_code 60 = .ok (.iinc 4 1, 3) := by decide +kernel
theorem dd_ra_dropAssignment_63 : decode prog_1_method_24_code 63 = .ok (.goto (-35), 3) := by decide +kernel
theorem dd_ra_dropAssignment_66 : decode prog_1_method_24_code 66 = .ok (.iload_n 3, 1) := by decide +kernel
theorem dd_ra_dropAssignment_67 : decode prog_1_method_24_code 67 = .ok (.ireturn, 1) := by decide +kernel
theorem dd_lw_give_0 : decode method_12_code 0 = .ok (.aload 4, 2) := by decide +kernel
theorem dd_lw_give_2 : decode method_12_code 2 = .ok (.iconst 0, 1) := by decide +kernel
theorem dd_lw_give_3 : decode method_12_code 3 = .ok (.aload_n 0, 1) := by decide +kernel
theorem dd_lw_give_4 : decode method_12_code 4 = .ok (.iload_n 1, 1) := by decide +kernel
theorem dd_lw_give_5 : decode method_12_code 5 = .ok (.iload_n 2, 1) := by decide +kernel
theorem dd_lw_give_6 : decode method_12_code 6 = .ok (.iload_n 3, 1) := by decide +kernel
theorem dd_lw_give_7 : decode method_12_code 7 = .ok (.invokevirtual 47, 3) := by decide +kernel
theorem dd_lw_give_10 : decode method_12_code 10 = .ok (.ifCond .eq 7, 3) := by decide +kernel
theorem dd_lw_give_13 : decode method_12_code 13 = .ok (.lconst 1, 1) := by decide +kernel
theorem dd_lw_give_14 : decode method_12_code 14 = .ok (.goto 4, 3) := by decide +kernel
theorem dd_lw_give_17 : decode method_12_code 17 = .ok (.lconst 0, 1) := by decide +kernel
theorem dd_lw_give_18 : decode method_12_code 18 = .ok (.lastore, 1) := by decide +kernel
theorem dd_lw_give_19 : decode method_12_code 19 = .ok (.goto 15, 3) := by decide +kernel
theorem dd_lw_give_22 : decode method_12_code 22 = .ok (.astore 5, 2) := by decide +kernel
theorem dd_lw_give_24 : decode method_12_code 24 = .ok (.iconst 1, 1) := by decide +kernel
theorem dd_lw_give_25 : decode method_12_code 25 = .ok (.ireturn, 1) := by decide +kernel
theorem dd_lw_give_26 : decode method_12_code 26 = .ok (.astore 5, 2) := by decide +kernel
theorem dd_lw_give_28 : decode method_12_code 28 = .ok (.iconst 2, 1) := by decide +kernel
theorem dd_lw_give_29 : decode method_12_code 29 = .ok (.ireturn, 1) := by decide +kernel
theorem dd_lw_give_30 : decode method_12_code 30 = .ok (.astore 5, 2) := by decide +kernel
theorem dd_lw_give_32 : decode method_12_code 32 = .ok (.iconst 3, 1) := by decide +kernel
theorem dd_lw_give_33 : decode method_12_code 33 = .ok (.ireturn, 1) := by decide +kernel
theorem dd_lw_give_34 : decode method_12_code 34 = .ok (.iconst 0, 1) := by decide +kernel
theorem dd_lw_give_35 : decode method_12_code 35 = .ok (.ireturn, 1) := by decide +kernel
theorem dd_ra_give_0 : decode prog_1_method_11_code 0 = .ok (.aload_n 0, 1) := by decide +kernel
theorem dd_ra_give_1 : decode prog_1_method_11_code 1 = .ok (.iload_n 1, 1) := by decide +kernel
theorem dd_ra_give_2 : decode prog_1_method_11_code 2 = .ok (.invokevirtual 143, 3) := by decide +kernel
theorem dd_ra_give_5 : decode prog_1_method_11_code 5 = .ok (.aload_n 0, 1) := by decide +kernel
theorem dd_ra_give_6 : decode prog_1_method_11_code 6 = .ok (.iload_n 2, 1) := by decide +kernel
theorem dd_ra_give_7 : decode prog_1_method_11_code 7 = .ok (.invokevirtual 143, 3) := by decide +kernel
theorem dd_ra_give_10 : decode prog_1_method_11_code 10 = .ok (.aload_n 0, 1) := by decide +kernel
theorem dd_ra_give_11 : decode prog_1_method_11_code 11 = .ok (.iload_n 3, 1) := by decide +kernel
theorem dd_ra_give_12 : decode prog_1_method_11_code 12 = .ok (.invokevirtual 60, 3) := by decide +kernel
theorem dd_ra_give_15 : decode prog_1_method_11_code 15 = .ok (.aload_n 0, 1) := by decide +kernel
theorem dd_ra_give_16 : decode prog_1_method_11_code 16 = .ok (.iconst 1, 1) := by decide +kernel
theorem dd_ra_give_17 : decode prog_1_method_11_code 17 = .ok (.iload_n 1, 1) := by decide +kernel
theorem dd_ra_give_18 : decode prog_1_method_11_code 18 = .ok (.iload_n 2, 1) := by decide +kernel
theorem dd_ra_give_19 : decode prog_1_method_11_code 19 = .ok (.iload_n 3, 1) := by decide +kernel
theorem dd_ra_give_20 : decode prog_1_method_11_code 20 = .ok (.invokevirtual 152, 3) := by decide +kernel
theorem dd_ra_give_23 : decode prog_1_method_11_code 23 = .ok (.aload_n 0, 1) := by decide +kernel
theorem dd_ra_give_24 : decode prog_1_method_11_code 24 = .ok (.iload_n 2, 1) := by decide +kernel
theorem dd_ra_give_25 : decode prog_1_method_11_code 25 = .ok (.iload_n 3, 1) := by decide +kernel
theorem dd_ra_give_26 : decode prog_1_method_11_code 26 = .ok (.invokevirtual 146, 3) := by decide +kernel
theorem dd_ra_give_29 : decode prog_1_method_11_code 29 = .ok (.ireturn, 1) := by decide +kernel
theorem dd_ra_checkLeave_0 : decode prog_1_method_33_code 0 = .ok (.aload_n 0, 1) := by decide +kernel
theorem dd_ra_checkLeave_1 : decode prog_1_method_33_code 1 = .ok (.getfield 12, 3) := by decide +kernel
theorem dd_ra_checkLeave_4 : decode prog_1_method_33_code 4 = .ok (.iload_n 1, 1) := by decide +kernel
theorem dd_ra_checkLeave_5 : decode prog_1_method_33_code 5 = .ok (.aload_n 0, 1) := by decide +kernel
theorem dd_ra_checkLeave_6 : decode prog_1_method_33_code 6 = .ok (.iload_n 2, 1) := by decide +kernel
theorem dd_ra_checkLeave_7 : decode prog_1_method_33_code 7 = .ok (.invokevirtual 73, 3) := by decide +kernel
theorem dd_ra_checkLeave_10 : decode prog_1_method_33_code 10 = .ok (.aload_n 0, 1) := by decide +kernel
theorem dd_ra_checkLeave_11 : decode prog_1_method_33_code 11 = .ok (.iload_n 3, 1) := by decide +kernel
theorem dd_ra_checkLeave_12 : decode prog_1_method_33_code 12 = .ok (.invokevirtual 73, 3) := by decide +kernel
theorem dd_ra_checkLeave_15 : decode prog_1_method_33_code 15 = .ok (.iload 4, 2) := by decide +kernel
theorem dd_ra_checkLeave_17 : decode prog_1_method_33_code 17 = .ok (.invokevirtual 213, 3) := by decide +kernel
theorem dd_ra_checkLeave_20 : decode prog_1_method_33_code 20 = .ok (.ifCond .ne 13, 3) := by decide +kernel
theorem dd_ra_checkLeave_23 : decode prog_1_method_33_code 23 = .ok (.new 161, 3) := by decide +kernel
theorem dd_ra_checkLeave_26 : decode prog_1_method_33_code 26 = .ok (.dup, 1) := by decide +kernel
theorem dd_ra_checkLeave_27 : decode prog_1_method_33_code 27 = .ok (.ldc 217, 2) := by decide +kernel
theorem dd_ra_checkLeave_29 : decode prog_1_method_33_code 29 = .ok (.invokespecial 165, 3) := by decide +kernel
theorem dd_ra_checkLeave_32 : decode prog_1_method_33_code 32 = .ok (.athrow, 1) := by decide +kernel
theorem dd_ra_checkLeave_33 : decode prog_1_method_33_code 33 = .ok (.return_, 1) := by decide +kernel
theorem dd_po_isAllowed_0 : decode prog_3_method_6_code 0 = .ok (.iconst 0, 1) := by decide +kernel
theorem dd_po_isAllowed_1 : decode prog_3_method_6_code 1 = .ok (.istore 5, 2) := by decide +kernel
theorem dd_po_isAllowed_3 : decode prog_3_method_6_code 3 = .ok (.iload 5, 2) := by decide +kernel
theorem dd_po_isAllowed_5 : decode prog_3_method_6_code 5 = .ok (.aload_n 0, 1) := by decide +kernel
theorem dd_po_isAllowed_6 : decode prog_3_method_6_code 6 = .ok (.getfield 25, 3) := by decide +kernel
theorem dd_po_isAllowed_9 : decode prog_3_method_6_code 9 = .ok (.invokevirtual 40, 3) := by decide +kernel
theorem dd_po_isAllowed_12 : decode prog_3_method_6_code 12 = .ok (.if_icmp .ge 46, 3) := by decide +kernel
theorem dd_po_isAllowed_15 : decode prog_3_method_6_code 15 = .ok (.aload_n 0, 1) := by decide +kernel
theorem dd_po_isAllowed_16 : decode prog_3_method_6_code 16 = .ok (.getfield 25, 3) := by decide +kernel
theorem dd_po_isAllowed_19 : decode prog_3_method_6_code 19 = .ok (.iload 5, 2) := by decide +kernel
theorem dd_po_isAllowed_21 : decode prog_3_method_6_code 21 = .ok (.invokevirtual 44, 3) := by decide +kernel
theorem dd_po_isAllowed_24 : decode prog_3_method_6_code 24 = .ok (.checkcast 48, 3) := by decide +kernel
theorem dd_po_isAllowed_27 : decode prog_3_method_6_code 27 = .ok (.astore 6, 2) := by decide +kernel
theorem dd_po_isAllowed_29 : decode prog_3_method_6_code 29 = .ok (.aload 6, 2) := by decide +kernel
theorem dd_po_isAllowed_31 : decode prog_3_method_6_code 31 = .ok (.iload_n 1, 1) := by decide +kernel
theorem dd_po_isAllowed_32 : decode prog_3_method_6_code 32 = .ok (.iload 4, 2) := by decide +kernel
theorem dd_po_isAllowed_34 : decode prog_3_method_6_code 34 = .ok (.invokevirtual 50, 3) := by decide +kernel
theorem dd_po_isAllowed_37 : decode prog_3_method_6_code 37 = .ok (.ifCond .eq 15, 3) := by decide +kernel
theorem dd_po_isAllowed_40 : decode prog_3_method_6_code 40 = .ok (.aload 6, 2) := by decide +kernel
theorem dd_po_isAllowed_42 : decode prog_3_method_6_code 42 = .ok (.iload_n 2, 1) := by decide +kernel
theorem dd_po_isAllowed_43 : decode prog_3_method_6_code 43 = .ok (.iload_n 3, 1) := by decide +kernel
theorem dd_po_isAllowed_44 : decode prog_3_method_6_code 44 = .ok (.invokevirtual 54, 3) := by decide +kernel
theorem dd_po_isAllowed_47 : decode prog_3_method_6_code 47 = .ok (.ifCond .eq 5, 3) := by decide +kernel
theorem dd_po_isAllowed_50 : decode prog_3_method_6_code 50 = .ok (.iconst 1, 1) := by decide +kernel
theorem dd_po_isAllowed_51 : decode prog_3_method_6_code 51 = .ok (.ireturn, 1) := by decide +kernel
theorem dd_po_isAllowed_52 : decode prog_3_method_6_code 52 = .ok (.iinc 5 1, 3) := by decide +kernel
theorem dd_po_isAllowed_55 : decode prog_3_method_6_code 55 = .ok (.goto (-52), 3) := by decide +kernel
theorem dd_po_isAllowed_58 : decode prog_3_method_6_code 58 = .ok (.iconst 0, 1) := by decide +kernel
theorem dd_po_isAllowed_59 : decode prog_3_method_6_code 59 = .ok (.ireturn, 1) := by decide +kernel
theorem dd_ru_isFor_0 : decode prog_4_method_2_code 0 = .ok (.aload_n 0, 1) := by decide +kernel
theorem dd_ru_isFor_1 : decode prog_4_method_2_code 1 = .ok (.getfield 7, 3) := by decide +kernel
theorem dd_ru_isFor_4 : decode prog_4_method_2_code 4 = .ok (.iload_n 1, 1) := by decide +kernel
theorem dd_ru_isFor_5 : decode prog_4_method_2_code 5 = .ok (.if_icmp .ne 15, 3) := by decide +kernel
theorem dd_ru_isFor_8 : decode prog_4_method_2_code 8 = .ok (.aload_n 0, 1) := by decide +kernel
theorem dd_ru_isFor_9 : decode prog_4_method_2_code 9 = .ok (.getfield 23, 3) := by decide +kernel
theorem dd_ru_isFor_12 : decode prog_4_method_2_code 12 = .ok (.iload_n 2, 1) := by decide +kernel
theorem dd_ru_isFor_13 : decode prog_4_method_2_code 13 = .ok (.if_icmp .ne 7, 3) := by decide +kernel
theorem dd_ru_isFor_16 : decode prog_4_method_2_code 16 = .ok (.iconst 1, 1) := by decide +kernel
theorem dd_ru_isFor_17 : decode prog_4_method_2_code 17 = .ok (.goto 4, 3) := by decide +kernel
theorem dd_ru_isFor_20 : decode prog_4_method_2_code 20 = .ok (.iconst 0, 1) := by decide +kernel
theorem dd_ru_isFor_21 : decode prog_4_method_2_code 21 = .ok (.ireturn, 1) := by decide +kernel
theorem dd_ru_allows_0 : decode prog_4_method_3_code 0 = .ok (.iload_n 1, 1) := by decide +kernel
theorem dd_ru_allows_1 : decode prog_4_method_3_code 1 = .ok (.aload_n 0, 1) := by decide +kernel
theorem dd_ru_allows_2 : decode prog_4_method_3_code 2 = .ok (.getfield 13, 3) := by decide +kernel
theorem dd_ru_allows_5 : decode prog_4_method_3_code 5 = .ok (.invokestatic 26, 3) := by decide +kernel
theorem dd_ru_allows_8 : decode prog_4_method_3_code 8 = .ok (.ifCond .eq 29, 3) := by decide +kernel
theorem dd_ru_allows_11 : decode prog_4_method_3_code 11 = .ok (.iload_n 2, 1) := by decide +kernel
theorem dd_ru_allows_12 : decode prog_4_method_3_code 12 = .ok (.aload_n 0, 1) := by decide +kernel
theorem dd_ru_allows_13 : decode prog_4_method_3_code 13 = .ok (.getfield 17, 3) := by decide +kernel
theorem dd_ru_allows_16 : decode prog_4_method_3_code 16 = .ok (.iand, 1) := by decide +kernel
theorem dd_ru_allows_17 : decode prog_4_method_3_code 17 = .ok (.aload_n 0, 1) := by decide +kernel
theorem dd_ru_allows_18 : decode prog_4_method_3_code 18 = .ok (.getfield 17, 3) := by decide +kernel
theorem dd_ru_allows_21 : decode prog_4_method_3_code 21 = .ok (.if_icmp .ne 16, 3) := by decide +kernel
theorem dd_ru_allows_24 : decode prog_4_method_3_code 24 = .ok (.iload_n 2, 1) := by decide +kernel
theorem dd_ru_allows_25 : decode prog_4_method_3_code 25 = .ok (.aload_n 0, 1) := by decide +kernel
theorem dd_ru_allows_26 : decode prog_4_method_3_code 26 = .ok (.getfield 20, 3) := by decide +kernel
theorem dd_ru_allows_29 : decode prog_4_method_3_code 29 = .ok (.iand, 1) := by decide +kernel
theorem dd_ru_allows_30 : decode prog_4_method_3_code 30 = .ok (.ifCond .ne 7, 3) := by decide +kernel
theorem dd_ru_allows_33 : decode prog_4_method_3_code 33 = .ok (.iconst 1, 1) := by decide +kernel
theorem dd_ru_allows_34 : decode prog_4_method_3_code 34 = .ok (.goto 4, 3) := by decide +kernel
theorem dd_ru_allows_37 : decode prog_4_method_3_code 37 = .ok (.iconst 0, 1) := by decide +kernel
theorem dd_ru_allows_38 : decode prog_4_method_3_code 38 = .ok (.ireturn, 1) := by decide +kernel
theorem dd_lw_take_0 : decode method_13_code 0 = .ok (.aload 4, 2) := by decide +kernel
theorem dd_lw_take_2 : decode method_13_code 2 = .ok (.iconst 0, 1) := by decide +kernel
theorem dd_lw_take_3 : decode method_13_code 3 = .ok (.aload_n 0, 1) := by decide +kernel
theorem dd_lw_take_4 : decode method_13_code 4 = .ok (.iload_n 1, 1) := by decide +kernel
theorem dd_lw_take_5 : decode method_13_code 5 = .ok (.iload_n 2, 1) := by decide +kernel
theorem dd_lw_take_6 : decode method_13_code 6 = .ok (.iload_n 3, 1) := by decide +kernel
theorem dd_lw_take_7 : decode method_13_code 7 = .ok (.invokevirtual 53, 3) := by decide +kernel
theorem dd_lw_take_10 : decode method_13_code 10 = .ok (.ifCond .eq 7, 3) := by decide +kernel
theorem dd_lw_take_13 : decode method_13_code 13 = .ok (.lconst 1, 1) := by decide +kernel
theorem dd_lw_take_14 : decode method_13_code 14 = .ok (.goto 4, 3) := by decide +kernel
theorem dd_lw_take_17 : decode method_13_code 17 = .ok (.lconst 0, 1) := by decide +kernel
theorem dd_lw_take_18 : decode method_13_code 18 = .ok (.lastore, 1) := by decide +kernel
theorem dd_lw_take_19 : decode method_13_code 19 = .ok (.goto 11, 3) := by decide +kernel
theorem dd_lw_take_22 : decode method_13_code 22 = .ok (.astore 5, 2) := by decide +kernel
theorem dd_lw_take_24 : decode method_13_code 24 = .ok (.iconst 1, 1) := by decide +kernel
theorem dd_lw_take_25 : decode method_13_code 25 = .ok (.ireturn, 1) := by decide +kernel
theorem dd_lw_take_26 : decode method_13_code 26 = .ok (.astore 5, 2) := by decide +kernel
theorem dd_lw_take_28 : decode method_13_code 28 = .ok (.iconst 2, 1) := by decide +kernel
theorem dd_lw_take_29 : decode method_13_code 29 = .ok (.ireturn, 1) := by decide +kernel
theorem dd_lw_take_30 : decode method_13_code 30 = .ok (.iconst 0, 1) := by decide +kernel
theorem dd_lw_take_31 : decode method_13_code 31 = .ok (.ireturn, 1) := by decide +kernel
theorem dd_ra_take_0 : decode prog_1_method_12_code 0 = .ok (.aload_n 0, 1) := by decide +kernel
theorem dd_ra_take_1 : decode prog_1_method_12_code 1 = .ok (.iload_n 1, 1) := by decide +kernel
theorem dd_ra_take_2 : decode prog_1_method_12_code 2 = .ok (.invokevirtual 143, 3) := by decide +kernel
theorem dd_ra_take_5 : decode prog_1_method_12_code 5 = .ok (.aload_n 0, 1) := by decide +kernel
theorem dd_ra_take_6 : decode prog_1_method_12_code 6 = .ok (.iload_n 2, 1) := by decide +kernel
theorem dd_ra_take_7 : decode prog_1_method_12_code 7 = .ok (.invokevirtual 143, 3) := by decide +kernel
theorem dd_ra_take_10 : decode prog_1_method_12_code 10 = .ok (.aload_n 0, 1) := by decide +kernel
theorem dd_ra_take_11 : decode prog_1_method_12_code 11 = .ok (.iload_n 3, 1) := by decide +kernel
theorem dd_ra_take_12 : decode prog_1_method_12_code 12 = .ok (.invokevirtual 60, 3) := by decide +kernel
theorem dd_ra_take_15 : decode prog_1_method_12_code 15 = .ok (.aload_n 0, 1) := by decide +kernel
theorem dd_ra_take_16 : decode prog_1_method_12_code 16 = .ok (.iconst 0, 1) := by decide +kernel
theorem dd_ra_take_17 : decode prog_1_method_12_code 17 = .ok (.iload_n 1, 1) := by decide +kernel
theorem dd_ra_take_18 : decode prog_1_method_12_code 18 = .ok (.iload_n 2, 1) := by decide +kernel
theorem dd_ra_take_19 : decode prog_1_method_12_code 19 = .ok (.iload_n 3, 1) := by decide +kernel
theorem dd_ra_take_20 : decode prog_1_method_12_code 20 = .ok (.invokevirtual 152, 3) := by decide +kernel
theorem dd_ra_take_23 : decode prog_1_method_12_code 23 = .ok (.aload_n 0, 1) := by decide +kernel
theorem dd_ra_take_24 : decode prog_1_method_12_code 24 = .ok (.iload_n 2, 1) := by decide +kernel
theorem dd_ra_take_25 : decode prog_1_method_12_code 25 = .ok (.iload_n 3, 1) := by decide +kernel
theorem dd_ra_take_26 : decode prog_1_method_12_code 26 = .ok (.invokevirtual 149, 3) := by decide +kernel
theorem dd_ra_take_29 : decode prog_1_method_12_code 29 = .ok (.ireturn, 1) := by decide +kernel
theorem dd_lw_roles_0 : decode method_14_code 0 = .ok (.aload_n 3, 1) := by decide +kernel
theorem dd_lw_roles_1 : decode method_14_code 1 = .ok (.iconst 0, 1) := by decide +kernel
theorem dd_lw_roles_2 : decode method_14_code 2 = .ok (.aload_n 0, 1) := by decide +kernel
theorem dd_lw_roles_3 : decode method_14_code 3 = .ok (.iload_n 1, 1) := by decide +kernel
theorem dd_lw_roles_4 : decode method_14_code 4 = .ok (.iload_n 2, 1) := by decide +kernel
theorem dd_lw_roles_5 : decode method_14_code 5 = .ok (.invokevirtual 56, 3) := by decide +kernel
theorem dd_lw_roles_8 : decode method_14_code 8 = .ok (.i2l, 1) := by decide +kernel
theorem dd_lw_roles_9 : decode method_14_code 9 = .ok (.lastore, 1) := by decide +kernel
theorem dd_lw_roles_10 : decode method_14_code 10 = .ok (.goto 7, 3) := by decide +kernel
theorem dd_lw_roles_13 : decode method_14_code 13 = .ok (.astore 4, 2) := by decide +kernel
theorem dd_lw_roles_15 : decode method_14_code 15 = .ok (.iconst 1, 1) := by decide +kernel
theorem dd_lw_roles_16 : decode method_14_code 16 = .ok (.ireturn, 1) := by decide +kernel
theorem dd_lw_roles_17 : decode method_14_code 17 = .ok (.iconst 0, 1) := by decide +kernel
theorem dd_lw_roles_18 : decode method_14_code 18 = .ok (.ireturn, 1) := by decide +kernel
theorem dd_ra_roles_0 : decode prog_1_method_13_code 0 = .ok (.aload_n 0, 1) := by decide +kernel
theorem dd_ra_roles_1 : decode prog_1_method_13_code 1 = .ok (.iload_n 1, 1) := by decide +kernel
theorem dd_ra_roles_2 : decode prog_1_method_13_code 2 = .ok (.invokevirtual 143, 3) := by decide +kernel
theorem dd_ra_roles_5 : decode prog_1_method_13_code 5 = .ok (.iload_n 2, 1) := by decide +kernel
theorem dd_ra_roles_6 : decode prog_1_method_13_code 6 = .ok (.ifCond .eq 11, 3) := by decide +kernel
theorem dd_ra_roles_9 : decode prog_1_method_13_code 9 = .ok (.aload_n 0, 1) := by decide +kernel
theorem dd_ra_roles_10 : decode prog_1_method_13_code 10 = .ok (.iload_n 1, 1) := by decide +kernel
theorem dd_ra_roles_11 : decode prog_1_method_13_code 11 = .ok (.invokevirtual 73, 3) := by decide +kernel
theorem dd_ra_roles_14 : decode prog_1_method_13_code 14 = .ok (.goto 9, 3) := by decide +kernel
theorem dd_ra_roles_17 : decode prog_1_method_13_code 17 = .ok (.aload_n 0, 1) := by decide +kernel
theorem dd_ra_roles_18 : decode prog_1_method_13_code 18 = .ok (.getfield 25, 3) := by decide +kernel
theorem dd_ra_roles_21 : decode prog_1_method_13_code 21 = .ok (.iload_n 1, 1) := by decide +kernel
theorem dd_ra_roles_22 : decode prog_1_method_13_code 22 = .ok (.iaload, 1) := by decide +kernel
theorem dd_ra_roles_23 : decode prog_1_method_13_code 23 = .ok (.ireturn, 1) := by decide +kernel
theorem dd_lw_open_0 : decode method_15_code 0 = .ok (.aload_n 2, 1) := by decide +kernel
theorem dd_lw_open_1 : decode method_15_code 1 = .ok (.iconst 0, 1) := by decide +kernel
theorem dd_lw_open_2 : decode method_15_code 2 = .ok (.aload_n 0, 1) := by decide +kernel
theorem dd_lw_open_3 : decode method_15_code 3 = .ok (.iload_n 1, 1) := by decide +kernel
theorem dd_lw_open_4 : decode method_15_code 4 = .ok (.invokevirtual 60, 3) := by decide +kernel
theorem dd_lw_open_7 : decode method_15_code 7 = .ok (.i2l, 1) := by decide +kernel
theorem dd_lw_open_8 : decode method_15_code 8 = .ok (.lastore, 1) := by decide +kernel
theorem dd_lw_open_9 : decode method_15_code 9 = .ok (.goto 9, 3) := by decide +kernel
theorem dd_lw_open_12 : decode method_15_code 12 = .ok (.astore_n 3, 1) := by decide +kernel
theorem dd_lw_open_13 : decode method_15_code 13 = .ok (.iconst 1, 1) := by decide +kernel
theorem dd_lw_open_14 : decode method_15_code 14 = .ok (.ireturn, 1) := by decide +kernel
theorem dd_lw_open_15 : decode method_15_code 15 = .ok (.astore_n 3, 1) := by decide +kernel
theorem dd_lw_open_16 : decode method_15_code 16 = .ok (.iconst 2, 1) := by decide +kernel
theorem dd_lw_open_17 : decode method_15_code 17 = .ok (.ireturn, 1) := by decide +kernel
theorem dd_lw_open_18 : decode method_15_code 18 = .ok (.iconst 0, 1) := by decide +kernel
theorem dd_lw_open_19 : decode method_15_code 19 = .ok (.ireturn, 1) := by decide +kernel
theorem dd_ra_open_0 : decode prog_1_method_14_code 0 = .ok (.aload_n 0, 1) := by decide +kernel
theorem dd_ra_open_1 : decode prog_1_method_14_code 1 = .ok (.iload_n 1, 1) := by decide +kernel
theorem dd_ra_open_2 : decode prog_1_method_14_code 2 = .ok (.invokevirtual 143, 3) := by decide +kernel
theorem dd_ra_open_5 : decode prog_1_method_14_code 5 = .ok (.iconst 0, 1) := by decide +kernel
theorem dd_ra_open_6 : decode prog_1_method_14_code 6 = .ok (.istore_n 2, 1) := by decide +kernel
theorem dd_ra_open_7 : decode prog_1_method_14_code 7 = .ok (.iload_n 2, 1) := by decide +kernel
theorem dd_ra_open_8 : decode prog_1_method_14_code 8 = .ok (.iconst 4, 1) := by decide +kernel
theorem dd_ra_open_9 : decode prog_1_method_14_code 9 = .ok (.if_icmp .ge 28, 3) := by decide +kernel
theorem dd_ra_open_12 : decode prog_1_method_14_code 12 = .ok (.aload_n 0, 1) := by decide +kernel
theorem dd_ra_open_13 : decode prog_1_method_14_code 13 = .ok (.getfield 32, 3) := by decide +kernel
theorem dd_ra_open_16 : decode prog_1_method_14_code 16 = .ok (.iload_n 2, 1) := by decide +kernel
theorem dd_ra_open_17 : decode prog_1_method_14_code 17 = .ok (.iaload, 1) := by decide +kernel
theorem dd_ra_open_18 : decode prog_1_method_14_code 18 = .ok (.iconst (-1), 1) := by decide +kernel
theorem dd_ra_open_19 : decode prog_1_method_14_code 19 = .ok (.if_icmp .ne 12, 3) := by decide +kernel
theorem dd_ra_open_22 : decode prog_1_method_14_code 22 = .ok (.aload_n 0, 1) := by decide +kernel
theorem dd_ra_open_23 : decode prog_1_method_14_code 23 = .ok (.getfield 32, 3) := by decide +kernel
theorem dd_ra_open_26 : decode prog_1_method_14_code 26 = .ok (.iload_n 2, 1) := by decide +kernel
theorem dd_ra_open_27 : decode prog_1_method_14_code 27 = .ok (.iload_n 1, 1) := by decide +kernel
theorem dd_ra_open_28 : decode prog_1_method_14_code 28 = .ok (.iastore, 1) := by decide +kernel
theorem dd_ra_open_29 : decode prog_1_method_14_code 29 = .ok (.iload_n 2, 1) := by decide +kernel
theorem dd_ra_open_30 : decode prog_1_method_14_code 30 = .ok (.ireturn, 1) := by decide +kernel
theorem dd_ra_open_31 : decode prog_1_method_14_code 31 = .ok (.iinc 2 1, 3) := by decide +kernel
theorem dd_ra_open_34 : decode prog_1_method_14_code 34 = .ok (.goto (-27), 3) := by decide +kernel
theorem dd_ra_open_37 : decode prog_1_method_14_code 37 = .ok (.new 48, 3) := by decide +kernel
theorem dd_ra_open_40 : decode prog_1_method_14_code 40 = .ok (.dup, 1) := by decide +kernel
theorem dd_ra_open_41 : decode prog_1_method_14_code 41 = .ok (.ldc 156, 2) := by decide +kernel
theorem dd_ra_open_43 : decode prog_1_method_14_code 43 = .ok (.invokespecial 52, 3) := by decide +kernel
theorem dd_ra_open_46 : decode prog_1_method_14_code 46 = .ok (.athrow, 1) := by decide +kernel
theorem dd_lw_close_0 : decode method_16_code 0 = .ok (.aload_n 0, 1) := by decide +kernel
theorem dd_lw_close_1 : decode method_16_code 1 = .ok (.iload_n 1, 1) := by decide +kernel
theorem dd_lw_close_2 : decode method_16_code 2 = .ok (.invokevirtual 64, 3) := by decide +kernel
theorem dd_lw_close_5 : decode method_16_code 5 = .ok (.goto 6, 3) := by decide +kernel
theorem dd_lw_close_8 : decode method_16_code 8 = .ok (.astore_n 2, 1) := by decide +kernel
theorem dd_lw_close_9 : decode method_16_code 9 = .ok (.iconst 1, 1) := by decide +kernel
theorem dd_lw_close_10 : decode method_16_code 10 = .ok (.ireturn, 1) := by decide +kernel
theorem dd_lw_close_11 : decode method_16_code 11 = .ok (.iconst 0, 1) := by decide +kernel
theorem dd_lw_close_12 : decode method_16_code 12 = .ok (.ireturn, 1) := by decide +kernel
