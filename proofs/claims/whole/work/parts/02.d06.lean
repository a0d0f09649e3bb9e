/-! decode rows: printed by wip/whole/facts.py -/
theorem dd_mo_giveRule_0 : decode prog_7_method_20_code 0 = .ok (.aload_n 0, 1) := by decide +kernel
theorem dd_mo_giveRule_1 : decode prog_7_method_20_code 1 = .ok (.aload_n 0, 1) := by decide +kernel
theorem dd_mo_giveRule_2 : decode prog_7_method_20_code 2 = .ok (.iload_n 1, 1) := by decide +kernel
theorem dd_mo_giveRule_3 : decode prog_7_method_20_code 3 = .ok (.invokevirtual 90, 3) := by decide +kernel
theorem dd_mo_giveRule_6 : decode prog_7_method_20_code 6 = .ok (.ifCond .eq 16, 3) := by decide +kernel
theorem dd_mo_giveRule_9 : decode prog_7_method_20_code 9 = .ok (.aload_n 0, 1) := by decide +kernel
theorem dd_mo_giveRule_10 : decode prog_7_method_20_code 10 = .ok (.iload 4, 2) := by decide +kernel
theorem dd_mo_giveRule_12 : decode prog_7_method_20_code 12 = .ok (.invokevirtual 90, 3) := by decide +kernel
theorem dd_mo_giveRule_15 : decode prog_7_method_20_code 15 = .ok (.ifCond .eq 7, 3) := by decide +kernel
theorem dd_mo_giveRule_18 : decode prog_7_method_20_code 18 = .ok (.iconst 1, 1) := by decide +kernel
theorem dd_mo_giveRule_19 : decode prog_7_method_20_code 19 = .ok (.goto 4, 3) := by decide +kernel
theorem dd_mo_giveRule_22 : decode prog_7_method_20_code 22 = .ok (.iconst 0, 1) := by decide +kernel
theorem dd_mo_giveRule_23 : decode prog_7_method_20_code 23 = .ok (.iconst 1, 1) := by decide +kernel
theorem dd_mo_giveRule_24 : decode prog_7_method_20_code 24 = .ok (.invokevirtual 86, 3) := by decide +kernel
theorem dd_mo_giveRule_27 : decode prog_7_method_20_code 27 = .ok (.ifCond .eq 52, 3) := by decide +kernel
theorem dd_mo_giveRule_30 : decode prog_7_method_20_code 30 = .ok (.aload_n 0, 1) := by decide +kernel
theorem dd_mo_giveRule_31 : decode prog_7_method_20_code 31 = .ok (.iload_n 2, 1) := by decide +kernel
theorem dd_mo_giveRule_32 : decode prog_7_method_20_code 32 = .ok (.invokestatic 103, 3) := by decide +kernel
theorem dd_mo_giveRule_35 : decode prog_7_method_20_code 35 = .ok (.ifCond .eq 14, 3) := by decide +kernel
theorem dd_mo_giveRule_38 : decode prog_7_method_20_code 38 = .ok (.iload_n 3, 1) := by decide +kernel
theorem dd_mo_giveRule_39 : decode prog_7_method_20_code 39 = .ok (.invokestatic 103, 3) := by decide +kernel
theorem dd_mo_giveRule_42 : decode prog_7_method_20_code 42 = .ok (.ifCond .eq 7, 3) := by decide +kernel
theorem dd_mo_giveRule_45 : decode prog_7_method_20_code 45 = .ok (.iconst 1, 1) := by decide +kernel
theorem dd_mo_giveRule_46 : decode prog_7_method_20_code 46 = .ok (.goto 4, 3) := by decide +kernel
theorem dd_mo_giveRule_49 : decode prog_7_method_20_code 49 = .ok (.iconst 0, 1) := by decide +kernel
theorem dd_mo_giveRule_50 : decode prog_7_method_20_code 50 = .ok (.iconst 2, 1) := by decide +kernel
theorem dd_mo_giveRule_51 : decode prog_7_method_20_code 51 = .ok (.invokevirtual 86, 3) := by decide +kernel
theorem dd_mo_giveRule_54 : decode prog_7_method_20_code 54 = .ok (.ifCond .eq 25, 3) := by decide +kernel
theorem dd_mo_giveRule_57 : decode prog_7_method_20_code 57 = .ok (.aload_n 0, 1) := by decide +kernel
theorem dd_mo_giveRule_58 : decode prog_7_method_20_code 58 = .ok (.aload_n 0, 1) := by decide +kernel
theorem dd_mo_giveRule_59 : decode prog_7_method_20_code 59 = .ok (.getfield 100, 3) := by decide +kernel
theorem dd_mo_giveRule_62 : decode prog_7_method_20_code 62 = .ok (.bipush 8, 2) := by decide +kernel
theorem dd_mo_giveRule_64 : decode prog_7_method_20_code 64 = .ok (.if_icmp .ge 7, 3) := by decide +kernel
theorem dd_mo_giveRule_67 : decode prog_7_method_20_code 67 = .ok (.iconst 1, 1) := by decide +kernel
theorem dd_mo_giveRule_68 : decode prog_7_method_20_code 68 = .ok (.goto 4, 3) := by decide +kernel
theorem dd_mo_giveRule_71 : decode prog_7_method_20_code 71 = .ok (.iconst 0, 1) := by decide +kernel
theorem dd_mo_giveRule_72 : decode prog_7_method_20_code 72 = .ok (.iconst 3, 1) := by decide +kernel
theorem dd_mo_giveRule_73 : decode prog_7_method_20_code 73 = .ok (.invokevirtual 86, 3) := by decide +kernel
theorem dd_mo_giveRule_76 : decode prog_7_method_20_code 76 = .ok (.ifCond .ne 5, 3) := by decide +kernel
theorem dd_mo_giveRule_79 : decode prog_7_method_20_code 79 = .ok (.iconst 0, 1) := by decide +kernel
theorem dd_mo_giveRule_80 : decode prog_7_method_20_code 80 = .ok (.ireturn, 1) := by decide +kernel
theorem dd_mo_giveRule_81 : decode prog_7_method_20_code 81 = .ok (.aload_n 0, 1) := by decide +kernel
theorem dd_mo_giveRule_82 : decode prog_7_method_20_code 82 = .ok (.iconst 1, 1) := by decide +kernel
theorem dd_mo_giveRule_83 : decode prog_7_method_20_code 83 = .ok (.iload_n 1, 1) := by decide +kernel
theorem dd_mo_giveRule_84 : decode prog_7_method_20_code 84 = .ok (.iload_n 2, 1) := by decide +kernel
theorem dd_mo_giveRule_85 : decode prog_7_method_20_code 85 = .ok (.iload_n 3, 1) := by decide +kernel
theorem dd_mo_giveRule_86 : decode prog_7_method_20_code 86 = .ok (.iload 4, 2) := by decide +kernel
theorem dd_mo_giveRule_88 : decode prog_7_method_20_code 88 = .ok (.invokevirtual 106, 3) := by decide +kernel
theorem dd_mo_giveRule_91 : decode prog_7_method_20_code 91 = .ok (.ireturn, 1) := by decide +kernel
theorem dd_mo_isSet_0 : decode prog_7_method_19_code 0 = .ok (.iload_n 0, 1) := by decide +kernel
theorem dd_mo_isSet_1 : decode prog_7_method_19_code 1 = .ok (.ifCond .lt 13, 3) := by decide +kernel
theorem dd_mo_isSet_4 : decode prog_7_method_19_code 4 = .ok (.iload_n 0, 1) := by decide +kernel
theorem dd_mo_isSet_5 : decode prog_7_method_19_code 5 = .ok (.bipush 63, 2) := by decide +kernel
theorem dd_mo_isSet_7 : decode prog_7_method_19_code 7 = .ok (.if_icmp .gt 7, 3) := by decide +kernel
theorem dd_mo_isSet_10 : decode prog_7_method_19_code 10 = .ok (.iconst 1, 1) := by decide +kernel
theorem dd_mo_isSet_11 : decode prog_7_method_19_code 11 = .ok (.goto 4, 3) := by decide +kernel
theorem dd_mo_isSet_14 : decode prog_7_method_19_code 14 = .ok (.iconst 0, 1) := by decide +kernel
theorem dd_mo_isSet_15 : decode prog_7_method_19_code 15 = .ok (.ireturn, 1) := by decide +kernel
theorem dd_mo_addRule_0 : decode prog_7_method_18_code 0 = .ok (.aload_n 0, 1) := by decide +kernel
theorem dd_mo_addRule_1 : decode prog_7_method_18_code 1 = .ok (.getfield 41, 3) := by decide +kernel
theorem dd_mo_addRule_4 : decode prog_7_method_18_code 4 = .ok (.aload_n 0, 1) := by decide +kernel
theorem dd_mo_addRule_5 : decode prog_7_method_18_code 5 = .ok (.getfield 100, 3) := by decide +kernel
theorem dd_mo_addRule_8 : decode prog_7_method_18_code 8 = .ok (.iload_n 1, 1) := by decide +kernel
theorem dd_mo_addRule_9 : decode prog_7_method_18_code 9 = .ok (.bastore, 1) := by decide +kernel
theorem dd_mo_addRule_10 : decode prog_7_method_18_code 10 = .ok (.aload_n 0, 1) := by decide +kernel
theorem dd_mo_addRule_11 : decode prog_7_method_18_code 11 = .ok (.getfield 44, 3) := by decide +kernel
theorem dd_mo_addRule_14 : decode prog_7_method_18_code 14 = .ok (.aload_n 0, 1) := by decide +kernel
theorem dd_mo_addRule_15 : decode prog_7_method_18_code 15 = .ok (.getfield 100, 3) := by decide +kernel
theorem dd_mo_addRule_18 : decode prog_7_method_18_code 18 = .ok (.iload_n 2, 1) := by decide +kernel
theorem dd_mo_addRule_19 : decode prog_7_method_18_code 19 = .ok (.iastore, 1) := by decide +kernel
theorem dd_mo_addRule_20 : decode prog_7_method_18_code 20 = .ok (.aload_n 0, 1) := by decide +kernel
theorem dd_mo_addRule_21 : decode prog_7_method_18_code 21 = .ok (.getfield 47, 3) := by decide +kernel
theorem dd_mo_addRule_24 : decode prog_7_method_18_code 24 = .ok (.aload_n 0, 1) := by decide +kernel
theorem dd_mo_addRule_25 : decode prog_7_method_18_code 25 = .ok (.getfield 100, 3) := by decide +kernel
theorem dd_mo_addRule_28 : decode prog_7_method_18_code 28 = .ok (.iload_n 3, 1) := by decide +kernel
theorem dd_mo_addRule_29 : decode prog_7_method_18_code 29 = .ok (.iastore, 1) := by decide +kernel
theorem dd_mo_addRule_30 : decode prog_7_method_18_code 30 = .ok (.aload_n 0, 1) := by decide +kernel
theorem dd_mo_addRule_31 : decode prog_7_method_18_code 31 = .ok (.getfield 50, 3) := by decide +kernel
theorem dd_mo_addRule_34 : decode prog_7_method_18_code 34 = .ok (.aload_n 0, 1) := by decide +kernel
theorem dd_mo_addRule_35 : decode prog_7_method_18_code 35 = .ok (.getfield 100, 3) := by decide +kernel
theorem dd_mo_addRule_38 : decode prog_7_method_18_code 38 = .ok (.iload 4, 2) := by decide +kernel
theorem dd_mo_addRule_40 : decode prog_7_method_18_code 40 = .ok (.iastore, 1) := by decide +kernel
theorem dd_mo_addRule_41 : decode prog_7_method_18_code 41 = .ok (.aload_n 0, 1) := by decide +kernel
theorem dd_mo_addRule_42 : decode prog_7_method_18_code 42 = .ok (.getfield 53, 3) := by decide +kernel
theorem dd_mo_addRule_45 : decode prog_7_method_18_code 45 = .ok (.aload_n 0, 1) := by decide +kernel
theorem dd_mo_addRule_46 : decode prog_7_method_18_code 46 = .ok (.getfield 100, 3) := by decide +kernel
theorem dd_mo_addRule_49 : decode prog_7_method_18_code 49 = .ok (.iload 5, 2) := by decide +kernel
theorem dd_mo_addRule_51 : decode prog_7_method_18_code 51 = .ok (.iastore, 1) := by decide +kernel
theorem dd_mo_addRule_52 : decode prog_7_method_18_code 52 = .ok (.aload_n 0, 1) := by decide +kernel
theorem dd_mo_addRule_53 : decode prog_7_method_18_code 53 = .ok (.dup, 1) := by decide +kernel
theorem dd_mo_addRule_54 : decode prog_7_method_18_code 54 = .ok (.getfield 100, 3) := by decide +kernel
theorem dd_mo_addRule_57 : decode prog_7_method_18_code 57 = .ok (.iconst 1, 1) := by decide +kernel
theorem dd_mo_addRule_58 : decode prog_7_method_18_code 58 = .ok (.iadd, 1) := by decide +kernel
theorem dd_mo_addRule_59 : decode prog_7_method_18_code 59 = .ok (.putfield 100, 3) := by decide +kernel
theorem dd_mo_addRule_62 : decode prog_7_method_18_code 62 = .ok (.aload_n 0, 1) := by decide +kernel
theorem dd_mo_addRule_63 : decode prog_7_method_18_code 63 = .ok (.getfield 100, 3) := by decide +kernel
theorem dd_mo_addRule_66 : decode prog_7_method_18_code 66 = .ok (.iconst 1, 1) := by decide +kernel
theorem dd_mo_addRule_67 : decode prog_7_method_18_code 67 = .ok (.isub, 1) := by decide +kernel
theorem dd_mo_addRule_68 : decode prog_7_method_18_code 68 = .ok (.ireturn, 1) := by decide +kernel
theorem dd_mo_takeRule_0 : decode prog_7_method_21_code 0 = .ok (.aload_n 0, 1) := by decide +kernel
theorem dd_mo_takeRule_1 : decode prog_7_method_21_code 1 = .ok (.aload_n 0, 1) := by decide +kernel
theorem dd_mo_takeRule_2 : decode prog_7_method_21_code 2 = .ok (.iload_n 1, 1) := by decide +kernel
theorem dd_mo_takeRule_3 : decode prog_7_method_21_code 3 = .ok (.invokevirtual 90, 3) := by decide +kernel
theorem dd_mo_takeRule_6 : decode prog_7_method_21_code 6 = .ok (.ifCond .eq 15, 3) := by decide +kernel
theorem dd_mo_takeRule_9 : decode prog_7_method_21_code 9 = .ok (.aload_n 0, 1) := by decide +kernel
theorem dd_mo_takeRule_10 : decode prog_7_method_21_code 10 = .ok (.iload_n 2, 1) := by decide +kernel
theorem dd_mo_takeRule_11 : decode prog_7_method_21_code 11 = .ok (.invokevirtual 90, 3) := by decide +kernel
theorem dd_mo_takeRule_14 : decode prog_7_method_21_code 14 = .ok (.ifCond .eq 7, 3) := by decide +kernel
theorem dd_mo_takeRule_17 : decode prog_7_method_21_code 17 = .ok (.iconst 1, 1) := by decide +kernel
theorem dd_mo_takeRule_18 : decode prog_7_method_21_code 18 = .ok (.goto 4, 3) := by decide +kernel
theorem dd_mo_takeRule_21 : decode prog_7_method_21_code 21 = .ok (.iconst 0, 1) := by decide +kernel
theorem dd_mo_takeRule_22 : decode prog_7_method_21_code 22 = .ok (.iconst 1, 1) := by decide +kernel
theorem dd_mo_takeRule_23 : decode prog_7_method_21_code 23 = .ok (.invokevirtual 86, 3) := by decide +kernel
theorem dd_mo_takeRule_26 : decode prog_7_method_21_code 26 = .ok (.ifCond .eq 25, 3) := by decide +kernel
theorem dd_mo_takeRule_29 : decode prog_7_method_21_code 29 = .ok (.aload_n 0, 1) := by decide +kernel
theorem dd_mo_takeRule_30 : decode prog_7_method_21_code 30 = .ok (.aload_n 0, 1) := by decide +kernel
theorem dd_mo_takeRule_31 : decode prog_7_method_21_code 31 = .ok (.getfield 100, 3) := by decide +kernel
theorem dd_mo_takeRule_34 : decode prog_7_method_21_code 34 = .ok (.bipush 8, 2) := by decide +kernel
theorem dd_mo_takeRule_36 : decode prog_7_method_21_code 36 = .ok (.if_icmp .ge 7, 3) := by decide +kernel
theorem dd_mo_takeRule_39 : decode prog_7_method_21_code 39 = .ok (.iconst 1, 1) := by decide +kernel
theorem dd_mo_takeRule_40 : decode prog_7_method_21_code 40 = .ok (.goto 4, 3) := by decide +kernel
theorem dd_mo_takeRule_43 : decode prog_7_method_21_code 43 = .ok (.iconst 0, 1) := by decide +kernel
theorem dd_mo_takeRule_44 : decode prog_7_method_21_code 44 = .ok (.iconst 2, 1) := by decide +kernel
theorem dd_mo_takeRule_45 : decode prog_7_method_21_code 45 = .ok (.invokevirtual 86, 3) := by decide +kernel
theorem dd_mo_takeRule_48 : decode prog_7_method_21_code 48 = .ok (.ifCond .ne 5, 3) := by decide +kernel
theorem dd_mo_takeRule_51 : decode prog_7_method_21_code 51 = .ok (.iconst 0, 1) := by decide +kernel
theorem dd_mo_takeRule_52 : decode prog_7_method_21_code 52 = .ok (.ireturn, 1) := by decide +kernel
theorem dd_mo_takeRule_53 : decode prog_7_method_21_code 53 = .ok (.aload_n 0, 1) := by decide +kernel
theorem dd_mo_takeRule_54 : decode prog_7_method_21_code 54 = .ok (.iconst 0, 1) := by decide +kernel
theorem dd_mo_takeRule_55 : decode prog_7_method_21_code 55 = .ok (.iload_n 1, 1) := by decide +kernel
theorem dd_mo_takeRule_56 : decode prog_7_method_21_code 56 = .ok (.iconst 0, 1) := by decide +kernel
theorem dd_mo_takeRule_57 : decode prog_7_method_21_code 57 = .ok (.iconst 0, 1) := by decide +kernel
theorem dd_mo_takeRule_58 : decode prog_7_method_21_code 58 = .ok (.iload_n 2, 1) := by decide +kernel
theorem dd_mo_takeRule_59 : decode prog_7_method_21_code 59 = .ok (.invokevirtual 106, 3) := by decide +kernel
theorem dd_mo_takeRule_62 : decode prog_7_method_21_code 62 = .ok (.ireturn, 1) := by decide +kernel
theorem dd_mo_assign_0 : decode prog_7_method_25_code 0 = .ok (.aload_n 0, 1) := by decide +kernel
theorem dd_mo_assign_1 : decode prog_7_method_25_code 1 = .ok (.aload_n 0, 1) := by decide +kernel
theorem dd_mo_assign_2 : decode prog_7_method_25_code 2 = .ok (.iload_n 1, 1) := by decide +kernel
theorem dd_mo_assign_3 : decode prog_7_method_25_code 3 = .ok (.invokevirtual 113, 3) := by decide +kernel
theorem dd_mo_assign_6 : decode prog_7_method_25_code 6 = .ok (.ifCond .eq 15, 3) := by decide +kernel
theorem dd_mo_assign_9 : decode prog_7_method_25_code 9 = .ok (.aload_n 0, 1) := by decide +kernel
theorem dd_mo_assign_10 : decode prog_7_method_25_code 10 = .ok (.iload_n 2, 1) := by decide +kernel
theorem dd_mo_assign_11 : decode prog_7_method_25_code 11 = .ok (.invokevirtual 90, 3) := by decide +kernel
theorem dd_mo_assign_14 : decode prog_7_method_25_code 14 = .ok (.ifCond .eq 7, 3) := by decide +kernel
theorem dd_mo_assign_17 : decode prog_7_method_25_code 17 = .ok (.iconst 1, 1) := by decide +kernel
theorem dd_mo_assign_18 : decode prog_7_method_25_code 18 = .ok (.goto 4, 3) := by decide +kernel
theorem dd_mo_assign_21 : decode prog_7_method_25_code 21 = .ok (.iconst 0, 1) := by decide +kernel
theorem dd_mo_assign_22 : decode prog_7_method_25_code 22 = .ok (.iconst 1, 1) := by decide +kernel
theorem dd_mo_assign_23 : decode prog_7_method_25_code 23 = .ok (.invokevirtual 86, 3) := by decide +kernel
theorem dd_mo_assign_26 : decode prog_7_method_25_code 26 = .ok (.ifCond .eq 17, 3) := by decide +kernel
theorem dd_mo_assign_29 : decode prog_7_method_25_code 29 = .ok (.aload_n 0, 1) := by decide +kernel
theorem dd_mo_assign_30 : decode prog_7_method_25_code 30 = .ok (.iload_n 1, 1) := by decide +kernel
theorem dd_mo_assign_31 : decode prog_7_method_25_code 31 = .ok (.iload_n 2, 1) := by decide +kernel
theorem dd_mo_assign_32 : decode prog_7_method_25_code 32 = .ok (.iconst 2, 1) := by decide +kernel
theorem dd_mo_assign_33 : decode prog_7_method_25_code 33 = .ok (.invokevirtual 116, 3) := by decide +kernel
theorem dd_mo_assign_36 : decode prog_7_method_25_code 36 = .ok (.ifCond .eq 7, 3) := by decide +kernel
theorem dd_mo_assign_39 : decode prog_7_method_25_code 39 = .ok (.iconst 1, 1) := by decide +kernel
theorem dd_mo_assign_40 : decode prog_7_method_25_code 40 = .ok (.goto 4, 3) := by decide +kernel
theorem dd_mo_assign_43 : decode prog_7_method_25_code 43 = .ok (.iconst 0, 1) := by decide +kernel
theorem dd_mo_assign_44 : decode prog_7_method_25_code 44 = .ok (.ireturn, 1) := by decide +kernel
theorem dd_mo_isUser_0 : decode prog_7_method_5_code 0 = .ok (.iload_n 1, 1) := by decide +kernel
theorem dd_mo_isUser_1 : decode prog_7_method_5_code 1 = .ok (.ifCond .lt 15, 3) := by decide +kernel
theorem dd_mo_isUser_4 : decode prog_7_method_5_code 4 = .ok (.iload_n 1, 1) := by decide +kernel
theorem dd_mo_isUser_5 : decode prog_7_method_5_code 5 = .ok (.aload_n 0, 1) := by decide +kernel
theorem dd_mo_isUser_6 : decode prog_7_method_5_code 6 = .ok (.getfield 72, 3) := by decide +kernel
theorem dd_mo_isUser_9 : decode prog_7_method_5_code 9 = .ok (.if_icmp .ge 7, 3) := by decide +kernel
theorem dd_mo_isUser_12 : decode prog_7_method_5_code 12 = .ok (.iconst 1, 1) := by decide +kernel
theorem dd_mo_isUser_13 : decode prog_7_method_5_code 13 = .ok (.goto 4, 3) := by decide +kernel
theorem dd_mo_isUser_16 : decode prog_7_method_5_code 16 = .ok (.iconst 0, 1) := by decide +kernel
theorem dd_mo_isUser_17 : decode prog_7_method_5_code 17 = .ok (.ireturn, 1) := by decide +kernel
theorem dd_mo_put_0 : decode prog_7_method_23_code 0 = .ok (.aload_n 0, 1) := by decide +kernel
theorem dd_mo_put_1 : decode prog_7_method_23_code 1 = .ok (.getfield 19, 3) := by decide +kernel
theorem dd_mo_put_4 : decode prog_7_method_23_code 4 = .ok (.iload_n 1, 1) := by decide +kernel
theorem dd_mo_put_5 : decode prog_7_method_23_code 5 = .ok (.iaload, 1) := by decide +kernel
theorem dd_mo_put_6 : decode prog_7_method_23_code 6 = .ok (.iconst 1, 1) := by decide +kernel
theorem dd_mo_put_7 : decode prog_7_method_23_code 7 = .ok (.iload_n 2, 1) := by decide +kernel
theorem dd_mo_put_8 : decode prog_7_method_23_code 8 = .ok (.ishl, 1) := by decide +kernel
theorem dd_mo_put_9 : decode prog_7_method_23_code 9 = .ok (.ior, 1) := by decide +kernel
theorem dd_mo_put_10 : decode prog_7_method_23_code 10 = .ok (.istore 4, 2) := by decide +kernel
theorem dd_mo_put_12 : decode prog_7_method_23_code 12 = .ok (.aload_n 0, 1) := by decide +kernel
theorem dd_mo_put_13 : decode prog_7_method_23_code 13 = .ok (.aload_n 0, 1) := by decide +kernel
theorem dd_mo_put_14 : decode prog_7_method_23_code 14 = .ok (.iload 4, 2) := by decide +kernel
theorem dd_mo_put_16 : decode prog_7_method_23_code 16 = .ok (.invokevirtual 82, 3) := by decide +kernel
theorem dd_mo_put_19 : decode prog_7_method_23_code 19 = .ok (.iload_n 3, 1) := by decide +kernel
theorem dd_mo_put_20 : decode prog_7_method_23_code 20 = .ok (.invokevirtual 86, 3) := by decide +kernel
theorem dd_mo_put_23 : decode prog_7_method_23_code 23 = .ok (.ifCond .ne 5, 3) := by decide +kernel
theorem dd_mo_put_26 : decode prog_7_method_23_code 26 = .ok (.iconst 0, 1) := by decide +kernel
theorem dd_mo_put_27 : decode prog_7_method_23_code 27 = .ok (.ireturn, 1) := by decide +kernel
theorem dd_mo_put_28 : decode prog_7_method_23_code 28 = .ok (.iload 4, 2) := by decide +kernel
theorem dd_mo_put_30 : decode prog_7_method_23_code 30 = .ok (.aload_n 0, 1) := by decide +kernel
theorem dd_mo_put_31 : decode prog_7_method_23_code 31 = .ok (.getfield 19, 3) := by decide +kernel
theorem dd_mo_put_34 : decode prog_7_method_23_code 34 = .ok (.iload_n 1, 1) := by decide +kernel
theorem dd_mo_put_35 : decode prog_7_method_23_code 35 = .ok (.iaload, 1) := by decide +kernel
theorem dd_mo_put_36 : decode prog_7_method_23_code 36 = .ok (.if_icmp .eq 7, 3) := by decide +kernel
theorem dd_mo_put_39 : decode prog_7_method_23_code 39 = .ok (.iconst 1, 1) := by decide +kernel
theorem dd_mo_put_40 : decode prog_7_method_23_code 40 = .ok (.goto 4, 3) := by decide +kernel
theorem dd_mo_put_43 : decode prog_7_method_23_code 43 = .ok (.iconst 0, 1) := by decide +kernel
theorem dd_mo_put_44 : decode prog_7_method_23_code 44 = .ok (.istore 5, 2) := by decide +kernel
theorem dd_mo_put_46 : decode prog_7_method_23_code 46 = .ok (.aload_n 0, 1) := by decide +kernel
theorem dd_mo_put_47 : decode prog_7_method_23_code 47 = .ok (.getfield 19, 3) := by decide +kernel
theorem dd_mo_put_50 : decode prog_7_method_23_code 50 = .ok (.iload_n 1, 1) := by decide +kernel
theorem dd_mo_put_51 : decode prog_7_method_23_code 51 = .ok (.iload 4, 2) := by decide +kernel
theorem dd_mo_put_53 : decode prog_7_method_23_code 53 = .ok (.iastore, 1) := by decide +kernel
theorem dd_mo_put_54 : decode prog_7_method_23_code 54 = .ok (.iload 5, 2) := by decide +kernel
theorem dd_mo_put_56 : decode prog_7_method_23_code 56 = .ok (.ireturn, 1) := by decide +kernel
theorem dd_mo_remove_0 : decode prog_7_method_26_code 0 = .ok (.aload_n 0, 1) := by decide +kernel
theorem dd_mo_remove_1 : decode prog_7_method_26_code 1 = .ok (.aload_n 0, 1) := by decide +kernel
theorem dd_mo_remove_2 : decode prog_7_method_26_code 2 = .ok (.iload_n 1, 1) := by decide +kernel
theorem dd_mo_remove_3 : decode prog_7_method_26_code 3 = .ok (.invokevirtual 113, 3) := by decide +kernel
theorem dd_mo_remove_6 : decode prog_7_method_26_code 6 = .ok (.ifCond .eq 15, 3) := by decide +kernel
theorem dd_mo_remove_9 : decode prog_7_method_26_code 9 = .ok (.aload_n 0, 1) := by decide +kernel
theorem dd_mo_remove_10 : decode prog_7_method_26_code 10 = .ok (.iload_n 2, 1) := by decide +kernel
theorem dd_mo_remove_11 : decode prog_7_method_26_code 11 = .ok (.invokevirtual 90, 3) := by decide +kernel
theorem dd_mo_remove_14 : decode prog_7_method_26_code 14 = .ok (.ifCond .eq 7, 3) := by decide +kernel
theorem dd_mo_remove_17 : decode prog_7_method_26_code 17 = .ok (.iconst 1, 1) := by decide +kernel
theorem dd_mo_remove_18 : decode prog_7_method_26_code 18 = .ok (.goto 4, 3) := by decide +kernel
theorem dd_mo_remove_21 : decode prog_7_method_26_code 21 = .ok (.iconst 0, 1) := by decide +kernel
theorem dd_mo_remove_22 : decode prog_7_method_26_code 22 = .ok (.iconst 1, 1) := by decide +kernel
theorem dd_mo_remove_23 : decode prog_7_method_26_code 23 = .ok (.invokevirtual 86, 3) := by decide +kernel
theorem dd_mo_remove_26 : decode prog_7_method_26_code 26 = .ok (.ifCond .eq 16, 3) := by decide +kernel
theorem dd_mo_remove_29 : decode prog_7_method_26_code 29 = .ok (.aload_n 0, 1) := by decide +kernel
theorem dd_mo_remove_30 : decode prog_7_method_26_code 30 = .ok (.iload_n 1, 1) := by decide +kernel
theorem dd_mo_remove_31 : decode prog_7_method_26_code 31 = .ok (.iload_n 2, 1) := by decide +kernel
theorem dd_mo_remove_32 : decode prog_7_method_26_code 32 = .ok (.invokevirtual 120, 3) := by decide +kernel
theorem dd_mo_remove_35 : decode prog_7_method_26_code 35 = .ok (.ifCond .eq 7, 3) := by decide +kernel
theorem dd_mo_remove_38 : decode prog_7_method_26_code 38 = .ok (.iconst 1, 1) := by decide +kernel
theorem dd_mo_remove_39 : decode prog_7_method_26_code 39 = .ok (.goto 4, 3) := by decide +kernel
theorem dd_mo_remove_42 : decode prog_7_method_26_code 42 = .ok (.iconst 0, 1) := by decide +kernel
theorem dd_mo_remove_43 : decode prog_7_method_26_code 43 = .ok (.ireturn, 1) := by decide +kernel
theorem dd_mo_drop_0 : decode prog_7_method_24_code 0 = .ok (.aload_n 0, 1) := by decide +kernel
theorem dd_mo_drop_1 : decode prog_7_method_24_code 1 = .ok (.getfield 19, 3) := by decide +kernel
theorem dd_mo_drop_4 : decode prog_7_method_24_code 4 = .ok (.iload_n 1, 1) := by decide +kernel
theorem dd_mo_drop_5 : decode prog_7_method_24_code 5 = .ok (.iaload, 1) := by decide +kernel
theorem dd_mo_drop_6 : decode prog_7_method_24_code 6 = .ok (.iload_n 2, 1) := by decide +kernel
theorem dd_mo_drop_7 : decode prog_7_method_24_code 7 = .ok (.ishr, 1) := by decide +kernel
theorem dd_mo_drop_8 : decode prog_7_method_24_code 8 = .ok (.iconst 1, 1) := by decide +kernel
theorem dd_mo_drop_9 : decode prog_7_method_24_code 9 = .ok (.iand, 1) := by decide +kernel
theorem dd_mo_drop_10 : decode prog_7_method_24_code 10 = .ok (.iconst 1, 1) := by decide +kernel
theorem dd_mo_drop_11 : decode prog_7_method_24_code 11 = .ok (.if_icmp .ne 7, 3) := by decide +kernel
theorem dd_mo_drop_14 : decode prog_7_method_24_code 14 = .ok (.iconst 1, 1) := by decide +kernel
theorem dd_mo_drop_15 : decode prog_7_method_24_code 15 = .ok (.goto 4, 3) := by decide +kernel
theorem dd_mo_drop_18 : decode prog_7_method_24_code 18 = .ok (.iconst 0, 1) := by decide +kernel
theorem dd_mo_drop_19 : decode prog_7_method_24_code 19 = .ok (.istore_n 3, 1) := by decide +kernel
theorem dd_mo_drop_20 : decode prog_7_method_24_code 20 = .ok (.aload_n 0, 1) := by decide +kernel
theorem dd_mo_drop_21 : decode prog_7_method_24_code 21 = .ok (.getfield 19, 3) := by decide +kernel
theorem dd_mo_drop_24 : decode prog_7_method_24_code 24 = .ok (.iload_n 1, 1) := by decide +kernel
theorem dd_mo_drop_25 : decode prog_7_method_24_code 25 = .ok (.aload_n 0, 1) := by decide +kernel
theorem dd_mo_drop_26 : decode prog_7_method_24_code 26 = .ok (.getfield 19, 3) := by decide +kernel
theorem dd_mo_drop_29 : decode prog_7_method_24_code 29 = .ok (.iload_n 1, 1) := by decide +kernel
theorem dd_mo_drop_30 : decode prog_7_method_24_code 30 = .ok (.iaload, 1) := by decide +kernel
theorem dd_mo_drop_31 : decode prog_7_method_24_code 31 = .ok (.iconst 1, 1) := by decide +kernel
theorem dd_mo_drop_32 : decode prog_7_method_24_code 32 = .ok (.iload_n 2, 1) := by decide +kernel
theorem dd_mo_drop_33 : decode prog_7_method_24_code 33 = .ok (.ishl, 1) := by decide +kernel
theorem dd_mo_drop_34 : decode prog_7_method_24_code 34 = .ok (.iconst (-1), 1) := by decide +kernel
theorem dd_mo_drop_35 : decode prog_7_method_24_code 35 = .ok (.ixor, 1) := by decide +kernel
theorem dd_mo_drop_36 : decode prog_7_method_24_code 36 = .ok (.iand, 1) := by decide +kernel
theorem dd_mo_drop_37 : decode prog_7_method_24_code 37 = .ok (.iastore, 1) := by decide +kernel
theorem dd_mo_drop_38 : decode prog_7_method_24_code 38 = .ok (.aload_n 0, 1) := by decide +kernel
theorem dd_mo_drop_39 : decode prog_7_method_24_code 39 = .ok (.invokevirtual 110, 3) := by decide +kernel
theorem dd_mo_drop_42 : decode prog_7_method_24_code 42 = .ok (.iload_n 3, 1) := by decide +kernel
theorem dd_mo_drop_43 : decode prog_7_method_24_code 43 = .ok (.ireturn, 1) := by decide +kernel
theorem dd_mo_cutSessions_0 : decode prog_7_method_12_code 0 = .ok (.iconst 0, 1) := by decide +kernel
theorem dd_mo_cutSessions_1 : decode prog_7_method_12_code 1 = .ok (.istore_n 1, 1) := by decide +kernel
theorem dd_mo_cutSessions_2 : decode prog_7_method_12_code 2 = .ok (.iload_n 1, 1) := by decide +kernel
theorem dd_mo_cutSessions_3 : decode prog_7_method_12_code 3 = .ok (.iconst 4, 1) := by decide +kernel
theorem dd_mo_cutSessions_4 : decode prog_7_method_12_code 4 = .ok (.if_icmp .ge 50, 3) := by decide +kernel
theorem dd_mo_cutSessions_7 : decode prog_7_method_12_code 7 = .ok (.aload_n 0, 1) := by decide +kernel
theorem dd_mo_cutSessions_8 : decode prog_7_method_12_code 8 = .ok (.getfield 38, 3) := by decide +kernel
theorem dd_mo_cutSessions_11 : decode prog_7_method_12_code 11 = .ok (.iload_n 1, 1) := by decide +kernel
theorem dd_mo_cutSessions_12 : decode prog_7_method_12_code 12 = .ok (.aload_n 0, 1) := by decide +kernel
theorem dd_mo_cutSessions_13 : decode prog_7_method_12_code 13 = .ok (.getfield 31, 3) := by decide +kernel
theorem dd_mo_cutSessions_16 : decode prog_7_method_12_code 16 = .ok (.iload_n 1, 1) := by decide +kernel
theorem dd_mo_cutSessions_17 : decode prog_7_method_12_code 17 = .ok (.baload, 1) := by decide +kernel
theorem dd_mo_cutSessions_18 : decode prog_7_method_12_code 18 = .ok (.ifCond .eq 28, 3) := by decide +kernel
theorem dd_mo_cutSessions_21 : decode prog_7_method_12_code 21 = .ok (.aload_n 0, 1) := by decide +kernel
theorem dd_mo_cutSessions_22 : decode prog_7_method_12_code 22 = .ok (.getfield 38, 3) := by decide +kernel
theorem dd_mo_cutSessions_25 : decode prog_7_method_12_code 25 = .ok (.iload_n 1, 1) := by decide +kernel
theorem dd_mo_cutSessions_26 : decode prog_7_method_12_code 26 = .ok (.iaload, 1) := by decide +kernel
theorem dd_mo_cutSessions_27 : decode prog_7_method_12_code 27 = .ok (.aload_n 0, 1) := by decide +kernel
theorem dd_mo_cutSessions_28 : decode prog_7_method_12_code 28 = .ok (.aload_n 0, 1) := by decide +kernel
theorem dd_mo_cutSessions_29 : decode prog_7_method_12_code 29 = .ok (.getfield 19, 3) := by decide +kernel
theorem dd_mo_cutSessions_32 : decode prog_7_method_12_code 32 = .ok (.aload_n 0, 1) := by decide +kernel
theorem dd_mo_cutSessions_33 : decode prog_7_method_12_code 33 = .ok (.getfield 35, 3) := by decide +kernel
theorem dd_mo_cutSessions_36 : decode prog_7_method_12_code 36 = .ok (.iload_n 1, 1) := by decide +kernel
theorem dd_mo_cutSessions_37 : decode prog_7_method_12_code 37 = .ok (.iaload, 1) := by decide +kernel
theorem dd_mo_cutSessions_38 : decode prog_7_method_12_code 38 = .ok (.iaload, 1) := by decide +kernel
theorem dd_mo_cutSessions_39 : decode prog_7_method_12_code 39 = .ok (.invokevirtual 75, 3) := by decide +kernel
theorem dd_mo_cutSessions_42 : decode prog_7_method_12_code 42 = .ok (.iand, 1) := by decide +kernel
theorem dd_mo_cutSessions_43 : decode prog_7_method_12_code 43 = .ok (.goto 4, 3) := by decide +kernel
theorem dd_mo_cutSessions_46 : decode prog_7_method_12_code 46 = .ok (.iconst 0, 1) := by decide +kernel
theorem dd_mo_cutSessions_47 : decode prog_7_method_12_code 47 = .ok (.iastore, 1) := by decide +kernel
theorem dd_mo_cutSessions_48 : decode prog_7_method_12_code 48 = .ok (.iinc 1 1, 3) := by decide +kernel
theorem dd_mo_cutSessions_51 : decode prog_7_method_12_code 51 = .ok (.goto (-49), 3) := by decide +kernel
theorem dd_mo_cutSessions_54 : decode prog_7_method_12_code 54 = .ok (.return_, 1) := by decide +kernel
theorem dd_mo_give_0 : decode prog_7_method_27_code 0 = .ok (.aload_n 0, 1) := by decide +kernel
theorem dd_mo_give_1 : decode prog_7_method_27_code 1 = .ok (.aload_n 0, 1) := by decide +kernel
theorem dd_mo_give_2 : decode prog_7_method_27_code 2 = .ok (.iload_n 1, 1) := by decide +kernel
theorem dd_mo_give_3 : decode prog_7_method_27_code 3 = .ok (.invokevirtual 113, 3) := by decide +kernel
theorem dd_mo_give_6 : decode prog_7_method_27_code 6 = .ok (.ifCond .eq 23, 3) := by decide +kernel
theorem dd_mo_give_9 : decode prog_7_method_27_code 9 = .ok (.aload_n 0, 1) := by decide +kernel
theorem dd_mo_give_10 : decode prog_7_method_27_code 10 = .ok (.iload_n 2, 1) := by decide +kernel
theorem dd_mo_give_11 : decode prog_7_method_27_code 11 = .ok (.invokevirtual 113, 3) := by decide +kernel
theorem dd_mo_give_14 : decode prog_7_method_27_code 14 = .ok (.ifCond .eq 15, 3) := by decide +kernel
theorem dd_mo_give_17 : decode prog_7_method_27_code 17 = .ok (.aload_n 0, 1) := by decide +kernel
theorem dd_mo_give_18 : decode prog_7_method_27_code 18 = .ok (.iload_n 3, 1) := by decide +kernel
theorem dd_mo_give_19 : decode prog_7_method_27_code 19 = .ok (.invokevirtual 90, 3) := by decide +kernel
theorem dd_mo_give_22 : decode prog_7_method_27_code 22 = .ok (.ifCond .eq 7, 3) := by decide +kernel
theorem dd_mo_give_25 : decode prog_7_method_27_code 25 = .ok (.iconst 1, 1) := by decide +kernel
theorem dd_mo_give_26 : decode prog_7_method_27_code 26 = .ok (.goto 4, 3) := by decide +kernel
theorem dd_mo_give_29 : decode prog_7_method_27_code 29 = .ok (.iconst 0, 1) := by decide +kernel
theorem dd_mo_give_30 : decode prog_7_method_27_code 30 = .ok (.iconst 1, 1) := by decide +kernel
theorem dd_mo_give_31 : decode prog_7_method_27_code 31 = .ok (.invokevirtual 86, 3) := by decide +kernel
theorem dd_mo_give_34 : decode prog_7_method_27_code 34 = .ok (.ifCond .eq 37, 3) := by decide +kernel
theorem dd_mo_give_37 : decode prog_7_method_27_code 37 = .ok (.aload_n 0, 1) := by decide +kernel
theorem dd_mo_give_38 : decode prog_7_method_27_code 38 = .ok (.aload_n 0, 1) := by decide +kernel
theorem dd_mo_give_39 : decode prog_7_method_27_code 39 = .ok (.iconst 1, 1) := by decide +kernel
theorem dd_mo_give_40 : decode prog_7_method_27_code 40 = .ok (.aload_n 0, 1) := by decide +kernel
theorem dd_mo_give_41 : decode prog_7_method_27_code 41 = .ok (.aload_n 0, 1) := by decide +kernel
theorem dd_mo_give_42 : decode prog_7_method_27_code 42 = .ok (.getfield 19, 3) := by decide +kernel
theorem dd_mo_give_45 : decode prog_7_method_27_code 45 = .ok (.iload_n 1, 1) := by decide +kernel
theorem dd_mo_give_46 : decode prog_7_method_27_code 46 = .ok (.iaload, 1) := by decide +kernel
theorem dd_mo_give_47 : decode prog_7_method_27_code 47 = .ok (.invokevirtual 75, 3) := by decide +kernel
theorem dd_mo_give_50 : decode prog_7_method_27_code 50 = .ok (.aload_n 0, 1) := by decide +kernel
theorem dd_mo_give_51 : decode prog_7_method_27_code 51 = .ok (.aload_n 0, 1) := by decide +kernel
theorem dd_mo_give_52 : decode prog_7_method_27_code 52 = .ok (.getfield 19, 3) := by decide +kernel
theorem dd_mo_give_55 : decode prog_7_method_27_code 55 = .ok (.iload_n 2, 1) := by decide +kernel
theorem dd_mo_give_56 : decode prog_7_method_27_code 56 = .ok (.iaload, 1) := by decide +kernel
theorem dd_mo_give_57 : decode prog_7_method_27_code 57 = .ok (.invokevirtual 75, 3) := by decide +kernel
theorem dd_mo_give_60 : decode prog_7_method_27_code 60 = .ok (.iload_n 3, 1) := by decide +kernel
theorem dd_mo_give_61 : decode prog_7_method_27_code 61 = .ok (.invokevirtual 124, 3) := by decide +kernel
theorem dd_mo_give_64 : decode prog_7_method_27_code 64 = .ok (.iconst 2, 1) := by decide +kernel
theorem dd_mo_give_65 : decode prog_7_method_27_code 65 = .ok (.invokevirtual 86, 3) := by decide +kernel
theorem dd_mo_give_68 : decode prog_7_method_27_code 68 = .ok (.ifCond .ne 5, 3) := by decide +kernel
theorem dd_mo_give_71 : decode prog_7_method_27_code 71 = .ok (.iconst 0, 1) := by decide +kernel
theorem dd_mo_give_72 : decode prog_7_method_27_code 72 = .ok (.ireturn, 1) := by decide +kernel
theorem dd_mo_give_73 : decode prog_7_method_27_code 73 = .ok (.aload_n 0, 1) := by decide +kernel
theorem dd_mo_give_74 : decode prog_7_method_27_code 74 = .ok (.iload_n 2, 1) := by decide +kernel
theorem dd_mo_give_75 : decode prog_7_method_27_code 75 = .ok (.iload_n 3, 1) := by decide +kernel
theorem dd_mo_give_76 : decode prog_7_method_27_code 76 = .ok (.iconst 3, 1) := by decide +kernel
theorem dd_mo_give_77 : decode prog_7_method_27_code 77 = .ok (.invokevirtual 116, 3) := by decide +kernel
theorem dd_mo_give_80 : decode prog_7_method_27_code 80 = .ok (.ireturn, 1) := by decide +kernel
theorem dd_mo_lets_0 : decode prog_7_method_22_code 0 = .ok (.iconst 0, 1) := by decide +kernel
theorem dd_mo_lets_1 : decode prog_7_method_22_code 1 = .ok (.istore 5, 2) := by decide +kernel
theorem dd_mo_lets_3 : decode prog_7_method_22_code 3 = .ok (.iconst 0, 1) := by decide +kernel
theorem dd_mo_lets_4 : decode prog_7_method_22_code 4 = .ok (.istore 6, 2) := by decide +kernel
theorem dd_mo_lets_6 : decode prog_7_method_22_code 6 = .ok (.iload 6, 2) := by decide +kernel
theorem dd_mo_lets_8 : decode prog_7_method_22_code 8 = .ok (.aload_n 0, 1) := by decide +kernel
theorem dd_mo_lets_9 : decode prog_7_method_22_code 9 = .ok (.getfield 100, 3) := by decide +kernel
theorem dd_mo_lets_12 : decode prog_7_method_22_code 12 = .ok (.if_icmp .ge 102, 3) := by decide +kernel
theorem dd_mo_lets_15 : decode prog_7_method_22_code 15 = .ok (.aload_n 0, 1) := by decide +kernel
theorem dd_mo_lets_16 : decode prog_7_method_22_code 16 = .ok (.getfield 41, 3) := by decide +kernel
theorem dd_mo_lets_19 : decode prog_7_method_22_code 19 = .ok (.iload 6, 2) := by decide +kernel
theorem dd_mo_lets_21 : decode prog_7_method_22_code 21 = .ok (.baload, 1) := by decide +kernel
theorem dd_mo_lets_22 : decode prog_7_method_22_code 22 = .ok (.iload_n 1, 1) := by decide +kernel
theorem dd_mo_lets_23 : decode prog_7_method_22_code 23 = .ok (.if_icmp .ne 34, 3) := by decide +kernel
theorem dd_mo_lets_26 : decode prog_7_method_22_code 26 = .ok (.aload_n 0, 1) := by decide +kernel
theorem dd_mo_lets_27 : decode prog_7_method_22_code 27 = .ok (.getfield 53, 3) := by decide +kernel
theorem dd_mo_lets_30 : decode prog_7_method_22_code 30 = .ok (.iload 6, 2) := by decide +kernel
theorem dd_mo_lets_32 : decode prog_7_method_22_code 32 = .ok (.iaload, 1) := by decide +kernel
theorem dd_mo_lets_33 : decode prog_7_method_22_code 33 = .ok (.iload 4, 2) := by decide +kernel
theorem dd_mo_lets_35 : decode prog_7_method_22_code 35 = .ok (.if_icmp .ne 22, 3) := by decide +kernel
theorem dd_mo_lets_38 : decode prog_7_method_22_code 38 = .ok (.iload_n 2, 1) := by decide +kernel
theorem dd_mo_lets_39 : decode prog_7_method_22_code 39 = .ok (.aload_n 0, 1) := by decide +kernel
theorem dd_mo_lets_40 : decode prog_7_method_22_code 40 = .ok (.getfield 44, 3) := by decide +kernel
theorem dd_mo_lets_43 : decode prog_7_method_22_code 43 = .ok (.iload 6, 2) := by decide +kernel
theorem dd_mo_lets_45 : decode prog_7_method_22_code 45 = .ok (.iaload, 1) := by decide +kernel
theorem dd_mo_lets_46 : decode prog_7_method_22_code 46 = .ok (.ishr, 1) := by decide +kernel
theorem dd_mo_lets_47 : decode prog_7_method_22_code 47 = .ok (.iconst 1, 1) := by decide +kernel
theorem dd_mo_lets_48 : decode prog_7_method_22_code 48 = .ok (.iand, 1) := by decide +kernel
theorem dd_mo_lets_49 : decode prog_7_method_22_code 49 = .ok (.iconst 1, 1) := by decide +kernel
theorem dd_mo_lets_50 : decode prog_7_method_22_code 50 = .ok (.if_icmp .ne 7, 3) := by decide +kernel
theorem dd_mo_lets_53 : decode prog_7_method_22_code 53 = .ok (.iconst 1, 1) := by decide +kernel
theorem dd_mo_lets_54 : decode prog_7_method_22_code 54 = .ok (.goto 4, 3) := by decide +kernel
theorem dd_mo_lets_57 : decode prog_7_method_22_code 57 = .ok (.iconst 0, 1) := by decide +kernel
theorem dd_mo_lets_58 : decode prog_7_method_22_code 58 = .ok (.istore 7, 2) := by decide +kernel
theorem dd_mo_lets_60 : decode prog_7_method_22_code 60 = .ok (.iload 5, 2) := by decide +kernel
theorem dd_mo_lets_62 : decode prog_7_method_22_code 62 = .ok (.ifCond .ne 39, 3) := by decide +kernel
theorem dd_mo_lets_65 : decode prog_7_method_22_code 65 = .ok (.iload 7, 2) := by decide +kernel
theorem dd_mo_lets_67 : decode prog_7_method_22_code 67 = .ok (.ifCond .eq 38, 3) := by decide +kernel
theorem dd_mo_lets_70 : decode prog_7_method_22_code 70 = .ok (.iload_n 3, 1) := by decide +kernel
theorem dd_mo_lets_71 : decode prog_7_method_22_code 71 = .ok (.aload_n 0, 1) := by decide +kernel
theorem dd_mo_lets_72 : decode prog_7_method_22_code 72 = .ok (.getfield 47, 3) := by decide +kernel
theorem dd_mo_lets_75 : decode prog_7_method_22_code 75 = .ok (.iload 6, 2) := by decide +kernel
theorem dd_mo_lets_77 : decode prog_7_method_22_code 77 = .ok (.iaload, 1) := by decide +kernel
theorem dd_mo_lets_78 : decode prog_7_method_22_code 78 = .ok (.iand, 1) := by decide +kernel
theorem dd_mo_lets_79 : decode prog_7_method_22_code 79 = .ok (.aload_n 0, 1) := by decide +kernel
theorem dd_mo_lets_80 : decode prog_7_method_22_code 80 = .ok (.getfield 47, 3) := by decide +kernel
theorem dd_mo_lets_83 : decode prog_7_method_22_code 83 = .ok (.iload 6, 2) := by decide +kernel
theorem dd_mo_lets_85 : decode prog_7_method_22_code 85 = .ok (.iaload, 1) := by decide +kernel
theorem dd_mo_lets_86 : decode prog_7_method_22_code 86 = .ok (.if_icmp .ne 19, 3) := by decide +kernel
theorem dd_mo_lets_89 : decode prog_7_method_22_code 89 = .ok (.iload_n 3, 1) := by decide +kernel
theorem dd_mo_lets_90 : decode prog_7_method_22_code 90 = .ok (.aload_n 0, 1) := by decide +kernel
theorem dd_mo_lets_91 : decode prog_7_method_22_code 91 = .ok (.getfield 50, 3) := by decide +kernel
theorem dd_mo_lets_94 : decode prog_7_method_22_code 94 = .ok (.iload 6, 2) := by decide +kernel
theorem dd_mo_lets_96 : decode prog_7_method_22_code 96 = .ok (.iaload, 1) := by decide +kernel
theorem dd_mo_lets_97 : decode prog_7_method_22_code 97 = .ok (.iand, 1) := by decide +kernel
theorem dd_mo_lets_98 : decode prog_7_method_22_code 98 = .ok (.ifCond .ne 7, 3) := by decide +kernel
theorem dd_mo_lets_101 : decode prog_7_method_22_code 101 = .ok (.iconst 1, 1) := by decide +kernel
theorem dd_mo_lets_102 : decode prog_7_method_22_code 102 = .ok (.goto 4, 3) := by decide +kernel
theorem dd_mo_lets_105 : decode prog_7_method_22_code 105 = .ok (.iconst 0, 1) := by decide +kernel
theorem dd_mo_lets_106 : decode prog_7_method_22_code 106 = .ok (.istore 5, 2) := by decide +kernel
theorem dd_mo_lets_108 : decode prog_7_method_22_code 108 = .ok (.iinc 6 1, 3) := by decide +kernel
theorem dd_mo_lets_111 : decode prog_7_method_22_code 111 = .ok (.goto (-105), 3) := by decide +kernel
theorem dd_mo_lets_114 : decode prog_7_method_22_code 114 = .ok (.iload 5, 2) := by decide +kernel
theorem dd_mo_lets_116 : decode prog_7_method_22_code 116 = .ok (.ireturn, 1) := by decide +kernel
