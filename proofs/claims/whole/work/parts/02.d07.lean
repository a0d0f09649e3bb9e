/-! decode rows: printed by wip/whole/facts.py -/
theorem dd_mo_take_0 : decode prog_7_method_28_code 0 = .ok (.aload_n 0, 1) := by decide +kernel
theorem dd_mo_take_1 : decode prog_7_method_28_code 1 = .ok (.aload_n 0, 1) := by decide +kernel
theorem dd_mo_take_2 : decode prog_7_method_28_code 2 = .ok (.iload_n 1, 1) := by decide +kernel
theorem dd_mo_take_3 : decode prog_7_method_28_code 3 = .ok (.invokevirtual 113, 3) := by decide +kernel
theorem dd_mo_take_6 : decode prog_7_method_28_code 6 = .ok (.ifCond .eq 23, 3) := by decide +kernel
theorem dd_mo_take_9 : decode prog_7_method_28_code 9 = .ok (.aload_n 0, 1) := by decide +kernel
theorem dd_mo_take_10 : decode prog_7_method_28_code 10 = .ok (.iload_n 2, 1) := by decide +kernel
theorem dd_mo_take_11 : decode prog_7_method_28_code 11 = .ok (.invokevirtual 113, 3) := by decide +kernel
theorem dd_mo_take_14 : decode prog_7_method_28_code 14 = .ok (.ifCond .eq 15, 3) := by decide +kernel
theorem dd_mo_take_17 : decode prog_7_method_28_code 17 = .ok (.aload_n 0, 1) := by decide +kernel
theorem dd_mo_take_18 : decode prog_7_method_28_code 18 = .ok (.iload_n 3, 1) := by decide +kernel
theorem dd_mo_take_19 : decode prog_7_method_28_code 19 = .ok (.invokevirtual 90, 3) := by decide +kernel
theorem dd_mo_take_22 : decode prog_7_method_28_code 22 = .ok (.ifCond .eq 7, 3) := by decide +kernel
theorem dd_mo_take_25 : decode prog_7_method_28_code 25 = .ok (.iconst 1, 1) := by decide +kernel
theorem dd_mo_take_26 : decode prog_7_method_28_code 26 = .ok (.goto 4, 3) := by decide +kernel
theorem dd_mo_take_29 : decode prog_7_method_28_code 29 = .ok (.iconst 0, 1) := by decide +kernel
theorem dd_mo_take_30 : decode prog_7_method_28_code 30 = .ok (.iconst 1, 1) := by decide +kernel
theorem dd_mo_take_31 : decode prog_7_method_28_code 31 = .ok (.invokevirtual 86, 3) := by decide +kernel
theorem dd_mo_take_34 : decode prog_7_method_28_code 34 = .ok (.ifCond .eq 37, 3) := by decide +kernel
theorem dd_mo_take_37 : decode prog_7_method_28_code 37 = .ok (.aload_n 0, 1) := by decide +kernel
theorem dd_mo_take_38 : decode prog_7_method_28_code 38 = .ok (.aload_n 0, 1) := by decide +kernel
theorem dd_mo_take_39 : decode prog_7_method_28_code 39 = .ok (.iconst 0, 1) := by decide +kernel
theorem dd_mo_take_40 : decode prog_7_method_28_code 40 = .ok (.aload_n 0, 1) := by decide +kernel
theorem dd_mo_take_41 : decode prog_7_method_28_code 41 = .ok (.aload_n 0, 1) := by decide +kernel
theorem dd_mo_take_42 : decode prog_7_method_28_code 42 = .ok (.getfield 19, 3) := by decide +kernel
theorem dd_mo_take_45 : decode prog_7_method_28_code 45 = .ok (.iload_n 1, 1) := by decide +kernel
theorem dd_mo_take_46 : decode prog_7_method_28_code 46 = .ok (.iaload, 1) := by decide +kernel
theorem dd_mo_take_47 : decode prog_7_method_28_code 47 = .ok (.invokevirtual 75, 3) := by decide +kernel
theorem dd_mo_take_50 : decode prog_7_method_28_code 50 = .ok (.aload_n 0, 1) := by decide +kernel
theorem dd_mo_take_51 : decode prog_7_method_28_code 51 = .ok (.aload_n 0, 1) := by decide +kernel
theorem dd_mo_take_52 : decode prog_7_method_28_code 52 = .ok (.getfield 19, 3) := by decide +kernel
theorem dd_mo_take_55 : decode prog_7_method_28_code 55 = .ok (.iload_n 2, 1) := by decide +kernel
theorem dd_mo_take_56 : decode prog_7_method_28_code 56 = .ok (.iaload, 1) := by decide +kernel
theorem dd_mo_take_57 : decode prog_7_method_28_code 57 = .ok (.invokevirtual 75, 3) := by decide +kernel
theorem dd_mo_take_60 : decode prog_7_method_28_code 60 = .ok (.iload_n 3, 1) := by decide +kernel
theorem dd_mo_take_61 : decode prog_7_method_28_code 61 = .ok (.invokevirtual 124, 3) := by decide +kernel
theorem dd_mo_take_64 : decode prog_7_method_28_code 64 = .ok (.iconst 2, 1) := by decide +kernel
theorem dd_mo_take_65 : decode prog_7_method_28_code 65 = .ok (.invokevirtual 86, 3) := by decide +kernel
theorem dd_mo_take_68 : decode prog_7_method_28_code 68 = .ok (.ifCond .ne 5, 3) := by decide +kernel
theorem dd_mo_take_71 : decode prog_7_method_28_code 71 = .ok (.iconst 0, 1) := by decide +kernel
theorem dd_mo_take_72 : decode prog_7_method_28_code 72 = .ok (.ireturn, 1) := by decide +kernel
theorem dd_mo_take_73 : decode prog_7_method_28_code 73 = .ok (.aload_n 0, 1) := by decide +kernel
theorem dd_mo_take_74 : decode prog_7_method_28_code 74 = .ok (.iload_n 2, 1) := by decide +kernel
theorem dd_mo_take_75 : decode prog_7_method_28_code 75 = .ok (.iload_n 3, 1) := by decide +kernel
theorem dd_mo_take_76 : decode prog_7_method_28_code 76 = .ok (.invokevirtual 120, 3) := by decide +kernel
theorem dd_mo_take_79 : decode prog_7_method_28_code 79 = .ok (.ireturn, 1) := by decide +kernel
theorem dd_mo_roles_0 : decode prog_7_method_29_code 0 = .ok (.aload_n 0, 1) := by decide +kernel
theorem dd_mo_roles_1 : decode prog_7_method_29_code 1 = .ok (.aload_n 0, 1) := by decide +kernel
theorem dd_mo_roles_2 : decode prog_7_method_29_code 2 = .ok (.iload_n 1, 1) := by decide +kernel
theorem dd_mo_roles_3 : decode prog_7_method_29_code 3 = .ok (.invokevirtual 113, 3) := by decide +kernel
theorem dd_mo_roles_6 : decode prog_7_method_29_code 6 = .ok (.iconst 1, 1) := by decide +kernel
theorem dd_mo_roles_7 : decode prog_7_method_29_code 7 = .ok (.invokevirtual 86, 3) := by decide +kernel
theorem dd_mo_roles_10 : decode prog_7_method_29_code 10 = .ok (.ifCond .ne 5, 3) := by decide +kernel
theorem dd_mo_roles_13 : decode prog_7_method_29_code 13 = .ok (.iconst 0, 1) := by decide +kernel
theorem dd_mo_roles_14 : decode prog_7_method_29_code 14 = .ok (.ireturn, 1) := by decide +kernel
theorem dd_mo_roles_15 : decode prog_7_method_29_code 15 = .ok (.iload_n 2, 1) := by decide +kernel
theorem dd_mo_roles_16 : decode prog_7_method_29_code 16 = .ok (.ifCond .eq 16, 3) := by decide +kernel
theorem dd_mo_roles_19 : decode prog_7_method_29_code 19 = .ok (.aload_n 0, 1) := by decide +kernel
theorem dd_mo_roles_20 : decode prog_7_method_29_code 20 = .ok (.aload_n 0, 1) := by decide +kernel
theorem dd_mo_roles_21 : decode prog_7_method_29_code 21 = .ok (.getfield 19, 3) := by decide +kernel
theorem dd_mo_roles_24 : decode prog_7_method_29_code 24 = .ok (.iload_n 1, 1) := by decide +kernel
theorem dd_mo_roles_25 : decode prog_7_method_29_code 25 = .ok (.iaload, 1) := by decide +kernel
theorem dd_mo_roles_26 : decode prog_7_method_29_code 26 = .ok (.invokevirtual 75, 3) := by decide +kernel
theorem dd_mo_roles_29 : decode prog_7_method_29_code 29 = .ok (.goto 9, 3) := by decide +kernel
theorem dd_mo_roles_32 : decode prog_7_method_29_code 32 = .ok (.aload_n 0, 1) := by decide +kernel
theorem dd_mo_roles_33 : decode prog_7_method_29_code 33 = .ok (.getfield 19, 3) := by decide +kernel
theorem dd_mo_roles_36 : decode prog_7_method_29_code 36 = .ok (.iload_n 1, 1) := by decide +kernel
theorem dd_mo_roles_37 : decode prog_7_method_29_code 37 = .ok (.iaload, 1) := by decide +kernel
theorem dd_mo_roles_38 : decode prog_7_method_29_code 38 = .ok (.ireturn, 1) := by decide +kernel
theorem dd_mo_open_0 : decode prog_7_method_30_code 0 = .ok (.iconst 0, 1) := by decide +kernel
theorem dd_mo_open_1 : decode prog_7_method_30_code 1 = .ok (.istore_n 2, 1) := by decide +kernel
theorem dd_mo_open_2 : decode prog_7_method_30_code 2 = .ok (.iload_n 2, 1) := by decide +kernel
theorem dd_mo_open_3 : decode prog_7_method_30_code 3 = .ok (.iconst 4, 1) := by decide +kernel
theorem dd_mo_open_4 : decode prog_7_method_30_code 4 = .ok (.if_icmp .ge 18, 3) := by decide +kernel
theorem dd_mo_open_7 : decode prog_7_method_30_code 7 = .ok (.aload_n 0, 1) := by decide +kernel
theorem dd_mo_open_8 : decode prog_7_method_30_code 8 = .ok (.getfield 31, 3) := by decide +kernel
theorem dd_mo_open_11 : decode prog_7_method_30_code 11 = .ok (.iload_n 2, 1) := by decide +kernel
theorem dd_mo_open_12 : decode prog_7_method_30_code 12 = .ok (.baload, 1) := by decide +kernel
theorem dd_mo_open_13 : decode prog_7_method_30_code 13 = .ok (.ifCond .eq 9, 3) := by decide +kernel
theorem dd_mo_open_16 : decode prog_7_method_30_code 16 = .ok (.iinc 2 1, 3) := by decide +kernel
theorem dd_mo_open_19 : decode prog_7_method_30_code 19 = .ok (.goto (-17), 3) := by decide +kernel
theorem dd_mo_open_22 : decode prog_7_method_30_code 22 = .ok (.aload_n 0, 1) := by decide +kernel
theorem dd_mo_open_23 : decode prog_7_method_30_code 23 = .ok (.aload_n 0, 1) := by decide +kernel
theorem dd_mo_open_24 : decode prog_7_method_30_code 24 = .ok (.iload_n 1, 1) := by decide +kernel
theorem dd_mo_open_25 : decode prog_7_method_30_code 25 = .ok (.invokevirtual 113, 3) := by decide +kernel
theorem dd_mo_open_28 : decode prog_7_method_30_code 28 = .ok (.iconst 1, 1) := by decide +kernel
theorem dd_mo_open_29 : decode prog_7_method_30_code 29 = .ok (.invokevirtual 86, 3) := by decide +kernel
theorem dd_mo_open_32 : decode prog_7_method_30_code 32 = .ok (.ifCond .eq 21, 3) := by decide +kernel
theorem dd_mo_open_35 : decode prog_7_method_30_code 35 = .ok (.aload_n 0, 1) := by decide +kernel
theorem dd_mo_open_36 : decode prog_7_method_30_code 36 = .ok (.iload_n 2, 1) := by decide +kernel
theorem dd_mo_open_37 : decode prog_7_method_30_code 37 = .ok (.iconst 4, 1) := by decide +kernel
theorem dd_mo_open_38 : decode prog_7_method_30_code 38 = .ok (.if_icmp .ge 7, 3) := by decide +kernel
theorem dd_mo_open_41 : decode prog_7_method_30_code 41 = .ok (.iconst 1, 1) := by decide +kernel
theorem dd_mo_open_42 : decode prog_7_method_30_code 42 = .ok (.goto 4, 3) := by decide +kernel
theorem dd_mo_open_45 : decode prog_7_method_30_code 45 = .ok (.iconst 0, 1) := by decide +kernel
theorem dd_mo_open_46 : decode prog_7_method_30_code 46 = .ok (.iconst 2, 1) := by decide +kernel
theorem dd_mo_open_47 : decode prog_7_method_30_code 47 = .ok (.invokevirtual 86, 3) := by decide +kernel
theorem dd_mo_open_50 : decode prog_7_method_30_code 50 = .ok (.ifCond .ne 5, 3) := by decide +kernel
theorem dd_mo_open_53 : decode prog_7_method_30_code 53 = .ok (.iconst 0, 1) := by decide +kernel
theorem dd_mo_open_54 : decode prog_7_method_30_code 54 = .ok (.ireturn, 1) := by decide +kernel
theorem dd_mo_open_55 : decode prog_7_method_30_code 55 = .ok (.aload_n 0, 1) := by decide +kernel
theorem dd_mo_open_56 : decode prog_7_method_30_code 56 = .ok (.getfield 31, 3) := by decide +kernel
theorem dd_mo_open_59 : decode prog_7_method_30_code 59 = .ok (.iload_n 2, 1) := by decide +kernel
theorem dd_mo_open_60 : decode prog_7_method_30_code 60 = .ok (.iconst 1, 1) := by decide +kernel
theorem dd_mo_open_61 : decode prog_7_method_30_code 61 = .ok (.bastore, 1) := by decide +kernel
theorem dd_mo_open_62 : decode prog_7_method_30_code 62 = .ok (.aload_n 0, 1) := by decide +kernel
theorem dd_mo_open_63 : decode prog_7_method_30_code 63 = .ok (.getfield 35, 3) := by decide +kernel
theorem dd_mo_open_66 : decode prog_7_method_30_code 66 = .ok (.iload_n 2, 1) := by decide +kernel
theorem dd_mo_open_67 : decode prog_7_method_30_code 67 = .ok (.iload_n 1, 1) := by decide +kernel
theorem dd_mo_open_68 : decode prog_7_method_30_code 68 = .ok (.iastore, 1) := by decide +kernel
theorem dd_mo_open_69 : decode prog_7_method_30_code 69 = .ok (.aload_n 0, 1) := by decide +kernel
theorem dd_mo_open_70 : decode prog_7_method_30_code 70 = .ok (.getfield 38, 3) := by decide +kernel
theorem dd_mo_open_73 : decode prog_7_method_30_code 73 = .ok (.iload_n 2, 1) := by decide +kernel
theorem dd_mo_open_74 : decode prog_7_method_30_code 74 = .ok (.iconst 0, 1) := by decide +kernel
theorem dd_mo_open_75 : decode prog_7_method_30_code 75 = .ok (.iastore, 1) := by decide +kernel
theorem dd_mo_open_76 : decode prog_7_method_30_code 76 = .ok (.iload_n 2, 1) := by decide +kernel
theorem dd_mo_open_77 : decode prog_7_method_30_code 77 = .ok (.ireturn, 1) := by decide +kernel
theorem dd_mo_close_0 : decode prog_7_method_31_code 0 = .ok (.aload_n 0, 1) := by decide +kernel
theorem dd_mo_close_1 : decode prog_7_method_31_code 1 = .ok (.aload_n 0, 1) := by decide +kernel
theorem dd_mo_close_2 : decode prog_7_method_31_code 2 = .ok (.iload_n 1, 1) := by decide +kernel
theorem dd_mo_close_3 : decode prog_7_method_31_code 3 = .ok (.invokevirtual 128, 3) := by decide +kernel
theorem dd_mo_close_6 : decode prog_7_method_31_code 6 = .ok (.iconst 1, 1) := by decide +kernel
theorem dd_mo_close_7 : decode prog_7_method_31_code 7 = .ok (.invokevirtual 86, 3) := by decide +kernel
theorem dd_mo_close_10 : decode prog_7_method_31_code 10 = .ok (.ifCond .eq 10, 3) := by decide +kernel
theorem dd_mo_close_13 : decode prog_7_method_31_code 13 = .ok (.aload_n 0, 1) := by decide +kernel
theorem dd_mo_close_14 : decode prog_7_method_31_code 14 = .ok (.getfield 31, 3) := by decide +kernel
theorem dd_mo_close_17 : decode prog_7_method_31_code 17 = .ok (.iload_n 1, 1) := by decide +kernel
theorem dd_mo_close_18 : decode prog_7_method_31_code 18 = .ok (.iconst 0, 1) := by decide +kernel
theorem dd_mo_close_19 : decode prog_7_method_31_code 19 = .ok (.bastore, 1) := by decide +kernel
theorem dd_mo_close_20 : decode prog_7_method_31_code 20 = .ok (.return_, 1) := by decide +kernel
theorem dd_mo_isSession_0 : decode prog_7_method_6_code 0 = .ok (.iload_n 1, 1) := by decide +kernel
theorem dd_mo_isSession_1 : decode prog_7_method_6_code 1 = .ok (.ifCond .lt 21, 3) := by decide +kernel
theorem dd_mo_isSession_4 : decode prog_7_method_6_code 4 = .ok (.iload_n 1, 1) := by decide +kernel
theorem dd_mo_isSession_5 : decode prog_7_method_6_code 5 = .ok (.iconst 4, 1) := by decide +kernel
theorem dd_mo_isSession_6 : decode prog_7_method_6_code 6 = .ok (.if_icmp .ge 16, 3) := by decide +kernel
theorem dd_mo_isSession_9 : decode prog_7_method_6_code 9 = .ok (.aload_n 0, 1) := by decide +kernel
theorem dd_mo_isSession_10 : decode prog_7_method_6_code 10 = .ok (.getfield 31, 3) := by decide +kernel
theorem dd_mo_isSession_13 : decode prog_7_method_6_code 13 = .ok (.iload_n 1, 1) := by decide +kernel
theorem dd_mo_isSession_14 : decode prog_7_method_6_code 14 = .ok (.baload, 1) := by decide +kernel
theorem dd_mo_isSession_15 : decode prog_7_method_6_code 15 = .ok (.ifCond .eq 7, 3) := by decide +kernel
theorem dd_mo_isSession_18 : decode prog_7_method_6_code 18 = .ok (.iconst 1, 1) := by decide +kernel
theorem dd_mo_isSession_19 : decode prog_7_method_6_code 19 = .ok (.goto 4, 3) := by decide +kernel
theorem dd_mo_isSession_22 : decode prog_7_method_6_code 22 = .ok (.iconst 0, 1) := by decide +kernel
theorem dd_mo_isSession_23 : decode prog_7_method_6_code 23 = .ok (.ireturn, 1) := by decide +kernel
theorem dd_mo_activate_0 : decode prog_7_method_32_code 0 = .ok (.aload_n 0, 1) := by decide +kernel
theorem dd_mo_activate_1 : decode prog_7_method_32_code 1 = .ok (.aload_n 0, 1) := by decide +kernel
theorem dd_mo_activate_2 : decode prog_7_method_32_code 2 = .ok (.iload_n 1, 1) := by decide +kernel
theorem dd_mo_activate_3 : decode prog_7_method_32_code 3 = .ok (.invokevirtual 128, 3) := by decide +kernel
theorem dd_mo_activate_6 : decode prog_7_method_32_code 6 = .ok (.ifCond .eq 15, 3) := by decide +kernel
theorem dd_mo_activate_9 : decode prog_7_method_32_code 9 = .ok (.aload_n 0, 1) := by decide +kernel
theorem dd_mo_activate_10 : decode prog_7_method_32_code 10 = .ok (.iload_n 2, 1) := by decide +kernel
theorem dd_mo_activate_11 : decode prog_7_method_32_code 11 = .ok (.invokevirtual 90, 3) := by decide +kernel
theorem dd_mo_activate_14 : decode prog_7_method_32_code 14 = .ok (.ifCond .eq 7, 3) := by decide +kernel
theorem dd_mo_activate_17 : decode prog_7_method_32_code 17 = .ok (.iconst 1, 1) := by decide +kernel
theorem dd_mo_activate_18 : decode prog_7_method_32_code 18 = .ok (.goto 4, 3) := by decide +kernel
theorem dd_mo_activate_21 : decode prog_7_method_32_code 21 = .ok (.iconst 0, 1) := by decide +kernel
theorem dd_mo_activate_22 : decode prog_7_method_32_code 22 = .ok (.iconst 1, 1) := by decide +kernel
theorem dd_mo_activate_23 : decode prog_7_method_32_code 23 = .ok (.invokevirtual 86, 3) := by decide +kernel
theorem dd_mo_activate_26 : decode prog_7_method_32_code 26 = .ok (.ifCond .ne 5, 3) := by decide +kernel
theorem dd_mo_activate_29 : decode prog_7_method_32_code 29 = .ok (.iconst 0, 1) := by decide +kernel
theorem dd_mo_activate_30 : decode prog_7_method_32_code 30 = .ok (.ireturn, 1) := by decide +kernel
theorem dd_mo_activate_31 : decode prog_7_method_32_code 31 = .ok (.aload_n 0, 1) := by decide +kernel
theorem dd_mo_activate_32 : decode prog_7_method_32_code 32 = .ok (.getfield 38, 3) := by decide +kernel
theorem dd_mo_activate_35 : decode prog_7_method_32_code 35 = .ok (.iload_n 1, 1) := by decide +kernel
theorem dd_mo_activate_36 : decode prog_7_method_32_code 36 = .ok (.iaload, 1) := by decide +kernel
theorem dd_mo_activate_37 : decode prog_7_method_32_code 37 = .ok (.iconst 1, 1) := by decide +kernel
theorem dd_mo_activate_38 : decode prog_7_method_32_code 38 = .ok (.iload_n 2, 1) := by decide +kernel
theorem dd_mo_activate_39 : decode prog_7_method_32_code 39 = .ok (.ishl, 1) := by decide +kernel
theorem dd_mo_activate_40 : decode prog_7_method_32_code 40 = .ok (.ior, 1) := by decide +kernel
theorem dd_mo_activate_41 : decode prog_7_method_32_code 41 = .ok (.istore_n 3, 1) := by decide +kernel
theorem dd_mo_activate_42 : decode prog_7_method_32_code 42 = .ok (.aload_n 0, 1) := by decide +kernel
theorem dd_mo_activate_43 : decode prog_7_method_32_code 43 = .ok (.aload_n 0, 1) := by decide +kernel
theorem dd_mo_activate_44 : decode prog_7_method_32_code 44 = .ok (.aload_n 0, 1) := by decide +kernel
theorem dd_mo_activate_45 : decode prog_7_method_32_code 45 = .ok (.getfield 19, 3) := by decide +kernel
theorem dd_mo_activate_48 : decode prog_7_method_32_code 48 = .ok (.aload_n 0, 1) := by decide +kernel
theorem dd_mo_activate_49 : decode prog_7_method_32_code 49 = .ok (.getfield 35, 3) := by decide +kernel
theorem dd_mo_activate_52 : decode prog_7_method_32_code 52 = .ok (.iload_n 1, 1) := by decide +kernel
theorem dd_mo_activate_53 : decode prog_7_method_32_code 53 = .ok (.iaload, 1) := by decide +kernel
theorem dd_mo_activate_54 : decode prog_7_method_32_code 54 = .ok (.iaload, 1) := by decide +kernel
theorem dd_mo_activate_55 : decode prog_7_method_32_code 55 = .ok (.invokevirtual 75, 3) := by decide +kernel
theorem dd_mo_activate_58 : decode prog_7_method_32_code 58 = .ok (.iload_n 2, 1) := by decide +kernel
theorem dd_mo_activate_59 : decode prog_7_method_32_code 59 = .ok (.ishr, 1) := by decide +kernel
theorem dd_mo_activate_60 : decode prog_7_method_32_code 60 = .ok (.iconst 1, 1) := by decide +kernel
theorem dd_mo_activate_61 : decode prog_7_method_32_code 61 = .ok (.iand, 1) := by decide +kernel
theorem dd_mo_activate_62 : decode prog_7_method_32_code 62 = .ok (.iconst 1, 1) := by decide +kernel
theorem dd_mo_activate_63 : decode prog_7_method_32_code 63 = .ok (.if_icmp .ne 7, 3) := by decide +kernel
theorem dd_mo_activate_66 : decode prog_7_method_32_code 66 = .ok (.iconst 1, 1) := by decide +kernel
theorem dd_mo_activate_67 : decode prog_7_method_32_code 67 = .ok (.goto 4, 3) := by decide +kernel
theorem dd_mo_activate_70 : decode prog_7_method_32_code 70 = .ok (.iconst 0, 1) := by decide +kernel
theorem dd_mo_activate_71 : decode prog_7_method_32_code 71 = .ok (.iconst 2, 1) := by decide +kernel
theorem dd_mo_activate_72 : decode prog_7_method_32_code 72 = .ok (.invokevirtual 86, 3) := by decide +kernel
theorem dd_mo_activate_75 : decode prog_7_method_32_code 75 = .ok (.ifCond .eq 16, 3) := by decide +kernel
theorem dd_mo_activate_78 : decode prog_7_method_32_code 78 = .ok (.aload_n 0, 1) := by decide +kernel
theorem dd_mo_activate_79 : decode prog_7_method_32_code 79 = .ok (.aload_n 0, 1) := by decide +kernel
theorem dd_mo_activate_80 : decode prog_7_method_32_code 80 = .ok (.iload_n 3, 1) := by decide +kernel
theorem dd_mo_activate_81 : decode prog_7_method_32_code 81 = .ok (.invokevirtual 97, 3) := by decide +kernel
theorem dd_mo_activate_84 : decode prog_7_method_32_code 84 = .ok (.iconst 3, 1) := by decide +kernel
theorem dd_mo_activate_85 : decode prog_7_method_32_code 85 = .ok (.invokevirtual 86, 3) := by decide +kernel
theorem dd_mo_activate_88 : decode prog_7_method_32_code 88 = .ok (.ifCond .ne 5, 3) := by decide +kernel
theorem dd_mo_activate_91 : decode prog_7_method_32_code 91 = .ok (.iconst 0, 1) := by decide +kernel
theorem dd_mo_activate_92 : decode prog_7_method_32_code 92 = .ok (.ireturn, 1) := by decide +kernel
theorem dd_mo_activate_93 : decode prog_7_method_32_code 93 = .ok (.iload_n 3, 1) := by decide +kernel
theorem dd_mo_activate_94 : decode prog_7_method_32_code 94 = .ok (.aload_n 0, 1) := by decide +kernel
theorem dd_mo_activate_95 : decode prog_7_method_32_code 95 = .ok (.getfield 38, 3) := by decide +kernel
theorem dd_mo_activate_98 : decode prog_7_method_32_code 98 = .ok (.iload_n 1, 1) := by decide +kernel
theorem dd_mo_activate_99 : decode prog_7_method_32_code 99 = .ok (.iaload, 1) := by decide +kernel
theorem dd_mo_activate_100 : decode prog_7_method_32_code 100 = .ok (.if_icmp .eq 7, 3) := by decide +kernel
theorem dd_mo_activate_103 : decode prog_7_method_32_code 103 = .ok (.iconst 1, 1) := by decide +kernel
theorem dd_mo_activate_104 : decode prog_7_method_32_code 104 = .ok (.goto 4, 3) := by decide +kernel
theorem dd_mo_activate_107 : decode prog_7_method_32_code 107 = .ok (.iconst 0, 1) := by decide +kernel
theorem dd_mo_activate_108 : decode prog_7_method_32_code 108 = .ok (.istore 4, 2) := by decide +kernel
theorem dd_mo_activate_110 : decode prog_7_method_32_code 110 = .ok (.aload_n 0, 1) := by decide +kernel
theorem dd_mo_activate_111 : decode prog_7_method_32_code 111 = .ok (.getfield 38, 3) := by decide +kernel
theorem dd_mo_activate_114 : decode prog_7_method_32_code 114 = .ok (.iload_n 1, 1) := by decide +kernel
theorem dd_mo_activate_115 : decode prog_7_method_32_code 115 = .ok (.iload_n 3, 1) := by decide +kernel
theorem dd_mo_activate_116 : decode prog_7_method_32_code 116 = .ok (.iastore, 1) := by decide +kernel
theorem dd_mo_activate_117 : decode prog_7_method_32_code 117 = .ok (.iload 4, 2) := by decide +kernel
theorem dd_mo_activate_119 : decode prog_7_method_32_code 119 = .ok (.ireturn, 1) := by decide +kernel
theorem dd_mo_rest_0 : decode prog_7_method_33_code 0 = .ok (.aload_n 0, 1) := by decide +kernel
theorem dd_mo_rest_1 : decode prog_7_method_33_code 1 = .ok (.aload_n 0, 1) := by decide +kernel
theorem dd_mo_rest_2 : decode prog_7_method_33_code 2 = .ok (.iload_n 1, 1) := by decide +kernel
theorem dd_mo_rest_3 : decode prog_7_method_33_code 3 = .ok (.invokevirtual 128, 3) := by decide +kernel
theorem dd_mo_rest_6 : decode prog_7_method_33_code 6 = .ok (.ifCond .eq 15, 3) := by decide +kernel
theorem dd_mo_rest_9 : decode prog_7_method_33_code 9 = .ok (.aload_n 0, 1) := by decide +kernel
theorem dd_mo_rest_10 : decode prog_7_method_33_code 10 = .ok (.iload_n 2, 1) := by decide +kernel
theorem dd_mo_rest_11 : decode prog_7_method_33_code 11 = .ok (.invokevirtual 90, 3) := by decide +kernel
theorem dd_mo_rest_14 : decode prog_7_method_33_code 14 = .ok (.ifCond .eq 7, 3) := by decide +kernel
theorem dd_mo_rest_17 : decode prog_7_method_33_code 17 = .ok (.iconst 1, 1) := by decide +kernel
theorem dd_mo_rest_18 : decode prog_7_method_33_code 18 = .ok (.goto 4, 3) := by decide +kernel
theorem dd_mo_rest_21 : decode prog_7_method_33_code 21 = .ok (.iconst 0, 1) := by decide +kernel
theorem dd_mo_rest_22 : decode prog_7_method_33_code 22 = .ok (.iconst 1, 1) := by decide +kernel
theorem dd_mo_rest_23 : decode prog_7_method_33_code 23 = .ok (.invokevirtual 86, 3) := by decide +kernel
theorem dd_mo_rest_26 : decode prog_7_method_33_code 26 = .ok (.ifCond .ne 5, 3) := by decide +kernel
theorem dd_mo_rest_29 : decode prog_7_method_33_code 29 = .ok (.iconst 0, 1) := by decide +kernel
theorem dd_mo_rest_30 : decode prog_7_method_33_code 30 = .ok (.ireturn, 1) := by decide +kernel
theorem dd_mo_rest_31 : decode prog_7_method_33_code 31 = .ok (.aload_n 0, 1) := by decide +kernel
theorem dd_mo_rest_32 : decode prog_7_method_33_code 32 = .ok (.getfield 38, 3) := by decide +kernel
theorem dd_mo_rest_35 : decode prog_7_method_33_code 35 = .ok (.iload_n 1, 1) := by decide +kernel
theorem dd_mo_rest_36 : decode prog_7_method_33_code 36 = .ok (.iaload, 1) := by decide +kernel
theorem dd_mo_rest_37 : decode prog_7_method_33_code 37 = .ok (.iload_n 2, 1) := by decide +kernel
theorem dd_mo_rest_38 : decode prog_7_method_33_code 38 = .ok (.ishr, 1) := by decide +kernel
theorem dd_mo_rest_39 : decode prog_7_method_33_code 39 = .ok (.iconst 1, 1) := by decide +kernel
theorem dd_mo_rest_40 : decode prog_7_method_33_code 40 = .ok (.iand, 1) := by decide +kernel
theorem dd_mo_rest_41 : decode prog_7_method_33_code 41 = .ok (.iconst 1, 1) := by decide +kernel
theorem dd_mo_rest_42 : decode prog_7_method_33_code 42 = .ok (.if_icmp .ne 7, 3) := by decide +kernel
theorem dd_mo_rest_45 : decode prog_7_method_33_code 45 = .ok (.iconst 1, 1) := by decide +kernel
theorem dd_mo_rest_46 : decode prog_7_method_33_code 46 = .ok (.goto 4, 3) := by decide +kernel
theorem dd_mo_rest_49 : decode prog_7_method_33_code 49 = .ok (.iconst 0, 1) := by decide +kernel
theorem dd_mo_rest_50 : decode prog_7_method_33_code 50 = .ok (.istore_n 3, 1) := by decide +kernel
theorem dd_mo_rest_51 : decode prog_7_method_33_code 51 = .ok (.aload_n 0, 1) := by decide +kernel
theorem dd_mo_rest_52 : decode prog_7_method_33_code 52 = .ok (.getfield 38, 3) := by decide +kernel
theorem dd_mo_rest_55 : decode prog_7_method_33_code 55 = .ok (.iload_n 1, 1) := by decide +kernel
theorem dd_mo_rest_56 : decode prog_7_method_33_code 56 = .ok (.aload_n 0, 1) := by decide +kernel
theorem dd_mo_rest_57 : decode prog_7_method_33_code 57 = .ok (.getfield 38, 3) := by decide +kernel
theorem dd_mo_rest_60 : decode prog_7_method_33_code 60 = .ok (.iload_n 1, 1) := by decide +kernel
theorem dd_mo_rest_61 : decode prog_7_method_33_code 61 = .ok (.iaload, 1) := by decide +kernel
theorem dd_mo_rest_62 : decode prog_7_method_33_code 62 = .ok (.iconst 1, 1) := by decide +kernel
theorem dd_mo_rest_63 : decode prog_7_method_33_code 63 = .ok (.iload_n 2, 1) := by decide +kernel
theorem dd_mo_rest_64 : decode prog_7_method_33_code 64 = .ok (.ishl, 1) := by decide +kernel
theorem dd_mo_rest_65 : decode prog_7_method_33_code 65 = .ok (.iconst (-1), 1) := by decide +kernel
theorem dd_mo_rest_66 : decode prog_7_method_33_code 66 = .ok (.ixor, 1) := by decide +kernel
theorem dd_mo_rest_67 : decode prog_7_method_33_code 67 = .ok (.iand, 1) := by decide +kernel
theorem dd_mo_rest_68 : decode prog_7_method_33_code 68 = .ok (.iastore, 1) := by decide +kernel
theorem dd_mo_rest_69 : decode prog_7_method_33_code 69 = .ok (.iload_n 3, 1) := by decide +kernel
theorem dd_mo_rest_70 : decode prog_7_method_33_code 70 = .ok (.ireturn, 1) := by decide +kernel
theorem dd_mo_active_0 : decode prog_7_method_34_code 0 = .ok (.aload_n 0, 1) := by decide +kernel
theorem dd_mo_active_1 : decode prog_7_method_34_code 1 = .ok (.aload_n 0, 1) := by decide +kernel
theorem dd_mo_active_2 : decode prog_7_method_34_code 2 = .ok (.iload_n 1, 1) := by decide +kernel
theorem dd_mo_active_3 : decode prog_7_method_34_code 3 = .ok (.invokevirtual 128, 3) := by decide +kernel
theorem dd_mo_active_6 : decode prog_7_method_34_code 6 = .ok (.iconst 1, 1) := by decide +kernel
theorem dd_mo_active_7 : decode prog_7_method_34_code 7 = .ok (.invokevirtual 86, 3) := by decide +kernel
theorem dd_mo_active_10 : decode prog_7_method_34_code 10 = .ok (.ifCond .eq 12, 3) := by decide +kernel
theorem dd_mo_active_13 : decode prog_7_method_34_code 13 = .ok (.aload_n 0, 1) := by decide +kernel
theorem dd_mo_active_14 : decode prog_7_method_34_code 14 = .ok (.getfield 38, 3) := by decide +kernel
theorem dd_mo_active_17 : decode prog_7_method_34_code 17 = .ok (.iload_n 1, 1) := by decide +kernel
theorem dd_mo_active_18 : decode prog_7_method_34_code 18 = .ok (.iaload, 1) := by decide +kernel
theorem dd_mo_active_19 : decode prog_7_method_34_code 19 = .ok (.goto 4, 3) := by decide +kernel
theorem dd_mo_active_22 : decode prog_7_method_34_code 22 = .ok (.iconst 0, 1) := by decide +kernel
theorem dd_mo_active_23 : decode prog_7_method_34_code 23 = .ok (.ireturn, 1) := by decide +kernel
theorem dd_mo_may_0 : decode prog_7_method_35_code 0 = .ok (.aload_n 0, 1) := by decide +kernel
theorem dd_mo_may_1 : decode prog_7_method_35_code 1 = .ok (.aload_n 0, 1) := by decide +kernel
theorem dd_mo_may_2 : decode prog_7_method_35_code 2 = .ok (.iload_n 1, 1) := by decide +kernel
theorem dd_mo_may_3 : decode prog_7_method_35_code 3 = .ok (.invokevirtual 128, 3) := by decide +kernel
theorem dd_mo_may_6 : decode prog_7_method_35_code 6 = .ok (.ifCond .eq 17, 3) := by decide +kernel
theorem dd_mo_may_9 : decode prog_7_method_35_code 9 = .ok (.iload_n 2, 1) := by decide +kernel
theorem dd_mo_may_10 : decode prog_7_method_35_code 10 = .ok (.ifCond .lt 13, 3) := by decide +kernel
theorem dd_mo_may_13 : decode prog_7_method_35_code 13 = .ok (.iload_n 2, 1) := by decide +kernel
theorem dd_mo_may_14 : decode prog_7_method_35_code 14 = .ok (.bipush 30, 2) := by decide +kernel
theorem dd_mo_may_16 : decode prog_7_method_35_code 16 = .ok (.if_icmp .gt 7, 3) := by decide +kernel
theorem dd_mo_may_19 : decode prog_7_method_35_code 19 = .ok (.iconst 1, 1) := by decide +kernel
theorem dd_mo_may_20 : decode prog_7_method_35_code 20 = .ok (.goto 4, 3) := by decide +kernel
theorem dd_mo_may_23 : decode prog_7_method_35_code 23 = .ok (.iconst 0, 1) := by decide +kernel
theorem dd_mo_may_24 : decode prog_7_method_35_code 24 = .ok (.iconst 1, 1) := by decide +kernel
theorem dd_mo_may_25 : decode prog_7_method_35_code 25 = .ok (.invokevirtual 86, 3) := by decide +kernel
theorem dd_mo_may_28 : decode prog_7_method_35_code 28 = .ok (.ifCond .ne 5, 3) := by decide +kernel
theorem dd_mo_may_31 : decode prog_7_method_35_code 31 = .ok (.iconst 0, 1) := by decide +kernel
theorem dd_mo_may_32 : decode prog_7_method_35_code 32 = .ok (.ireturn, 1) := by decide +kernel
theorem dd_mo_may_33 : decode prog_7_method_35_code 33 = .ok (.aload_n 0, 1) := by decide +kernel
theorem dd_mo_may_34 : decode prog_7_method_35_code 34 = .ok (.aload_n 0, 1) := by decide +kernel
theorem dd_mo_may_35 : decode prog_7_method_35_code 35 = .ok (.getfield 38, 3) := by decide +kernel
theorem dd_mo_may_38 : decode prog_7_method_35_code 38 = .ok (.iload_n 1, 1) := by decide +kernel
theorem dd_mo_may_39 : decode prog_7_method_35_code 39 = .ok (.iaload, 1) := by decide +kernel
theorem dd_mo_may_40 : decode prog_7_method_35_code 40 = .ok (.invokevirtual 75, 3) := by decide +kernel
theorem dd_mo_may_43 : decode prog_7_method_35_code 43 = .ok (.istore_n 3, 1) := by decide +kernel
theorem dd_mo_may_44 : decode prog_7_method_35_code 44 = .ok (.iconst 0, 1) := by decide +kernel
theorem dd_mo_may_45 : decode prog_7_method_35_code 45 = .ok (.istore 4, 2) := by decide +kernel
theorem dd_mo_may_47 : decode prog_7_method_35_code 47 = .ok (.iconst 0, 1) := by decide +kernel
theorem dd_mo_may_48 : decode prog_7_method_35_code 48 = .ok (.istore 5, 2) := by decide +kernel
theorem dd_mo_may_50 : decode prog_7_method_35_code 50 = .ok (.iload 5, 2) := by decide +kernel
theorem dd_mo_may_52 : decode prog_7_method_35_code 52 = .ok (.aload_n 0, 1) := by decide +kernel
theorem dd_mo_may_53 : decode prog_7_method_35_code 53 = .ok (.getfield 69, 3) := by decide +kernel
theorem dd_mo_may_56 : decode prog_7_method_35_code 56 = .ok (.if_icmp .ge 46, 3) := by decide +kernel
theorem dd_mo_may_59 : decode prog_7_method_35_code 59 = .ok (.iload 4, 2) := by decide +kernel
theorem dd_mo_may_61 : decode prog_7_method_35_code 61 = .ok (.ifCond .ne 28, 3) := by decide +kernel
theorem dd_mo_may_64 : decode prog_7_method_35_code 64 = .ok (.iload_n 3, 1) := by decide +kernel
theorem dd_mo_may_65 : decode prog_7_method_35_code 65 = .ok (.iload 5, 2) := by decide +kernel
theorem dd_mo_may_67 : decode prog_7_method_35_code 67 = .ok (.ishr, 1) := by decide +kernel
theorem dd_mo_may_68 : decode prog_7_method_35_code 68 = .ok (.iconst 1, 1) := by decide +kernel
theorem dd_mo_may_69 : decode prog_7_method_35_code 69 = .ok (.iand, 1) := by decide +kernel
theorem dd_mo_may_70 : decode prog_7_method_35_code 70 = .ok (.iconst 1, 1) := by decide +kernel
theorem dd_mo_may_71 : decode prog_7_method_35_code 71 = .ok (.if_icmp .ne 22, 3) := by decide +kernel
theorem dd_mo_may_74 : decode prog_7_method_35_code 74 = .ok (.aload_n 0, 1) := by decide +kernel
theorem dd_mo_may_75 : decode prog_7_method_35_code 75 = .ok (.getfield 13, 3) := by decide +kernel
theorem dd_mo_may_78 : decode prog_7_method_35_code 78 = .ok (.iload 5, 2) := by decide +kernel
theorem dd_mo_may_80 : decode prog_7_method_35_code 80 = .ok (.iaload, 1) := by decide +kernel
theorem dd_mo_may_81 : decode prog_7_method_35_code 81 = .ok (.iload_n 2, 1) := by decide +kernel
theorem dd_mo_may_82 : decode prog_7_method_35_code 82 = .ok (.ishr, 1) := by decide +kernel
theorem dd_mo_may_83 : decode prog_7_method_35_code 83 = .ok (.iconst 1, 1) := by decide +kernel
theorem dd_mo_may_84 : decode prog_7_method_35_code 84 = .ok (.iand, 1) := by decide +kernel
theorem dd_mo_may_85 : decode prog_7_method_35_code 85 = .ok (.iconst 1, 1) := by decide +kernel
theorem dd_mo_may_86 : decode prog_7_method_35_code 86 = .ok (.if_icmp .ne 7, 3) := by decide +kernel
theorem dd_mo_may_89 : decode prog_7_method_35_code 89 = .ok (.iconst 1, 1) := by decide +kernel
theorem dd_mo_may_90 : decode prog_7_method_35_code 90 = .ok (.goto 4, 3) := by decide +kernel
theorem dd_mo_may_93 : decode prog_7_method_35_code 93 = .ok (.iconst 0, 1) := by decide +kernel
theorem dd_mo_may_94 : decode prog_7_method_35_code 94 = .ok (.istore 4, 2) := by decide +kernel
theorem dd_mo_may_96 : decode prog_7_method_35_code 96 = .ok (.iinc 5 1, 3) := by decide +kernel
theorem dd_mo_may_99 : decode prog_7_method_35_code 99 = .ok (.goto (-49), 3) := by decide +kernel
theorem dd_mo_may_102 : decode prog_7_method_35_code 102 = .ok (.iload 4, 2) := by decide +kernel
theorem dd_mo_may_104 : decode prog_7_method_35_code 104 = .ok (.ireturn, 1) := by decide +kernel
theorem dd_mo_distance_0 : decode prog_7_method_40_code 0 = .ok (.aload_n 0, 1) := by decide +kernel
theorem dd_mo_distance_1 : decode prog_7_method_40_code 1 = .ok (.aload_n 0, 1) := by decide +kernel
theorem dd_mo_distance_2 : decode prog_7_method_40_code 2 = .ok (.iload_n 1, 1) := by decide +kernel
theorem dd_mo_distance_3 : decode prog_7_method_40_code 3 = .ok (.invokevirtual 113, 3) := by decide +kernel
theorem dd_mo_distance_6 : decode prog_7_method_40_code 6 = .ok (.ifCond .eq 15, 3) := by decide +kernel
theorem dd_mo_distance_9 : decode prog_7_method_40_code 9 = .ok (.aload_n 0, 1) := by decide +kernel
theorem dd_mo_distance_10 : decode prog_7_method_40_code 10 = .ok (.iload_n 2, 1) := by decide +kernel
theorem dd_mo_distance_11 : decode prog_7_method_40_code 11 = .ok (.invokevirtual 90, 3) := by decide +kernel
theorem dd_mo_distance_14 : decode prog_7_method_40_code 14 = .ok (.ifCond .eq 7, 3) := by decide +kernel
theorem dd_mo_distance_17 : decode prog_7_method_40_code 17 = .ok (.iconst 1, 1) := by decide +kernel
theorem dd_mo_distance_18 : decode prog_7_method_40_code 18 = .ok (.goto 4, 3) := by decide +kernel
theorem dd_mo_distance_21 : decode prog_7_method_40_code 21 = .ok (.iconst 0, 1) := by decide +kernel
theorem dd_mo_distance_22 : decode prog_7_method_40_code 22 = .ok (.iconst 1, 1) := by decide +kernel
theorem dd_mo_distance_23 : decode prog_7_method_40_code 23 = .ok (.invokevirtual 86, 3) := by decide +kernel
theorem dd_mo_distance_26 : decode prog_7_method_40_code 26 = .ok (.ifCond .eq 30, 3) := by decide +kernel
theorem dd_mo_distance_29 : decode prog_7_method_40_code 29 = .ok (.aload_n 0, 1) := by decide +kernel
theorem dd_mo_distance_30 : decode prog_7_method_40_code 30 = .ok (.aload_n 0, 1) := by decide +kernel
theorem dd_mo_distance_31 : decode prog_7_method_40_code 31 = .ok (.getfield 72, 3) := by decide +kernel
theorem dd_mo_distance_34 : decode prog_7_method_40_code 34 = .ok (.aload_n 0, 1) := by decide +kernel
theorem dd_mo_distance_35 : decode prog_7_method_40_code 35 = .ok (.getfield 69, 3) := by decide +kernel
theorem dd_mo_distance_38 : decode prog_7_method_40_code 38 = .ok (.imul, 1) := by decide +kernel
theorem dd_mo_distance_39 : decode prog_7_method_40_code 39 = .ok (.bipush 12, 2) := by decide +kernel
theorem dd_mo_distance_41 : decode prog_7_method_40_code 41 = .ok (.if_icmp .gt 7, 3) := by decide +kernel
theorem dd_mo_distance_44 : decode prog_7_method_40_code 44 = .ok (.iconst 1, 1) := by decide +kernel
theorem dd_mo_distance_45 : decode prog_7_method_40_code 45 = .ok (.goto 4, 3) := by decide +kernel
theorem dd_mo_distance_48 : decode prog_7_method_40_code 48 = .ok (.iconst 0, 1) := by decide +kernel
theorem dd_mo_distance_49 : decode prog_7_method_40_code 49 = .ok (.iconst 2, 1) := by decide +kernel
theorem dd_mo_distance_50 : decode prog_7_method_40_code 50 = .ok (.invokevirtual 86, 3) := by decide +kernel
theorem dd_mo_distance_53 : decode prog_7_method_40_code 53 = .ok (.ifCond .ne 5, 3) := by decide +kernel
theorem dd_mo_distance_56 : decode prog_7_method_40_code 56 = .ok (.iconst 0, 1) := by decide +kernel
theorem dd_mo_distance_57 : decode prog_7_method_40_code 57 = .ok (.ireturn, 1) := by decide +kernel
theorem dd_mo_distance_58 : decode prog_7_method_40_code 58 = .ok (.aload_n 0, 1) := by decide +kernel
theorem dd_mo_distance_59 : decode prog_7_method_40_code 59 = .ok (.iload_n 1, 1) := by decide +kernel
theorem dd_mo_distance_60 : decode prog_7_method_40_code 60 = .ok (.iload_n 2, 1) := by decide +kernel
theorem dd_mo_distance_61 : decode prog_7_method_40_code 61 = .ok (.invokevirtual 148, 3) := by decide +kernel
theorem dd_mo_distance_64 : decode prog_7_method_40_code 64 = .ok (.aload_n 0, 1) := by decide +kernel
theorem dd_mo_distance_65 : decode prog_7_method_40_code 65 = .ok (.getfield 138, 3) := by decide +kernel
theorem dd_mo_distance_68 : decode prog_7_method_40_code 68 = .ok (.ireturn, 1) := by decide +kernel
