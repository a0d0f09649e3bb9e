/-! decode rows: printed by wip/whole/facts.py -/
theorem dd_mo_above_0 : decode prog_7_method_15_code 0 = .ok (.aload_n 0, 1) := by decide +kernel
theorem dd_mo_above_1 : decode prog_7_method_15_code 1 = .ok (.aload_n 0, 1) := by decide +kernel
theorem dd_mo_above_2 : decode prog_7_method_15_code 2 = .ok (.iload_n 1, 1) := by decide +kernel
theorem dd_mo_above_3 : decode prog_7_method_15_code 3 = .ok (.invokevirtual 90, 3) := by decide +kernel
theorem dd_mo_above_6 : decode prog_7_method_15_code 6 = .ok (.ifCond .eq 15, 3) := by decide +kernel
theorem dd_mo_above_9 : decode prog_7_method_15_code 9 = .ok (.aload_n 0, 1) := by decide +kernel
theorem dd_mo_above_10 : decode prog_7_method_15_code 10 = .ok (.iload_n 2, 1) := by decide +kernel
theorem dd_mo_above_11 : decode prog_7_method_15_code 11 = .ok (.invokevirtual 90, 3) := by decide +kernel
theorem dd_mo_above_14 : decode prog_7_method_15_code 14 = .ok (.ifCond .eq 7, 3) := by decide +kernel
theorem dd_mo_above_17 : decode prog_7_method_15_code 17 = .ok (.iconst 1, 1) := by decide +kernel
theorem dd_mo_above_18 : decode prog_7_method_15_code 18 = .ok (.goto 4, 3) := by decide +kernel
theorem dd_mo_above_21 : decode prog_7_method_15_code 21 = .ok (.iconst 0, 1) := by decide +kernel
theorem dd_mo_above_22 : decode prog_7_method_15_code 22 = .ok (.iconst 1, 1) := by decide +kernel
theorem dd_mo_above_23 : decode prog_7_method_15_code 23 = .ok (.invokevirtual 86, 3) := by decide +kernel
theorem dd_mo_above_26 : decode prog_7_method_15_code 26 = .ok (.ifCond .eq 34, 3) := by decide +kernel
theorem dd_mo_above_29 : decode prog_7_method_15_code 29 = .ok (.aload_n 0, 1) := by decide +kernel
theorem dd_mo_above_30 : decode prog_7_method_15_code 30 = .ok (.iload_n 1, 1) := by decide +kernel
theorem dd_mo_above_31 : decode prog_7_method_15_code 31 = .ok (.iload_n 2, 1) := by decide +kernel
theorem dd_mo_above_32 : decode prog_7_method_15_code 32 = .ok (.if_icmp .eq 20, 3) := by decide +kernel
theorem dd_mo_above_35 : decode prog_7_method_15_code 35 = .ok (.aload_n 0, 1) := by decide +kernel
theorem dd_mo_above_36 : decode prog_7_method_15_code 36 = .ok (.getfield 7, 3) := by decide +kernel
theorem dd_mo_above_39 : decode prog_7_method_15_code 39 = .ok (.iload_n 2, 1) := by decide +kernel
theorem dd_mo_above_40 : decode prog_7_method_15_code 40 = .ok (.iaload, 1) := by decide +kernel
theorem dd_mo_above_41 : decode prog_7_method_15_code 41 = .ok (.iload_n 1, 1) := by decide +kernel
theorem dd_mo_above_42 : decode prog_7_method_15_code 42 = .ok (.ishr, 1) := by decide +kernel
theorem dd_mo_above_43 : decode prog_7_method_15_code 43 = .ok (.iconst 1, 1) := by decide +kernel
theorem dd_mo_above_44 : decode prog_7_method_15_code 44 = .ok (.iand, 1) := by decide +kernel
theorem dd_mo_above_45 : decode prog_7_method_15_code 45 = .ok (.ifCond .ne 7, 3) := by decide +kernel
theorem dd_mo_above_48 : decode prog_7_method_15_code 48 = .ok (.iconst 1, 1) := by decide +kernel
theorem dd_mo_above_49 : decode prog_7_method_15_code 49 = .ok (.goto 4, 3) := by decide +kernel
theorem dd_mo_above_52 : decode prog_7_method_15_code 52 = .ok (.iconst 0, 1) := by decide +kernel
theorem dd_mo_above_53 : decode prog_7_method_15_code 53 = .ok (.iconst 2, 1) := by decide +kernel
theorem dd_mo_above_54 : decode prog_7_method_15_code 54 = .ok (.invokevirtual 86, 3) := by decide +kernel
theorem dd_mo_above_57 : decode prog_7_method_15_code 57 = .ok (.ifCond .ne 5, 3) := by decide +kernel
theorem dd_mo_above_60 : decode prog_7_method_15_code 60 = .ok (.iconst 0, 1) := by decide +kernel
theorem dd_mo_above_61 : decode prog_7_method_15_code 61 = .ok (.ireturn, 1) := by decide +kernel
theorem dd_mo_above_62 : decode prog_7_method_15_code 62 = .ok (.aload_n 0, 1) := by decide +kernel
theorem dd_mo_above_63 : decode prog_7_method_15_code 63 = .ok (.getfield 7, 3) := by decide +kernel
theorem dd_mo_above_66 : decode prog_7_method_15_code 66 = .ok (.iload_n 1, 1) := by decide +kernel
theorem dd_mo_above_67 : decode prog_7_method_15_code 67 = .ok (.iaload, 1) := by decide +kernel
theorem dd_mo_above_68 : decode prog_7_method_15_code 68 = .ok (.iload_n 2, 1) := by decide +kernel
theorem dd_mo_above_69 : decode prog_7_method_15_code 69 = .ok (.ishr, 1) := by decide +kernel
theorem dd_mo_above_70 : decode prog_7_method_15_code 70 = .ok (.iconst 1, 1) := by decide +kernel
theorem dd_mo_above_71 : decode prog_7_method_15_code 71 = .ok (.iand, 1) := by decide +kernel
theorem dd_mo_above_72 : decode prog_7_method_15_code 72 = .ok (.ifCond .ne 7, 3) := by decide +kernel
theorem dd_mo_above_75 : decode prog_7_method_15_code 75 = .ok (.iconst 1, 1) := by decide +kernel
theorem dd_mo_above_76 : decode prog_7_method_15_code 76 = .ok (.goto 4, 3) := by decide +kernel
theorem dd_mo_above_79 : decode prog_7_method_15_code 79 = .ok (.iconst 0, 1) := by decide +kernel
theorem dd_mo_above_80 : decode prog_7_method_15_code 80 = .ok (.istore_n 3, 1) := by decide +kernel
theorem dd_mo_above_81 : decode prog_7_method_15_code 81 = .ok (.iconst 0, 1) := by decide +kernel
theorem dd_mo_above_82 : decode prog_7_method_15_code 82 = .ok (.istore 4, 2) := by decide +kernel
theorem dd_mo_above_84 : decode prog_7_method_15_code 84 = .ok (.iload 4, 2) := by decide +kernel
theorem dd_mo_above_86 : decode prog_7_method_15_code 86 = .ok (.aload_n 0, 1) := by decide +kernel
theorem dd_mo_above_87 : decode prog_7_method_15_code 87 = .ok (.getfield 69, 3) := by decide +kernel
theorem dd_mo_above_90 : decode prog_7_method_15_code 90 = .ok (.if_icmp .ge 23, 3) := by decide +kernel
theorem dd_mo_above_93 : decode prog_7_method_15_code 93 = .ok (.aload_n 0, 1) := by decide +kernel
theorem dd_mo_above_94 : decode prog_7_method_15_code 94 = .ok (.getfield 16, 3) := by decide +kernel
theorem dd_mo_above_97 : decode prog_7_method_15_code 97 = .ok (.iload 4, 2) := by decide +kernel
theorem dd_mo_above_99 : decode prog_7_method_15_code 99 = .ok (.aload_n 0, 1) := by decide +kernel
theorem dd_mo_above_100 : decode prog_7_method_15_code 100 = .ok (.getfield 7, 3) := by decide +kernel
theorem dd_mo_above_103 : decode prog_7_method_15_code 103 = .ok (.iload 4, 2) := by decide +kernel
theorem dd_mo_above_105 : decode prog_7_method_15_code 105 = .ok (.iaload, 1) := by decide +kernel
theorem dd_mo_above_106 : decode prog_7_method_15_code 106 = .ok (.iastore, 1) := by decide +kernel
theorem dd_mo_above_107 : decode prog_7_method_15_code 107 = .ok (.iinc 4 1, 3) := by decide +kernel
theorem dd_mo_above_110 : decode prog_7_method_15_code 110 = .ok (.goto (-26), 3) := by decide +kernel
theorem dd_mo_above_113 : decode prog_7_method_15_code 113 = .ok (.iconst 0, 1) := by decide +kernel
theorem dd_mo_above_114 : decode prog_7_method_15_code 114 = .ok (.istore 4, 2) := by decide +kernel
theorem dd_mo_above_116 : decode prog_7_method_15_code 116 = .ok (.iload 4, 2) := by decide +kernel
theorem dd_mo_above_118 : decode prog_7_method_15_code 118 = .ok (.aload_n 0, 1) := by decide +kernel
theorem dd_mo_above_119 : decode prog_7_method_15_code 119 = .ok (.getfield 69, 3) := by decide +kernel
theorem dd_mo_above_122 : decode prog_7_method_15_code 122 = .ok (.if_icmp .ge 65, 3) := by decide +kernel
theorem dd_mo_above_125 : decode prog_7_method_15_code 125 = .ok (.aload_n 0, 1) := by decide +kernel
theorem dd_mo_above_126 : decode prog_7_method_15_code 126 = .ok (.getfield 7, 3) := by decide +kernel
theorem dd_mo_above_129 : decode prog_7_method_15_code 129 = .ok (.iload 4, 2) := by decide +kernel
theorem dd_mo_above_131 : decode prog_7_method_15_code 131 = .ok (.iload 4, 2) := by decide +kernel
theorem dd_mo_above_133 : decode prog_7_method_15_code 133 = .ok (.iload_n 1, 1) := by decide +kernel
theorem dd_mo_above_134 : decode prog_7_method_15_code 134 = .ok (.if_icmp .eq 18, 3) := by decide +kernel
theorem dd_mo_above_137 : decode prog_7_method_15_code 137 = .ok (.aload_n 0, 1) := by decide +kernel
theorem dd_mo_above_138 : decode prog_7_method_15_code 138 = .ok (.getfield 16, 3) := by decide +kernel
theorem dd_mo_above_141 : decode prog_7_method_15_code 141 = .ok (.iload 4, 2) := by decide +kernel
theorem dd_mo_above_143 : decode prog_7_method_15_code 143 = .ok (.iaload, 1) := by decide +kernel
theorem dd_mo_above_144 : decode prog_7_method_15_code 144 = .ok (.iload_n 1, 1) := by decide +kernel
theorem dd_mo_above_145 : decode prog_7_method_15_code 145 = .ok (.ishr, 1) := by decide +kernel
theorem dd_mo_above_146 : decode prog_7_method_15_code 146 = .ok (.iconst 1, 1) := by decide +kernel
theorem dd_mo_above_147 : decode prog_7_method_15_code 147 = .ok (.iand, 1) := by decide +kernel
theorem dd_mo_above_148 : decode prog_7_method_15_code 148 = .ok (.iconst 1, 1) := by decide +kernel
theorem dd_mo_above_149 : decode prog_7_method_15_code 149 = .ok (.if_icmp .ne 24, 3) := by decide +kernel
theorem dd_mo_above_152 : decode prog_7_method_15_code 152 = .ok (.aload_n 0, 1) := by decide +kernel
theorem dd_mo_above_153 : decode prog_7_method_15_code 153 = .ok (.getfield 16, 3) := by decide +kernel
theorem dd_mo_above_156 : decode prog_7_method_15_code 156 = .ok (.iload 4, 2) := by decide +kernel
theorem dd_mo_above_158 : decode prog_7_method_15_code 158 = .ok (.iaload, 1) := by decide +kernel
theorem dd_mo_above_159 : decode prog_7_method_15_code 159 = .ok (.iconst 1, 1) := by decide +kernel
theorem dd_mo_above_160 : decode prog_7_method_15_code 160 = .ok (.iload_n 2, 1) := by decide +kernel
theorem dd_mo_above_161 : decode prog_7_method_15_code 161 = .ok (.ishl, 1) := by decide +kernel
theorem dd_mo_above_162 : decode prog_7_method_15_code 162 = .ok (.ior, 1) := by decide +kernel
theorem dd_mo_above_163 : decode prog_7_method_15_code 163 = .ok (.aload_n 0, 1) := by decide +kernel
theorem dd_mo_above_164 : decode prog_7_method_15_code 164 = .ok (.getfield 16, 3) := by decide +kernel
theorem dd_mo_above_167 : decode prog_7_method_15_code 167 = .ok (.iload_n 2, 1) := by decide +kernel
theorem dd_mo_above_168 : decode prog_7_method_15_code 168 = .ok (.iaload, 1) := by decide +kernel
theorem dd_mo_above_169 : decode prog_7_method_15_code 169 = .ok (.ior, 1) := by decide +kernel
theorem dd_mo_above_170 : decode prog_7_method_15_code 170 = .ok (.goto 10, 3) := by decide +kernel
theorem dd_mo_above_173 : decode prog_7_method_15_code 173 = .ok (.aload_n 0, 1) := by decide +kernel
theorem dd_mo_above_174 : decode prog_7_method_15_code 174 = .ok (.getfield 16, 3) := by decide +kernel
theorem dd_mo_above_177 : decode prog_7_method_15_code 177 = .ok (.iload 4, 2) := by decide +kernel
theorem dd_mo_above_179 : decode prog_7_method_15_code 179 = .ok (.iaload, 1) := by decide +kernel
theorem dd_mo_above_180 : decode prog_7_method_15_code 180 = .ok (.iastore, 1) := by decide +kernel
theorem dd_mo_above_181 : decode prog_7_method_15_code 181 = .ok (.iinc 4 1, 3) := by decide +kernel
theorem dd_mo_above_184 : decode prog_7_method_15_code 184 = .ok (.goto (-68), 3) := by decide +kernel
theorem dd_mo_above_187 : decode prog_7_method_15_code 187 = .ok (.aload_n 0, 1) := by decide +kernel
theorem dd_mo_above_188 : decode prog_7_method_15_code 188 = .ok (.aload_n 0, 1) := by decide +kernel
theorem dd_mo_above_189 : decode prog_7_method_15_code 189 = .ok (.invokevirtual 93, 3) := by decide +kernel
theorem dd_mo_above_192 : decode prog_7_method_15_code 192 = .ok (.iconst 3, 1) := by decide +kernel
theorem dd_mo_above_193 : decode prog_7_method_15_code 193 = .ok (.invokevirtual 86, 3) := by decide +kernel
theorem dd_mo_above_196 : decode prog_7_method_15_code 196 = .ok (.ifCond .eq 5, 3) := by decide +kernel
theorem dd_mo_above_199 : decode prog_7_method_15_code 199 = .ok (.iload_n 3, 1) := by decide +kernel
theorem dd_mo_above_200 : decode prog_7_method_15_code 200 = .ok (.ireturn, 1) := by decide +kernel
theorem dd_mo_above_201 : decode prog_7_method_15_code 201 = .ok (.iconst 0, 1) := by decide +kernel
theorem dd_mo_above_202 : decode prog_7_method_15_code 202 = .ok (.istore 4, 2) := by decide +kernel
theorem dd_mo_above_204 : decode prog_7_method_15_code 204 = .ok (.iload 4, 2) := by decide +kernel
theorem dd_mo_above_206 : decode prog_7_method_15_code 206 = .ok (.aload_n 0, 1) := by decide +kernel
theorem dd_mo_above_207 : decode prog_7_method_15_code 207 = .ok (.getfield 69, 3) := by decide +kernel
theorem dd_mo_above_210 : decode prog_7_method_15_code 210 = .ok (.if_icmp .ge 23, 3) := by decide +kernel
theorem dd_mo_above_213 : decode prog_7_method_15_code 213 = .ok (.aload_n 0, 1) := by decide +kernel
theorem dd_mo_above_214 : decode prog_7_method_15_code 214 = .ok (.getfield 7, 3) := by decide +kernel
theorem dd_mo_above_217 : decode prog_7_method_15_code 217 = .ok (.iload 4, 2) := by decide +kernel
theorem dd_mo_above_219 : decode prog_7_method_15_code 219 = .ok (.aload_n 0, 1) := by decide +kernel
theorem dd_mo_above_220 : decode prog_7_method_15_code 220 = .ok (.getfield 16, 3) := by decide +kernel
theorem dd_mo_above_223 : decode prog_7_method_15_code 223 = .ok (.iload 4, 2) := by decide +kernel
theorem dd_mo_above_225 : decode prog_7_method_15_code 225 = .ok (.iaload, 1) := by decide +kernel
theorem dd_mo_above_226 : decode prog_7_method_15_code 226 = .ok (.iastore, 1) := by decide +kernel
theorem dd_mo_above_227 : decode prog_7_method_15_code 227 = .ok (.iinc 4 1, 3) := by decide +kernel
theorem dd_mo_above_230 : decode prog_7_method_15_code 230 = .ok (.goto (-26), 3) := by decide +kernel
theorem dd_mo_above_233 : decode prog_7_method_15_code 233 = .ok (.iconst 0, 1) := by decide +kernel
theorem dd_mo_above_234 : decode prog_7_method_15_code 234 = .ok (.ireturn, 1) := by decide +kernel
theorem dd_mo_isRole_0 : decode prog_7_method_4_code 0 = .ok (.iload_n 1, 1) := by decide +kernel
theorem dd_mo_isRole_1 : decode prog_7_method_4_code 1 = .ok (.ifCond .lt 15, 3) := by decide +kernel
theorem dd_mo_isRole_4 : decode prog_7_method_4_code 4 = .ok (.iload_n 1, 1) := by decide +kernel
theorem dd_mo_isRole_5 : decode prog_7_method_4_code 5 = .ok (.aload_n 0, 1) := by decide +kernel
theorem dd_mo_isRole_6 : decode prog_7_method_4_code 6 = .ok (.getfield 69, 3) := by decide +kernel
theorem dd_mo_isRole_9 : decode prog_7_method_4_code 9 = .ok (.if_icmp .ge 7, 3) := by decide +kernel
theorem dd_mo_isRole_12 : decode prog_7_method_4_code 12 = .ok (.iconst 1, 1) := by decide +kernel
theorem dd_mo_isRole_13 : decode prog_7_method_4_code 13 = .ok (.goto 4, 3) := by decide +kernel
theorem dd_mo_isRole_16 : decode prog_7_method_4_code 16 = .ok (.iconst 0, 1) := by decide +kernel
theorem dd_mo_isRole_17 : decode prog_7_method_4_code 17 = .ok (.ireturn, 1) := by decide +kernel
theorem dd_mo_allStaticKept_0 : decode prog_7_method_10_code 0 = .ok (.iconst 1, 1) := by decide +kernel
theorem dd_mo_allStaticKept_1 : decode prog_7_method_10_code 1 = .ok (.istore_n 1, 1) := by decide +kernel
theorem dd_mo_allStaticKept_2 : decode prog_7_method_10_code 2 = .ok (.iconst 0, 1) := by decide +kernel
theorem dd_mo_allStaticKept_3 : decode prog_7_method_10_code 3 = .ok (.istore_n 2, 1) := by decide +kernel
theorem dd_mo_allStaticKept_4 : decode prog_7_method_10_code 4 = .ok (.iload_n 2, 1) := by decide +kernel
theorem dd_mo_allStaticKept_5 : decode prog_7_method_10_code 5 = .ok (.aload_n 0, 1) := by decide +kernel
theorem dd_mo_allStaticKept_6 : decode prog_7_method_10_code 6 = .ok (.getfield 72, 3) := by decide +kernel
theorem dd_mo_allStaticKept_9 : decode prog_7_method_10_code 9 = .ok (.if_icmp .ge 32, 3) := by decide +kernel
theorem dd_mo_allStaticKept_12 : decode prog_7_method_10_code 12 = .ok (.iload_n 1, 1) := by decide +kernel
theorem dd_mo_allStaticKept_13 : decode prog_7_method_10_code 13 = .ok (.ifCond .eq 20, 3) := by decide +kernel
theorem dd_mo_allStaticKept_16 : decode prog_7_method_10_code 16 = .ok (.aload_n 0, 1) := by decide +kernel
theorem dd_mo_allStaticKept_17 : decode prog_7_method_10_code 17 = .ok (.aload_n 0, 1) := by decide +kernel
theorem dd_mo_allStaticKept_18 : decode prog_7_method_10_code 18 = .ok (.getfield 19, 3) := by decide +kernel
theorem dd_mo_allStaticKept_21 : decode prog_7_method_10_code 21 = .ok (.iload_n 2, 1) := by decide +kernel
theorem dd_mo_allStaticKept_22 : decode prog_7_method_10_code 22 = .ok (.iaload, 1) := by decide +kernel
theorem dd_mo_allStaticKept_23 : decode prog_7_method_10_code 23 = .ok (.invokevirtual 82, 3) := by decide +kernel
theorem dd_mo_allStaticKept_26 : decode prog_7_method_10_code 26 = .ok (.ifCond .eq 7, 3) := by decide +kernel
theorem dd_mo_allStaticKept_29 : decode prog_7_method_10_code 29 = .ok (.iconst 1, 1) := by decide +kernel
theorem dd_mo_allStaticKept_30 : decode prog_7_method_10_code 30 = .ok (.goto 4, 3) := by decide +kernel
theorem dd_mo_allStaticKept_33 : decode prog_7_method_10_code 33 = .ok (.iconst 0, 1) := by decide +kernel
theorem dd_mo_allStaticKept_34 : decode prog_7_method_10_code 34 = .ok (.istore_n 1, 1) := by decide +kernel
theorem dd_mo_allStaticKept_35 : decode prog_7_method_10_code 35 = .ok (.iinc 2 1, 3) := by decide +kernel
theorem dd_mo_allStaticKept_38 : decode prog_7_method_10_code 38 = .ok (.goto (-34), 3) := by decide +kernel
theorem dd_mo_allStaticKept_41 : decode prog_7_method_10_code 41 = .ok (.iload_n 1, 1) := by decide +kernel
theorem dd_mo_allStaticKept_42 : decode prog_7_method_10_code 42 = .ok (.ireturn, 1) := by decide +kernel
theorem dd_mo_staticKept_0 : decode prog_7_method_9_code 0 = .ok (.aload_n 0, 1) := by decide +kernel
theorem dd_mo_staticKept_1 : decode prog_7_method_9_code 1 = .ok (.iload_n 1, 1) := by decide +kernel
theorem dd_mo_staticKept_2 : decode prog_7_method_9_code 2 = .ok (.invokevirtual 75, 3) := by decide +kernel
theorem dd_mo_staticKept_5 : decode prog_7_method_9_code 5 = .ok (.istore_n 2, 1) := by decide +kernel
theorem dd_mo_staticKept_6 : decode prog_7_method_9_code 6 = .ok (.iconst 1, 1) := by decide +kernel
theorem dd_mo_staticKept_7 : decode prog_7_method_9_code 7 = .ok (.istore_n 3, 1) := by decide +kernel
theorem dd_mo_staticKept_8 : decode prog_7_method_9_code 8 = .ok (.iconst 0, 1) := by decide +kernel
theorem dd_mo_staticKept_9 : decode prog_7_method_9_code 9 = .ok (.istore 4, 2) := by decide +kernel
theorem dd_mo_staticKept_11 : decode prog_7_method_9_code 11 = .ok (.iload 4, 2) := by decide +kernel
theorem dd_mo_staticKept_13 : decode prog_7_method_9_code 13 = .ok (.aload_n 0, 1) := by decide +kernel
theorem dd_mo_staticKept_14 : decode prog_7_method_9_code 14 = .ok (.getfield 22, 3) := by decide +kernel
theorem dd_mo_staticKept_17 : decode prog_7_method_9_code 17 = .ok (.iconst 0, 1) := by decide +kernel
theorem dd_mo_staticKept_18 : decode prog_7_method_9_code 18 = .ok (.iaload, 1) := by decide +kernel
theorem dd_mo_staticKept_19 : decode prog_7_method_9_code 19 = .ok (.if_icmp .ge 41, 3) := by decide +kernel
theorem dd_mo_staticKept_22 : decode prog_7_method_9_code 22 = .ok (.iload_n 3, 1) := by decide +kernel
theorem dd_mo_staticKept_23 : decode prog_7_method_9_code 23 = .ok (.ifCond .eq 29, 3) := by decide +kernel
theorem dd_mo_staticKept_26 : decode prog_7_method_9_code 26 = .ok (.iload_n 2, 1) := by decide +kernel
theorem dd_mo_staticKept_27 : decode prog_7_method_9_code 27 = .ok (.aload_n 0, 1) := by decide +kernel
theorem dd_mo_staticKept_28 : decode prog_7_method_9_code 28 = .ok (.getfield 25, 3) := by decide +kernel
theorem dd_mo_staticKept_31 : decode prog_7_method_9_code 31 = .ok (.iload 4, 2) := by decide +kernel
theorem dd_mo_staticKept_33 : decode prog_7_method_9_code 33 = .ok (.iaload, 1) := by decide +kernel
theorem dd_mo_staticKept_34 : decode prog_7_method_9_code 34 = .ok (.iand, 1) := by decide +kernel
theorem dd_mo_staticKept_35 : decode prog_7_method_9_code 35 = .ok (.invokestatic 79, 3) := by decide +kernel
theorem dd_mo_staticKept_38 : decode prog_7_method_9_code 38 = .ok (.aload_n 0, 1) := by decide +kernel
theorem dd_mo_staticKept_39 : decode prog_7_method_9_code 39 = .ok (.getfield 28, 3) := by decide +kernel
theorem dd_mo_staticKept_42 : decode prog_7_method_9_code 42 = .ok (.iload 4, 2) := by decide +kernel
theorem dd_mo_staticKept_44 : decode prog_7_method_9_code 44 = .ok (.iaload, 1) := by decide +kernel
theorem dd_mo_staticKept_45 : decode prog_7_method_9_code 45 = .ok (.if_icmp .ge 7, 3) := by decide +kernel
theorem dd_mo_staticKept_48 : decode prog_7_method_9_code 48 = .ok (.iconst 1, 1) := by decide +kernel
theorem dd_mo_staticKept_49 : decode prog_7_method_9_code 49 = .ok (.goto 4, 3) := by decide +kernel
theorem dd_mo_staticKept_52 : decode prog_7_method_9_code 52 = .ok (.iconst 0, 1) := by decide +kernel
theorem dd_mo_staticKept_53 : decode prog_7_method_9_code 53 = .ok (.istore_n 3, 1) := by decide +kernel
theorem dd_mo_staticKept_54 : decode prog_7_method_9_code 54 = .ok (.iinc 4 1, 3) := by decide +kernel
theorem dd_mo_staticKept_57 : decode prog_7_method_9_code 57 = .ok (.goto (-46), 3) := by decide +kernel
theorem dd_mo_staticKept_60 : decode prog_7_method_9_code 60 = .ok (.iload_n 3, 1) := by decide +kernel
theorem dd_mo_staticKept_61 : decode prog_7_method_9_code 61 = .ok (.ireturn, 1) := by decide +kernel
theorem dd_mo_closed_0 : decode prog_7_method_8_code 0 = .ok (.iload_n 1, 1) := by decide +kernel
theorem dd_mo_closed_1 : decode prog_7_method_8_code 1 = .ok (.istore_n 2, 1) := by decide +kernel
theorem dd_mo_closed_2 : decode prog_7_method_8_code 2 = .ok (.iconst 0, 1) := by decide +kernel
theorem dd_mo_closed_3 : decode prog_7_method_8_code 3 = .ok (.istore_n 3, 1) := by decide +kernel
theorem dd_mo_closed_4 : decode prog_7_method_8_code 4 = .ok (.iload_n 3, 1) := by decide +kernel
theorem dd_mo_closed_5 : decode prog_7_method_8_code 5 = .ok (.aload_n 0, 1) := by decide +kernel
theorem dd_mo_closed_6 : decode prog_7_method_8_code 6 = .ok (.getfield 69, 3) := by decide +kernel
theorem dd_mo_closed_9 : decode prog_7_method_8_code 9 = .ok (.if_icmp .ge 31, 3) := by decide +kernel
theorem dd_mo_closed_12 : decode prog_7_method_8_code 12 = .ok (.iload_n 1, 1) := by decide +kernel
theorem dd_mo_closed_13 : decode prog_7_method_8_code 13 = .ok (.iload_n 3, 1) := by decide +kernel
theorem dd_mo_closed_14 : decode prog_7_method_8_code 14 = .ok (.ishr, 1) := by decide +kernel
theorem dd_mo_closed_15 : decode prog_7_method_8_code 15 = .ok (.iconst 1, 1) := by decide +kernel
theorem dd_mo_closed_16 : decode prog_7_method_8_code 16 = .ok (.iand, 1) := by decide +kernel
theorem dd_mo_closed_17 : decode prog_7_method_8_code 17 = .ok (.iconst 1, 1) := by decide +kernel
theorem dd_mo_closed_18 : decode prog_7_method_8_code 18 = .ok (.if_icmp .ne 14, 3) := by decide +kernel
theorem dd_mo_closed_21 : decode prog_7_method_8_code 21 = .ok (.iload_n 2, 1) := by decide +kernel
theorem dd_mo_closed_22 : decode prog_7_method_8_code 22 = .ok (.aload_n 0, 1) := by decide +kernel
theorem dd_mo_closed_23 : decode prog_7_method_8_code 23 = .ok (.getfield 7, 3) := by decide +kernel
theorem dd_mo_closed_26 : decode prog_7_method_8_code 26 = .ok (.iload_n 3, 1) := by decide +kernel
theorem dd_mo_closed_27 : decode prog_7_method_8_code 27 = .ok (.iaload, 1) := by decide +kernel
theorem dd_mo_closed_28 : decode prog_7_method_8_code 28 = .ok (.ior, 1) := by decide +kernel
theorem dd_mo_closed_29 : decode prog_7_method_8_code 29 = .ok (.goto 4, 3) := by decide +kernel
theorem dd_mo_closed_32 : decode prog_7_method_8_code 32 = .ok (.iload_n 2, 1) := by decide +kernel
theorem dd_mo_closed_33 : decode prog_7_method_8_code 33 = .ok (.istore_n 2, 1) := by decide +kernel
theorem dd_mo_closed_34 : decode prog_7_method_8_code 34 = .ok (.iinc 3 1, 3) := by decide +kernel
theorem dd_mo_closed_37 : decode prog_7_method_8_code 37 = .ok (.goto (-33), 3) := by decide +kernel
theorem dd_mo_closed_40 : decode prog_7_method_8_code 40 = .ok (.iload_n 2, 1) := by decide +kernel
theorem dd_mo_closed_41 : decode prog_7_method_8_code 41 = .ok (.ireturn, 1) := by decide +kernel
theorem dd_mo_count_0 : decode prog_7_method_7_code 0 = .ok (.iconst 0, 1) := by decide +kernel
theorem dd_mo_count_1 : decode prog_7_method_7_code 1 = .ok (.istore_n 1, 1) := by decide +kernel
theorem dd_mo_count_2 : decode prog_7_method_7_code 2 = .ok (.iconst 0, 1) := by decide +kernel
theorem dd_mo_count_3 : decode prog_7_method_7_code 3 = .ok (.istore_n 2, 1) := by decide +kernel
theorem dd_mo_count_4 : decode prog_7_method_7_code 4 = .ok (.iload_n 2, 1) := by decide +kernel
theorem dd_mo_count_5 : decode prog_7_method_7_code 5 = .ok (.bipush 31, 2) := by decide +kernel
theorem dd_mo_count_7 : decode prog_7_method_7_code 7 = .ok (.if_icmp .ge 17, 3) := by decide +kernel
theorem dd_mo_count_10 : decode prog_7_method_7_code 10 = .ok (.iload_n 1, 1) := by decide +kernel
theorem dd_mo_count_11 : decode prog_7_method_7_code 11 = .ok (.iload_n 0, 1) := by decide +kernel
theorem dd_mo_count_12 : decode prog_7_method_7_code 12 = .ok (.iload_n 2, 1) := by decide +kernel
theorem dd_mo_count_13 : decode prog_7_method_7_code 13 = .ok (.ishr, 1) := by decide +kernel
theorem dd_mo_count_14 : decode prog_7_method_7_code 14 = .ok (.iconst 1, 1) := by decide +kernel
theorem dd_mo_count_15 : decode prog_7_method_7_code 15 = .ok (.iand, 1) := by decide +kernel
theorem dd_mo_count_16 : decode prog_7_method_7_code 16 = .ok (.iadd, 1) := by decide +kernel
theorem dd_mo_count_17 : decode prog_7_method_7_code 17 = .ok (.istore_n 1, 1) := by decide +kernel
theorem dd_mo_count_18 : decode prog_7_method_7_code 18 = .ok (.iinc 2 1, 3) := by decide +kernel
theorem dd_mo_count_21 : decode prog_7_method_7_code 21 = .ok (.goto (-17), 3) := by decide +kernel
theorem dd_mo_count_24 : decode prog_7_method_7_code 24 = .ok (.iload_n 1, 1) := by decide +kernel
theorem dd_mo_count_25 : decode prog_7_method_7_code 25 = .ok (.ireturn, 1) := by decide +kernel
theorem dd_mo_grant_0 : decode prog_7_method_16_code 0 = .ok (.aload_n 0, 1) := by decide +kernel
theorem dd_mo_grant_1 : decode prog_7_method_16_code 1 = .ok (.aload_n 0, 1) := by decide +kernel
theorem dd_mo_grant_2 : decode prog_7_method_16_code 2 = .ok (.iload_n 1, 1) := by decide +kernel
theorem dd_mo_grant_3 : decode prog_7_method_16_code 3 = .ok (.invokevirtual 90, 3) := by decide +kernel
theorem dd_mo_grant_6 : decode prog_7_method_16_code 6 = .ok (.ifCond .eq 17, 3) := by decide +kernel
theorem dd_mo_grant_9 : decode prog_7_method_16_code 9 = .ok (.iload_n 2, 1) := by decide +kernel
theorem dd_mo_grant_10 : decode prog_7_method_16_code 10 = .ok (.ifCond .lt 13, 3) := by decide +kernel
theorem dd_mo_grant_13 : decode prog_7_method_16_code 13 = .ok (.iload_n 2, 1) := by decide +kernel
theorem dd_mo_grant_14 : decode prog_7_method_16_code 14 = .ok (.bipush 30, 2) := by decide +kernel
theorem dd_mo_grant_16 : decode prog_7_method_16_code 16 = .ok (.if_icmp .gt 7, 3) := by decide +kernel
theorem dd_mo_grant_19 : decode prog_7_method_16_code 19 = .ok (.iconst 1, 1) := by decide +kernel
theorem dd_mo_grant_20 : decode prog_7_method_16_code 20 = .ok (.goto 4, 3) := by decide +kernel
theorem dd_mo_grant_23 : decode prog_7_method_16_code 23 = .ok (.iconst 0, 1) := by decide +kernel
theorem dd_mo_grant_24 : decode prog_7_method_16_code 24 = .ok (.iconst 1, 1) := by decide +kernel
theorem dd_mo_grant_25 : decode prog_7_method_16_code 25 = .ok (.invokevirtual 86, 3) := by decide +kernel
theorem dd_mo_grant_28 : decode prog_7_method_16_code 28 = .ok (.ifCond .ne 5, 3) := by decide +kernel
theorem dd_mo_grant_31 : decode prog_7_method_16_code 31 = .ok (.iconst 0, 1) := by decide +kernel
theorem dd_mo_grant_32 : decode prog_7_method_16_code 32 = .ok (.ireturn, 1) := by decide +kernel
theorem dd_mo_grant_33 : decode prog_7_method_16_code 33 = .ok (.aload_n 0, 1) := by decide +kernel
theorem dd_mo_grant_34 : decode prog_7_method_16_code 34 = .ok (.getfield 13, 3) := by decide +kernel
theorem dd_mo_grant_37 : decode prog_7_method_16_code 37 = .ok (.iload_n 1, 1) := by decide +kernel
theorem dd_mo_grant_38 : decode prog_7_method_16_code 38 = .ok (.iaload, 1) := by decide +kernel
theorem dd_mo_grant_39 : decode prog_7_method_16_code 39 = .ok (.iload_n 2, 1) := by decide +kernel
theorem dd_mo_grant_40 : decode prog_7_method_16_code 40 = .ok (.ishr, 1) := by decide +kernel
theorem dd_mo_grant_41 : decode prog_7_method_16_code 41 = .ok (.iconst 1, 1) := by decide +kernel
theorem dd_mo_grant_42 : decode prog_7_method_16_code 42 = .ok (.iand, 1) := by decide +kernel
theorem dd_mo_grant_43 : decode prog_7_method_16_code 43 = .ok (.ifCond .ne 7, 3) := by decide +kernel
theorem dd_mo_grant_46 : decode prog_7_method_16_code 46 = .ok (.iconst 1, 1) := by decide +kernel
theorem dd_mo_grant_47 : decode prog_7_method_16_code 47 = .ok (.goto 4, 3) := by decide +kernel
theorem dd_mo_grant_50 : decode prog_7_method_16_code 50 = .ok (.iconst 0, 1) := by decide +kernel
theorem dd_mo_grant_51 : decode prog_7_method_16_code 51 = .ok (.istore_n 3, 1) := by decide +kernel
theorem dd_mo_grant_52 : decode prog_7_method_16_code 52 = .ok (.aload_n 0, 1) := by decide +kernel
theorem dd_mo_grant_53 : decode prog_7_method_16_code 53 = .ok (.getfield 13, 3) := by decide +kernel
theorem dd_mo_grant_56 : decode prog_7_method_16_code 56 = .ok (.iload_n 1, 1) := by decide +kernel
theorem dd_mo_grant_57 : decode prog_7_method_16_code 57 = .ok (.aload_n 0, 1) := by decide +kernel
theorem dd_mo_grant_58 : decode prog_7_method_16_code 58 = .ok (.getfield 13, 3) := by decide +kernel
theorem dd_mo_grant_61 : decode prog_7_method_16_code 61 = .ok (.iload_n 1, 1) := by decide +kernel
theorem dd_mo_grant_62 : decode prog_7_method_16_code 62 = .ok (.iaload, 1) := by decide +kernel
theorem dd_mo_grant_63 : decode prog_7_method_16_code 63 = .ok (.iconst 1, 1) := by decide +kernel
theorem dd_mo_grant_64 : decode prog_7_method_16_code 64 = .ok (.iload_n 2, 1) := by decide +kernel
theorem dd_mo_grant_65 : decode prog_7_method_16_code 65 = .ok (.ishl, 1) := by decide +kernel
theorem dd_mo_grant_66 : decode prog_7_method_16_code 66 = .ok (.ior, 1) := by decide +kernel
theorem dd_mo_grant_67 : decode prog_7_method_16_code 67 = .ok (.iastore, 1) := by decide +kernel
theorem dd_mo_grant_68 : decode prog_7_method_16_code 68 = .ok (.iload_n 3, 1) := by decide +kernel
theorem dd_mo_grant_69 : decode prog_7_method_16_code 69 = .ok (.ireturn, 1) := by decide +kernel
theorem dd_mo_limit_0 : decode prog_7_method_17_code 0 = .ok (.iload_n 1, 1) := by decide +kernel
theorem dd_mo_limit_1 : decode prog_7_method_17_code 1 = .ok (.ifCond .eq 7, 3) := by decide +kernel
theorem dd_mo_limit_4 : decode prog_7_method_17_code 4 = .ok (.iconst 1, 1) := by decide +kernel
theorem dd_mo_limit_5 : decode prog_7_method_17_code 5 = .ok (.goto 4, 3) := by decide +kernel
theorem dd_mo_limit_8 : decode prog_7_method_17_code 8 = .ok (.iconst 0, 1) := by decide +kernel
theorem dd_mo_limit_9 : decode prog_7_method_17_code 9 = .ok (.istore 4, 2) := by decide +kernel
theorem dd_mo_limit_11 : decode prog_7_method_17_code 11 = .ok (.aload_n 0, 1) := by decide +kernel
theorem dd_mo_limit_12 : decode prog_7_method_17_code 12 = .ok (.iload_n 3, 1) := by decide +kernel
theorem dd_mo_limit_13 : decode prog_7_method_17_code 13 = .ok (.iconst 2, 1) := by decide +kernel
theorem dd_mo_limit_14 : decode prog_7_method_17_code 14 = .ok (.if_icmp .lt 17, 3) := by decide +kernel
theorem dd_mo_limit_17 : decode prog_7_method_17_code 17 = .ok (.iload_n 2, 1) := by decide +kernel
theorem dd_mo_limit_18 : decode prog_7_method_17_code 18 = .ok (.ifCond .lt 13, 3) := by decide +kernel
theorem dd_mo_limit_21 : decode prog_7_method_17_code 21 = .ok (.iload_n 2, 1) := by decide +kernel
theorem dd_mo_limit_22 : decode prog_7_method_17_code 22 = .ok (.bipush 63, 2) := by decide +kernel
theorem dd_mo_limit_24 : decode prog_7_method_17_code 24 = .ok (.if_icmp .gt 7, 3) := by decide +kernel
theorem dd_mo_limit_27 : decode prog_7_method_17_code 27 = .ok (.iconst 1, 1) := by decide +kernel
theorem dd_mo_limit_28 : decode prog_7_method_17_code 28 = .ok (.goto 4, 3) := by decide +kernel
theorem dd_mo_limit_31 : decode prog_7_method_17_code 31 = .ok (.iconst 0, 1) := by decide +kernel
theorem dd_mo_limit_32 : decode prog_7_method_17_code 32 = .ok (.iconst 1, 1) := by decide +kernel
theorem dd_mo_limit_33 : decode prog_7_method_17_code 33 = .ok (.invokevirtual 86, 3) := by decide +kernel
theorem dd_mo_limit_36 : decode prog_7_method_17_code 36 = .ok (.ifCond .eq 27, 3) := by decide +kernel
theorem dd_mo_limit_39 : decode prog_7_method_17_code 39 = .ok (.aload_n 0, 1) := by decide +kernel
theorem dd_mo_limit_40 : decode prog_7_method_17_code 40 = .ok (.aload_n 0, 1) := by decide +kernel
theorem dd_mo_limit_41 : decode prog_7_method_17_code 41 = .ok (.getfield 22, 3) := by decide +kernel
theorem dd_mo_limit_44 : decode prog_7_method_17_code 44 = .ok (.iload 4, 2) := by decide +kernel
theorem dd_mo_limit_46 : decode prog_7_method_17_code 46 = .ok (.iaload, 1) := by decide +kernel
theorem dd_mo_limit_47 : decode prog_7_method_17_code 47 = .ok (.iconst 4, 1) := by decide +kernel
theorem dd_mo_limit_48 : decode prog_7_method_17_code 48 = .ok (.if_icmp .ge 7, 3) := by decide +kernel
theorem dd_mo_limit_51 : decode prog_7_method_17_code 51 = .ok (.iconst 1, 1) := by decide +kernel
theorem dd_mo_limit_52 : decode prog_7_method_17_code 52 = .ok (.goto 4, 3) := by decide +kernel
theorem dd_mo_limit_55 : decode prog_7_method_17_code 55 = .ok (.iconst 0, 1) := by decide +kernel
theorem dd_mo_limit_56 : decode prog_7_method_17_code 56 = .ok (.iconst 2, 1) := by decide +kernel
theorem dd_mo_limit_57 : decode prog_7_method_17_code 57 = .ok (.invokevirtual 86, 3) := by decide +kernel
theorem dd_mo_limit_60 : decode prog_7_method_17_code 60 = .ok (.ifCond .ne 4, 3) := by decide +kernel
theorem dd_mo_limit_63 : decode prog_7_method_17_code 63 = .ok (.return_, 1) := by decide +kernel
theorem dd_mo_limit_64 : decode prog_7_method_17_code 64 = .ok (.iconst 4, 1) := by decide +kernel
theorem dd_mo_limit_65 : decode prog_7_method_17_code 65 = .ok (.iload 4, 2) := by decide +kernel
theorem dd_mo_limit_67 : decode prog_7_method_17_code 67 = .ok (.imul, 1) := by decide +kernel
theorem dd_mo_limit_68 : decode prog_7_method_17_code 68 = .ok (.aload_n 0, 1) := by decide +kernel
theorem dd_mo_limit_69 : decode prog_7_method_17_code 69 = .ok (.getfield 22, 3) := by decide +kernel
theorem dd_mo_limit_72 : decode prog_7_method_17_code 72 = .ok (.iload 4, 2) := by decide +kernel
theorem dd_mo_limit_74 : decode prog_7_method_17_code 74 = .ok (.iaload, 1) := by decide +kernel
theorem dd_mo_limit_75 : decode prog_7_method_17_code 75 = .ok (.iadd, 1) := by decide +kernel
theorem dd_mo_limit_76 : decode prog_7_method_17_code 76 = .ok (.istore 5, 2) := by decide +kernel
theorem dd_mo_limit_78 : decode prog_7_method_17_code 78 = .ok (.aload_n 0, 1) := by decide +kernel
theorem dd_mo_limit_79 : decode prog_7_method_17_code 79 = .ok (.getfield 25, 3) := by decide +kernel
theorem dd_mo_limit_82 : decode prog_7_method_17_code 82 = .ok (.iload 5, 2) := by decide +kernel
theorem dd_mo_limit_84 : decode prog_7_method_17_code 84 = .ok (.iload_n 2, 1) := by decide +kernel
theorem dd_mo_limit_85 : decode prog_7_method_17_code 85 = .ok (.iastore, 1) := by decide +kernel
theorem dd_mo_limit_86 : decode prog_7_method_17_code 86 = .ok (.aload_n 0, 1) := by decide +kernel
theorem dd_mo_limit_87 : decode prog_7_method_17_code 87 = .ok (.getfield 28, 3) := by decide +kernel
theorem dd_mo_limit_90 : decode prog_7_method_17_code 90 = .ok (.iload 5, 2) := by decide +kernel
theorem dd_mo_limit_92 : decode prog_7_method_17_code 92 = .ok (.iload_n 3, 1) := by decide +kernel
theorem dd_mo_limit_93 : decode prog_7_method_17_code 93 = .ok (.iastore, 1) := by decide +kernel
theorem dd_mo_limit_94 : decode prog_7_method_17_code 94 = .ok (.aload_n 0, 1) := by decide +kernel
theorem dd_mo_limit_95 : decode prog_7_method_17_code 95 = .ok (.getfield 22, 3) := by decide +kernel
theorem dd_mo_limit_98 : decode prog_7_method_17_code 98 = .ok (.iload 4, 2) := by decide +kernel
theorem dd_mo_limit_100 : decode prog_7_method_17_code 100 = .ok (.dup2, 1) := by decide +kernel
theorem dd_mo_limit_101 : decode prog_7_method_17_code 101 = .ok (.iaload, 1) := by decide +kernel
theorem dd_mo_limit_102 : decode prog_7_method_17_code 102 = .ok (.iconst 1, 1) := by decide +kernel
theorem dd_mo_limit_103 : decode prog_7_method_17_code 103 = .ok (.iadd, 1) := by decide +kernel
theorem dd_mo_limit_104 : decode prog_7_method_17_code 104 = .ok (.iastore, 1) := by decide +kernel
theorem dd_mo_limit_105 : decode prog_7_method_17_code 105 = .ok (.iload_n 1, 1) := by decide +kernel
theorem dd_mo_limit_106 : decode prog_7_method_17_code 106 = .ok (.ifCond .ne 10, 3) := by decide +kernel
theorem dd_mo_limit_109 : decode prog_7_method_17_code 109 = .ok (.aload_n 0, 1) := by decide +kernel
theorem dd_mo_limit_110 : decode prog_7_method_17_code 110 = .ok (.invokevirtual 93, 3) := by decide +kernel
theorem dd_mo_limit_113 : decode prog_7_method_17_code 113 = .ok (.ifCond .eq 7, 3) := by decide +kernel
theorem dd_mo_limit_116 : decode prog_7_method_17_code 116 = .ok (.iconst 1, 1) := by decide +kernel
theorem dd_mo_limit_117 : decode prog_7_method_17_code 117 = .ok (.goto 4, 3) := by decide +kernel
theorem dd_mo_limit_120 : decode prog_7_method_17_code 120 = .ok (.iconst 0, 1) := by decide +kernel
theorem dd_mo_limit_121 : decode prog_7_method_17_code 121 = .ok (.istore 6, 2) := by decide +kernel
theorem dd_mo_limit_123 : decode prog_7_method_17_code 123 = .ok (.iconst 0, 1) := by decide +kernel
theorem dd_mo_limit_124 : decode prog_7_method_17_code 124 = .ok (.istore 7, 2) := by decide +kernel
theorem dd_mo_limit_126 : decode prog_7_method_17_code 126 = .ok (.iload 7, 2) := by decide +kernel
theorem dd_mo_limit_128 : decode prog_7_method_17_code 128 = .ok (.iconst 4, 1) := by decide +kernel
theorem dd_mo_limit_129 : decode prog_7_method_17_code 129 = .ok (.if_icmp .ge 49, 3) := by decide +kernel
theorem dd_mo_limit_132 : decode prog_7_method_17_code 132 = .ok (.iload 6, 2) := by decide +kernel
theorem dd_mo_limit_134 : decode prog_7_method_17_code 134 = .ok (.ifCond .eq 35, 3) := by decide +kernel
theorem dd_mo_limit_137 : decode prog_7_method_17_code 137 = .ok (.iload_n 1, 1) := by decide +kernel
theorem dd_mo_limit_138 : decode prog_7_method_17_code 138 = .ok (.ifCond .eq 27, 3) := by decide +kernel
theorem dd_mo_limit_141 : decode prog_7_method_17_code 141 = .ok (.aload_n 0, 1) := by decide +kernel
theorem dd_mo_limit_142 : decode prog_7_method_17_code 142 = .ok (.getfield 31, 3) := by decide +kernel
theorem dd_mo_limit_145 : decode prog_7_method_17_code 145 = .ok (.iload 7, 2) := by decide +kernel
theorem dd_mo_limit_147 : decode prog_7_method_17_code 147 = .ok (.baload, 1) := by decide +kernel
theorem dd_mo_limit_148 : decode prog_7_method_17_code 148 = .ok (.ifCond .eq 17, 3) := by decide +kernel
theorem dd_mo_limit_151 : decode prog_7_method_17_code 151 = .ok (.aload_n 0, 1) := by decide +kernel
theorem dd_mo_limit_152 : decode prog_7_method_17_code 152 = .ok (.aload_n 0, 1) := by decide +kernel
theorem dd_mo_limit_153 : decode prog_7_method_17_code 153 = .ok (.getfield 38, 3) := by decide +kernel
theorem dd_mo_limit_156 : decode prog_7_method_17_code 156 = .ok (.iload 7, 2) := by decide +kernel
theorem dd_mo_limit_158 : decode prog_7_method_17_code 158 = .ok (.iaload, 1) := by decide +kernel
theorem dd_mo_limit_159 : decode prog_7_method_17_code 159 = .ok (.invokevirtual 97, 3) := by decide +kernel
theorem dd_mo_limit_162 : decode prog_7_method_17_code 162 = .ok (.ifCond .eq 7, 3) := by decide +kernel
theorem dd_mo_limit_165 : decode prog_7_method_17_code 165 = .ok (.iconst 1, 1) := by decide +kernel
theorem dd_mo_limit_166 : decode prog_7_method_17_code 166 = .ok (.goto 4, 3) := by decide +kernel
theorem dd_mo_limit_169 : decode prog_7_method_17_code 169 = .ok (.iconst 0, 1) := by decide +kernel
theorem dd_mo_limit_170 : decode prog_7_method_17_code 170 = .ok (.istore 6, 2) := by decide +kernel
theorem dd_mo_limit_172 : decode prog_7_method_17_code 172 = .ok (.iinc 7 1, 3) := by decide +kernel
theorem dd_mo_limit_175 : decode prog_7_method_17_code 175 = .ok (.goto (-49), 3) := by decide +kernel
theorem dd_mo_limit_178 : decode prog_7_method_17_code 178 = .ok (.aload_n 0, 1) := by decide +kernel
theorem dd_mo_limit_179 : decode prog_7_method_17_code 179 = .ok (.iload 6, 2) := by decide +kernel
theorem dd_mo_limit_181 : decode prog_7_method_17_code 181 = .ok (.iconst 2, 1) := by decide +kernel
theorem dd_mo_limit_182 : decode prog_7_method_17_code 182 = .ok (.invokevirtual 86, 3) := by decide +kernel
theorem dd_mo_limit_185 : decode prog_7_method_17_code 185 = .ok (.ifCond .ne 14, 3) := by decide +kernel
theorem dd_mo_limit_188 : decode prog_7_method_17_code 188 = .ok (.aload_n 0, 1) := by decide +kernel
theorem dd_mo_limit_189 : decode prog_7_method_17_code 189 = .ok (.getfield 22, 3) := by decide +kernel
theorem dd_mo_limit_192 : decode prog_7_method_17_code 192 = .ok (.iload 4, 2) := by decide +kernel
theorem dd_mo_limit_194 : decode prog_7_method_17_code 194 = .ok (.dup2, 1) := by decide +kernel
theorem dd_mo_limit_195 : decode prog_7_method_17_code 195 = .ok (.iaload, 1) := by decide +kernel
theorem dd_mo_limit_196 : decode prog_7_method_17_code 196 = .ok (.iconst 1, 1) := by decide +kernel
theorem dd_mo_limit_197 : decode prog_7_method_17_code 197 = .ok (.isub, 1) := by decide +kernel
theorem dd_mo_limit_198 : decode prog_7_method_17_code 198 = .ok (.iastore, 1) := by decide +kernel
theorem dd_mo_limit_199 : decode prog_7_method_17_code 199 = .ok (.return_, 1) := by decide +kernel
theorem dd_mo_dynamicKept_0 : decode prog_7_method_11_code 0 = .ok (.iconst 1, 1) := by decide +kernel
theorem dd_mo_dynamicKept_1 : decode prog_7_method_11_code 1 = .ok (.istore_n 2, 1) := by decide +kernel
theorem dd_mo_dynamicKept_2 : decode prog_7_method_11_code 2 = .ok (.iconst 4, 1) := by decide +kernel
theorem dd_mo_dynamicKept_3 : decode prog_7_method_11_code 3 = .ok (.istore_n 3, 1) := by decide +kernel
theorem dd_mo_dynamicKept_4 : decode prog_7_method_11_code 4 = .ok (.iload_n 3, 1) := by decide +kernel
theorem dd_mo_dynamicKept_5 : decode prog_7_method_11_code 5 = .ok (.iconst 4, 1) := by decide +kernel
theorem dd_mo_dynamicKept_6 : decode prog_7_method_11_code 6 = .ok (.aload_n 0, 1) := by decide +kernel
theorem dd_mo_dynamicKept_7 : decode prog_7_method_11_code 7 = .ok (.getfield 22, 3) := by decide +kernel
theorem dd_mo_dynamicKept_10 : decode prog_7_method_11_code 10 = .ok (.iconst 1, 1) := by decide +kernel
theorem dd_mo_dynamicKept_11 : decode prog_7_method_11_code 11 = .ok (.iaload, 1) := by decide +kernel
theorem dd_mo_dynamicKept_12 : decode prog_7_method_11_code 12 = .ok (.iadd, 1) := by decide +kernel
theorem dd_mo_dynamicKept_13 : decode prog_7_method_11_code 13 = .ok (.if_icmp .ge 39, 3) := by decide +kernel
theorem dd_mo_dynamicKept_16 : decode prog_7_method_11_code 16 = .ok (.iload_n 2, 1) := by decide +kernel
theorem dd_mo_dynamicKept_17 : decode prog_7_method_11_code 17 = .ok (.ifCond .eq 27, 3) := by decide +kernel
theorem dd_mo_dynamicKept_20 : decode prog_7_method_11_code 20 = .ok (.iload_n 1, 1) := by decide +kernel
theorem dd_mo_dynamicKept_21 : decode prog_7_method_11_code 21 = .ok (.aload_n 0, 1) := by decide +kernel
theorem dd_mo_dynamicKept_22 : decode prog_7_method_11_code 22 = .ok (.getfield 25, 3) := by decide +kernel
theorem dd_mo_dynamicKept_25 : decode prog_7_method_11_code 25 = .ok (.iload_n 3, 1) := by decide +kernel
theorem dd_mo_dynamicKept_26 : decode prog_7_method_11_code 26 = .ok (.iaload, 1) := by decide +kernel
theorem dd_mo_dynamicKept_27 : decode prog_7_method_11_code 27 = .ok (.iand, 1) := by decide +kernel
theorem dd_mo_dynamicKept_28 : decode prog_7_method_11_code 28 = .ok (.invokestatic 79, 3) := by decide +kernel
theorem dd_mo_dynamicKept_31 : decode prog_7_method_11_code 31 = .ok (.aload_n 0, 1) := by decide +kernel
theorem dd_mo_dynamicKept_32 : decode prog_7_method_11_code 32 = .ok (.getfield 28, 3) := by decide +kernel
theorem dd_mo_dynamicKept_35 : decode prog_7_method_11_code 35 = .ok (.iload_n 3, 1) := by decide +kernel
theorem dd_mo_dynamicKept_36 : decode prog_7_method_11_code 36 = .ok (.iaload, 1) := by decide +kernel
theorem dd_mo_dynamicKept_37 : decode prog_7_method_11_code 37 = .ok (.if_icmp .ge 7, 3) := by decide +kernel
theorem dd_mo_dynamicKept_40 : decode prog_7_method_11_code 40 = .ok (.iconst 1, 1) := by decide +kernel
theorem dd_mo_dynamicKept_41 : decode prog_7_method_11_code 41 = .ok (.goto 4, 3) := by decide +kernel
theorem dd_mo_dynamicKept_44 : decode prog_7_method_11_code 44 = .ok (.iconst 0, 1) := by decide +kernel
theorem dd_mo_dynamicKept_45 : decode prog_7_method_11_code 45 = .ok (.istore_n 2, 1) := by decide +kernel
theorem dd_mo_dynamicKept_46 : decode prog_7_method_11_code 46 = .ok (.iinc 3 1, 3) := by decide +kernel
theorem dd_mo_dynamicKept_49 : decode prog_7_method_11_code 49 = .ok (.goto (-45), 3) := by decide +kernel
theorem dd_mo_dynamicKept_52 : decode prog_7_method_11_code 52 = .ok (.iload_n 2, 1) := by decide +kernel
theorem dd_mo_dynamicKept_53 : decode prog_7_method_11_code 53 = .ok (.ireturn, 1) := by decide +kernel
