/-! decode rows: printed by wip/whole/facts.py -/
theorem dd_mo_search_0 : decode prog_7_method_39_code 0 = .ok (.iconst 0, 1) := by decide +kernel
theorem dd_mo_search_1 : decode prog_7_method_39_code 1 = .ok (.istore_n 3, 1) := by decide +kernel
theorem dd_mo_search_2 : decode prog_7_method_39_code 2 = .ok (.iload_n 3, 1) := by decide +kernel
theorem dd_mo_search_3 : decode prog_7_method_39_code 3 = .ok (.sipush 4096, 3) := by decide +kernel
theorem dd_mo_search_6 : decode prog_7_method_39_code 6 = .ok (.if_icmp .ge 16, 3) := by decide +kernel
theorem dd_mo_search_9 : decode prog_7_method_39_code 9 = .ok (.aload_n 0, 1) := by decide +kernel
theorem dd_mo_search_10 : decode prog_7_method_39_code 10 = .ok (.getfield 56, 3) := by decide +kernel
theorem dd_mo_search_13 : decode prog_7_method_39_code 13 = .ok (.iload_n 3, 1) := by decide +kernel
theorem dd_mo_search_14 : decode prog_7_method_39_code 14 = .ok (.iconst (-1), 1) := by decide +kernel
theorem dd_mo_search_15 : decode prog_7_method_39_code 15 = .ok (.iastore, 1) := by decide +kernel
theorem dd_mo_search_16 : decode prog_7_method_39_code 16 = .ok (.iinc 3 1, 3) := by decide +kernel
theorem dd_mo_search_19 : decode prog_7_method_39_code 19 = .ok (.goto (-17), 3) := by decide +kernel
theorem dd_mo_search_22 : decode prog_7_method_39_code 22 = .ok (.iconst 0, 1) := by decide +kernel
theorem dd_mo_search_23 : decode prog_7_method_39_code 23 = .ok (.istore_n 3, 1) := by decide +kernel
theorem dd_mo_search_24 : decode prog_7_method_39_code 24 = .ok (.iconst 0, 1) := by decide +kernel
theorem dd_mo_search_25 : decode prog_7_method_39_code 25 = .ok (.istore 4, 2) := by decide +kernel
theorem dd_mo_search_27 : decode prog_7_method_39_code 27 = .ok (.iload 4, 2) := by decide +kernel
theorem dd_mo_search_29 : decode prog_7_method_39_code 29 = .ok (.aload_n 0, 1) := by decide +kernel
theorem dd_mo_search_30 : decode prog_7_method_39_code 30 = .ok (.getfield 72, 3) := by decide +kernel
theorem dd_mo_search_33 : decode prog_7_method_39_code 33 = .ok (.if_icmp .ge 27, 3) := by decide +kernel
theorem dd_mo_search_36 : decode prog_7_method_39_code 36 = .ok (.iload_n 3, 1) := by decide +kernel
theorem dd_mo_search_37 : decode prog_7_method_39_code 37 = .ok (.aload_n 0, 1) := by decide +kernel
theorem dd_mo_search_38 : decode prog_7_method_39_code 38 = .ok (.getfield 19, 3) := by decide +kernel
theorem dd_mo_search_41 : decode prog_7_method_39_code 41 = .ok (.iload 4, 2) := by decide +kernel
theorem dd_mo_search_43 : decode prog_7_method_39_code 43 = .ok (.iaload, 1) := by decide +kernel
theorem dd_mo_search_44 : decode prog_7_method_39_code 44 = .ok (.iload 4, 2) := by decide +kernel
theorem dd_mo_search_46 : decode prog_7_method_39_code 46 = .ok (.aload_n 0, 1) := by decide +kernel
theorem dd_mo_search_47 : decode prog_7_method_39_code 47 = .ok (.getfield 69, 3) := by decide +kernel
theorem dd_mo_search_50 : decode prog_7_method_39_code 50 = .ok (.imul, 1) := by decide +kernel
theorem dd_mo_search_51 : decode prog_7_method_39_code 51 = .ok (.ishl, 1) := by decide +kernel
theorem dd_mo_search_52 : decode prog_7_method_39_code 52 = .ok (.ior, 1) := by decide +kernel
theorem dd_mo_search_53 : decode prog_7_method_39_code 53 = .ok (.istore_n 3, 1) := by decide +kernel
theorem dd_mo_search_54 : decode prog_7_method_39_code 54 = .ok (.iinc 4 1, 3) := by decide +kernel
theorem dd_mo_search_57 : decode prog_7_method_39_code 57 = .ok (.goto (-30), 3) := by decide +kernel
theorem dd_mo_search_60 : decode prog_7_method_39_code 60 = .ok (.aload_n 0, 1) := by decide +kernel
theorem dd_mo_search_61 : decode prog_7_method_39_code 61 = .ok (.getfield 56, 3) := by decide +kernel
theorem dd_mo_search_64 : decode prog_7_method_39_code 64 = .ok (.iload_n 3, 1) := by decide +kernel
theorem dd_mo_search_65 : decode prog_7_method_39_code 65 = .ok (.iconst 0, 1) := by decide +kernel
theorem dd_mo_search_66 : decode prog_7_method_39_code 66 = .ok (.iastore, 1) := by decide +kernel
theorem dd_mo_search_67 : decode prog_7_method_39_code 67 = .ok (.aload_n 0, 1) := by decide +kernel
theorem dd_mo_search_68 : decode prog_7_method_39_code 68 = .ok (.getfield 62, 3) := by decide +kernel
theorem dd_mo_search_71 : decode prog_7_method_39_code 71 = .ok (.iconst 0, 1) := by decide +kernel
theorem dd_mo_search_72 : decode prog_7_method_39_code 72 = .ok (.iload_n 3, 1) := by decide +kernel
theorem dd_mo_search_73 : decode prog_7_method_39_code 73 = .ok (.iastore, 1) := by decide +kernel
theorem dd_mo_search_74 : decode prog_7_method_39_code 74 = .ok (.aload_n 0, 1) := by decide +kernel
theorem dd_mo_search_75 : decode prog_7_method_39_code 75 = .ok (.iconst 1, 1) := by decide +kernel
theorem dd_mo_search_76 : decode prog_7_method_39_code 76 = .ok (.putfield 135, 3) := by decide +kernel
theorem dd_mo_search_79 : decode prog_7_method_39_code 79 = .ok (.aload_n 0, 1) := by decide +kernel
theorem dd_mo_search_80 : decode prog_7_method_39_code 80 = .ok (.iconst (-1), 1) := by decide +kernel
theorem dd_mo_search_81 : decode prog_7_method_39_code 81 = .ok (.putfield 138, 3) := by decide +kernel
theorem dd_mo_search_84 : decode prog_7_method_39_code 84 = .ok (.iconst 0, 1) := by decide +kernel
theorem dd_mo_search_85 : decode prog_7_method_39_code 85 = .ok (.istore 4, 2) := by decide +kernel
theorem dd_mo_search_87 : decode prog_7_method_39_code 87 = .ok (.iload 4, 2) := by decide +kernel
theorem dd_mo_search_89 : decode prog_7_method_39_code 89 = .ok (.aload_n 0, 1) := by decide +kernel
theorem dd_mo_search_90 : decode prog_7_method_39_code 90 = .ok (.getfield 135, 3) := by decide +kernel
theorem dd_mo_search_93 : decode prog_7_method_39_code 93 = .ok (.if_icmp .ge 169, 3) := by decide +kernel
theorem dd_mo_search_96 : decode prog_7_method_39_code 96 = .ok (.aload_n 0, 1) := by decide +kernel
theorem dd_mo_search_97 : decode prog_7_method_39_code 97 = .ok (.getfield 62, 3) := by decide +kernel
theorem dd_mo_search_100 : decode prog_7_method_39_code 100 = .ok (.iload 4, 2) := by decide +kernel
theorem dd_mo_search_102 : decode prog_7_method_39_code 102 = .ok (.iaload, 1) := by decide +kernel
theorem dd_mo_search_103 : decode prog_7_method_39_code 103 = .ok (.istore 5, 2) := by decide +kernel
theorem dd_mo_search_105 : decode prog_7_method_39_code 105 = .ok (.aload_n 0, 1) := by decide +kernel
theorem dd_mo_search_106 : decode prog_7_method_39_code 106 = .ok (.getfield 138, 3) := by decide +kernel
theorem dd_mo_search_109 : decode prog_7_method_39_code 109 = .ok (.ifCond .ge 25, 3) := by decide +kernel
theorem dd_mo_search_112 : decode prog_7_method_39_code 112 = .ok (.aload_n 0, 1) := by decide +kernel
theorem dd_mo_search_113 : decode prog_7_method_39_code 113 = .ok (.iload 5, 2) := by decide +kernel
theorem dd_mo_search_115 : decode prog_7_method_39_code 115 = .ok (.iload_n 1, 1) := by decide +kernel
theorem dd_mo_search_116 : decode prog_7_method_39_code 116 = .ok (.iload_n 2, 1) := by decide +kernel
theorem dd_mo_search_117 : decode prog_7_method_39_code 117 = .ok (.invokevirtual 141, 3) := by decide +kernel
theorem dd_mo_search_120 : decode prog_7_method_39_code 120 = .ok (.ifCond .eq 14, 3) := by decide +kernel
theorem dd_mo_search_123 : decode prog_7_method_39_code 123 = .ok (.aload_n 0, 1) := by decide +kernel
theorem dd_mo_search_124 : decode prog_7_method_39_code 124 = .ok (.aload_n 0, 1) := by decide +kernel
theorem dd_mo_search_125 : decode prog_7_method_39_code 125 = .ok (.getfield 56, 3) := by decide +kernel
theorem dd_mo_search_128 : decode prog_7_method_39_code 128 = .ok (.iload 5, 2) := by decide +kernel
theorem dd_mo_search_130 : decode prog_7_method_39_code 130 = .ok (.iaload, 1) := by decide +kernel
theorem dd_mo_search_131 : decode prog_7_method_39_code 131 = .ok (.putfield 138, 3) := by decide +kernel
theorem dd_mo_search_134 : decode prog_7_method_39_code 134 = .ok (.iconst 0, 1) := by decide +kernel
theorem dd_mo_search_135 : decode prog_7_method_39_code 135 = .ok (.istore 6, 2) := by decide +kernel
theorem dd_mo_search_137 : decode prog_7_method_39_code 137 = .ok (.iload 6, 2) := by decide +kernel
theorem dd_mo_search_139 : decode prog_7_method_39_code 139 = .ok (.iconst 2, 1) := by decide +kernel
theorem dd_mo_search_140 : decode prog_7_method_39_code 140 = .ok (.aload_n 0, 1) := by decide +kernel
theorem dd_mo_search_141 : decode prog_7_method_39_code 141 = .ok (.getfield 72, 3) := by decide +kernel
theorem dd_mo_search_144 : decode prog_7_method_39_code 144 = .ok (.imul, 1) := by decide +kernel
theorem dd_mo_search_145 : decode prog_7_method_39_code 145 = .ok (.aload_n 0, 1) := by decide +kernel
theorem dd_mo_search_146 : decode prog_7_method_39_code 146 = .ok (.getfield 69, 3) := by decide +kernel
theorem dd_mo_search_149 : decode prog_7_method_39_code 149 = .ok (.imul, 1) := by decide +kernel
theorem dd_mo_search_150 : decode prog_7_method_39_code 150 = .ok (.if_icmp .ge 106, 3) := by decide +kernel
theorem dd_mo_search_153 : decode prog_7_method_39_code 153 = .ok (.aload_n 0, 1) := by decide +kernel
theorem dd_mo_search_154 : decode prog_7_method_39_code 154 = .ok (.getfield 138, 3) := by decide +kernel
theorem dd_mo_search_157 : decode prog_7_method_39_code 157 = .ok (.ifCond .ge 99, 3) := by decide +kernel
theorem dd_mo_search_160 : decode prog_7_method_39_code 160 = .ok (.aload_n 0, 1) := by decide +kernel
theorem dd_mo_search_161 : decode prog_7_method_39_code 161 = .ok (.iload 5, 2) := by decide +kernel
theorem dd_mo_search_163 : decode prog_7_method_39_code 163 = .ok (.iload 6, 2) := by decide +kernel
theorem dd_mo_search_165 : decode prog_7_method_39_code 165 = .ok (.iconst 2, 1) := by decide +kernel
theorem dd_mo_search_166 : decode prog_7_method_39_code 166 = .ok (.idiv, 1) := by decide +kernel
theorem dd_mo_search_167 : decode prog_7_method_39_code 167 = .ok (.aload_n 0, 1) := by decide +kernel
theorem dd_mo_search_168 : decode prog_7_method_39_code 168 = .ok (.getfield 69, 3) := by decide +kernel
theorem dd_mo_search_171 : decode prog_7_method_39_code 171 = .ok (.idiv, 1) := by decide +kernel
theorem dd_mo_search_172 : decode prog_7_method_39_code 172 = .ok (.iload 6, 2) := by decide +kernel
theorem dd_mo_search_174 : decode prog_7_method_39_code 174 = .ok (.iconst 2, 1) := by decide +kernel
theorem dd_mo_search_175 : decode prog_7_method_39_code 175 = .ok (.idiv, 1) := by decide +kernel
theorem dd_mo_search_176 : decode prog_7_method_39_code 176 = .ok (.aload_n 0, 1) := by decide +kernel
theorem dd_mo_search_177 : decode prog_7_method_39_code 177 = .ok (.getfield 69, 3) := by decide +kernel
theorem dd_mo_search_180 : decode prog_7_method_39_code 180 = .ok (.irem, 1) := by decide +kernel
theorem dd_mo_search_181 : decode prog_7_method_39_code 181 = .ok (.iload 6, 2) := by decide +kernel
theorem dd_mo_search_183 : decode prog_7_method_39_code 183 = .ok (.iconst 2, 1) := by decide +kernel
theorem dd_mo_search_184 : decode prog_7_method_39_code 184 = .ok (.irem, 1) := by decide +kernel
theorem dd_mo_search_185 : decode prog_7_method_39_code 185 = .ok (.ifCond .ne 7, 3) := by decide +kernel
theorem dd_mo_search_188 : decode prog_7_method_39_code 188 = .ok (.iconst 1, 1) := by decide +kernel
theorem dd_mo_search_189 : decode prog_7_method_39_code 189 = .ok (.goto 4, 3) := by decide +kernel
theorem dd_mo_search_192 : decode prog_7_method_39_code 192 = .ok (.iconst 0, 1) := by decide +kernel
theorem dd_mo_search_193 : decode prog_7_method_39_code 193 = .ok (.invokevirtual 144, 3) := by decide +kernel
theorem dd_mo_search_196 : decode prog_7_method_39_code 196 = .ok (.istore 7, 2) := by decide +kernel
theorem dd_mo_search_198 : decode prog_7_method_39_code 198 = .ok (.iload 7, 2) := by decide +kernel
theorem dd_mo_search_200 : decode prog_7_method_39_code 200 = .ok (.ifCond .lt 50, 3) := by decide +kernel
theorem dd_mo_search_203 : decode prog_7_method_39_code 203 = .ok (.aload_n 0, 1) := by decide +kernel
theorem dd_mo_search_204 : decode prog_7_method_39_code 204 = .ok (.getfield 56, 3) := by decide +kernel
theorem dd_mo_search_207 : decode prog_7_method_39_code 207 = .ok (.iload 7, 2) := by decide +kernel
theorem dd_mo_search_209 : decode prog_7_method_39_code 209 = .ok (.iaload, 1) := by decide +kernel
theorem dd_mo_search_210 : decode prog_7_method_39_code 210 = .ok (.ifCond .ge 40, 3) := by decide +kernel
theorem dd_mo_search_213 : decode prog_7_method_39_code 213 = .ok (.aload_n 0, 1) := by decide +kernel
theorem dd_mo_search_214 : decode prog_7_method_39_code 214 = .ok (.getfield 56, 3) := by decide +kernel
theorem dd_mo_search_217 : decode prog_7_method_39_code 217 = .ok (.iload 7, 2) := by decide +kernel
theorem dd_mo_search_219 : decode prog_7_method_39_code 219 = .ok (.aload_n 0, 1) := by decide +kernel
theorem dd_mo_search_220 : decode prog_7_method_39_code 220 = .ok (.getfield 56, 3) := by decide +kernel
theorem dd_mo_search_223 : decode prog_7_method_39_code 223 = .ok (.iload 5, 2) := by decide +kernel
theorem dd_mo_search_225 : decode prog_7_method_39_code 225 = .ok (.iaload, 1) := by decide +kernel
theorem dd_mo_search_226 : decode prog_7_method_39_code 226 = .ok (.iconst 1, 1) := by decide +kernel
theorem dd_mo_search_227 : decode prog_7_method_39_code 227 = .ok (.iadd, 1) := by decide +kernel
theorem dd_mo_search_228 : decode prog_7_method_39_code 228 = .ok (.iastore, 1) := by decide +kernel
theorem dd_mo_search_229 : decode prog_7_method_39_code 229 = .ok (.aload_n 0, 1) := by decide +kernel
theorem dd_mo_search_230 : decode prog_7_method_39_code 230 = .ok (.getfield 62, 3) := by decide +kernel
theorem dd_mo_search_233 : decode prog_7_method_39_code 233 = .ok (.aload_n 0, 1) := by decide +kernel
theorem dd_mo_search_234 : decode prog_7_method_39_code 234 = .ok (.getfield 135, 3) := by decide +kernel
theorem dd_mo_search_237 : decode prog_7_method_39_code 237 = .ok (.iload 7, 2) := by decide +kernel
theorem dd_mo_search_239 : decode prog_7_method_39_code 239 = .ok (.iastore, 1) := by decide +kernel
theorem dd_mo_search_240 : decode prog_7_method_39_code 240 = .ok (.aload_n 0, 1) := by decide +kernel
theorem dd_mo_search_241 : decode prog_7_method_39_code 241 = .ok (.dup, 1) := by decide +kernel
theorem dd_mo_search_242 : decode prog_7_method_39_code 242 = .ok (.getfield 135, 3) := by decide +kernel
theorem dd_mo_search_245 : decode prog_7_method_39_code 245 = .ok (.iconst 1, 1) := by decide +kernel
theorem dd_mo_search_246 : decode prog_7_method_39_code 246 = .ok (.iadd, 1) := by decide +kernel
theorem dd_mo_search_247 : decode prog_7_method_39_code 247 = .ok (.putfield 135, 3) := by decide +kernel
theorem dd_mo_search_250 : decode prog_7_method_39_code 250 = .ok (.iinc 6 1, 3) := by decide +kernel
theorem dd_mo_search_253 : decode prog_7_method_39_code 253 = .ok (.goto (-116), 3) := by decide +kernel
theorem dd_mo_search_256 : decode prog_7_method_39_code 256 = .ok (.iinc 4 1, 3) := by decide +kernel
theorem dd_mo_search_259 : decode prog_7_method_39_code 259 = .ok (.goto (-172), 3) := by decide +kernel
theorem dd_mo_search_262 : decode prog_7_method_39_code 262 = .ok (.return_, 1) := by decide +kernel
theorem dd_mo_has_0 : decode prog_7_method_38_code 0 = .ok (.aload_n 0, 1) := by decide +kernel
theorem dd_mo_has_1 : decode prog_7_method_38_code 1 = .ok (.aload_n 0, 1) := by decide +kernel
theorem dd_mo_has_2 : decode prog_7_method_38_code 2 = .ok (.iload_n 1, 1) := by decide +kernel
theorem dd_mo_has_3 : decode prog_7_method_38_code 3 = .ok (.iload_n 2, 1) := by decide +kernel
theorem dd_mo_has_4 : decode prog_7_method_38_code 4 = .ok (.invokevirtual 131, 3) := by decide +kernel
theorem dd_mo_has_7 : decode prog_7_method_38_code 7 = .ok (.invokevirtual 75, 3) := by decide +kernel
theorem dd_mo_has_10 : decode prog_7_method_38_code 10 = .ok (.iload_n 3, 1) := by decide +kernel
theorem dd_mo_has_11 : decode prog_7_method_38_code 11 = .ok (.ishr, 1) := by decide +kernel
theorem dd_mo_has_12 : decode prog_7_method_38_code 12 = .ok (.iconst 1, 1) := by decide +kernel
theorem dd_mo_has_13 : decode prog_7_method_38_code 13 = .ok (.iand, 1) := by decide +kernel
theorem dd_mo_has_14 : decode prog_7_method_38_code 14 = .ok (.iconst 1, 1) := by decide +kernel
theorem dd_mo_has_15 : decode prog_7_method_38_code 15 = .ok (.if_icmp .ne 7, 3) := by decide +kernel
theorem dd_mo_has_18 : decode prog_7_method_38_code 18 = .ok (.iconst 1, 1) := by decide +kernel
theorem dd_mo_has_19 : decode prog_7_method_38_code 19 = .ok (.goto 4, 3) := by decide +kernel
theorem dd_mo_has_22 : decode prog_7_method_38_code 22 = .ok (.iconst 0, 1) := by decide +kernel
theorem dd_mo_has_23 : decode prog_7_method_38_code 23 = .ok (.ireturn, 1) := by decide +kernel
theorem dd_mo_rolesIn_0 : decode prog_7_method_36_code 0 = .ok (.iload_n 1, 1) := by decide +kernel
theorem dd_mo_rolesIn_1 : decode prog_7_method_36_code 1 = .ok (.iload_n 2, 1) := by decide +kernel
theorem dd_mo_rolesIn_2 : decode prog_7_method_36_code 2 = .ok (.aload_n 0, 1) := by decide +kernel
theorem dd_mo_rolesIn_3 : decode prog_7_method_36_code 3 = .ok (.getfield 69, 3) := by decide +kernel
theorem dd_mo_rolesIn_6 : decode prog_7_method_36_code 6 = .ok (.imul, 1) := by decide +kernel
theorem dd_mo_rolesIn_7 : decode prog_7_method_36_code 7 = .ok (.ishr, 1) := by decide +kernel
theorem dd_mo_rolesIn_8 : decode prog_7_method_36_code 8 = .ok (.iconst 1, 1) := by decide +kernel
theorem dd_mo_rolesIn_9 : decode prog_7_method_36_code 9 = .ok (.aload_n 0, 1) := by decide +kernel
theorem dd_mo_rolesIn_10 : decode prog_7_method_36_code 10 = .ok (.getfield 69, 3) := by decide +kernel
theorem dd_mo_rolesIn_13 : decode prog_7_method_36_code 13 = .ok (.ishl, 1) := by decide +kernel
theorem dd_mo_rolesIn_14 : decode prog_7_method_36_code 14 = .ok (.iconst 1, 1) := by decide +kernel
theorem dd_mo_rolesIn_15 : decode prog_7_method_36_code 15 = .ok (.isub, 1) := by decide +kernel
theorem dd_mo_rolesIn_16 : decode prog_7_method_36_code 16 = .ok (.iand, 1) := by decide +kernel
theorem dd_mo_rolesIn_17 : decode prog_7_method_36_code 17 = .ok (.ireturn, 1) := by decide +kernel
theorem dd_mo_stepTo_0 : decode prog_7_method_37_code 0 = .ok (.aload_n 0, 1) := by decide +kernel
theorem dd_mo_stepTo_1 : decode prog_7_method_37_code 1 = .ok (.iload_n 1, 1) := by decide +kernel
theorem dd_mo_stepTo_2 : decode prog_7_method_37_code 2 = .ok (.iload_n 2, 1) := by decide +kernel
theorem dd_mo_stepTo_3 : decode prog_7_method_37_code 3 = .ok (.invokevirtual 131, 3) := by decide +kernel
theorem dd_mo_stepTo_6 : decode prog_7_method_37_code 6 = .ok (.istore 5, 2) := by decide +kernel
theorem dd_mo_stepTo_8 : decode prog_7_method_37_code 8 = .ok (.iload 5, 2) := by decide +kernel
theorem dd_mo_stepTo_10 : decode prog_7_method_37_code 10 = .ok (.iload_n 3, 1) := by decide +kernel
theorem dd_mo_stepTo_11 : decode prog_7_method_37_code 11 = .ok (.ishr, 1) := by decide +kernel
theorem dd_mo_stepTo_12 : decode prog_7_method_37_code 12 = .ok (.iconst 1, 1) := by decide +kernel
theorem dd_mo_stepTo_13 : decode prog_7_method_37_code 13 = .ok (.iand, 1) := by decide +kernel
theorem dd_mo_stepTo_14 : decode prog_7_method_37_code 14 = .ok (.iload 4, 2) := by decide +kernel
theorem dd_mo_stepTo_16 : decode prog_7_method_37_code 16 = .ok (.ifCond .eq 7, 3) := by decide +kernel
theorem dd_mo_stepTo_19 : decode prog_7_method_37_code 19 = .ok (.iconst 1, 1) := by decide +kernel
theorem dd_mo_stepTo_20 : decode prog_7_method_37_code 20 = .ok (.goto 4, 3) := by decide +kernel
theorem dd_mo_stepTo_23 : decode prog_7_method_37_code 23 = .ok (.iconst 0, 1) := by decide +kernel
theorem dd_mo_stepTo_24 : decode prog_7_method_37_code 24 = .ok (.if_icmp .ne 5, 3) := by decide +kernel
theorem dd_mo_stepTo_27 : decode prog_7_method_37_code 27 = .ok (.iconst (-1), 1) := by decide +kernel
theorem dd_mo_stepTo_28 : decode prog_7_method_37_code 28 = .ok (.ireturn, 1) := by decide +kernel
theorem dd_mo_stepTo_29 : decode prog_7_method_37_code 29 = .ok (.iconst 0, 1) := by decide +kernel
theorem dd_mo_stepTo_30 : decode prog_7_method_37_code 30 = .ok (.istore 6, 2) := by decide +kernel
theorem dd_mo_stepTo_32 : decode prog_7_method_37_code 32 = .ok (.iconst 0, 1) := by decide +kernel
theorem dd_mo_stepTo_33 : decode prog_7_method_37_code 33 = .ok (.istore 7, 2) := by decide +kernel
theorem dd_mo_stepTo_35 : decode prog_7_method_37_code 35 = .ok (.iload 7, 2) := by decide +kernel
theorem dd_mo_stepTo_37 : decode prog_7_method_37_code 37 = .ok (.aload_n 0, 1) := by decide +kernel
theorem dd_mo_stepTo_38 : decode prog_7_method_37_code 38 = .ok (.getfield 72, 3) := by decide +kernel
theorem dd_mo_stepTo_41 : decode prog_7_method_37_code 41 = .ok (.if_icmp .ge 25, 3) := by decide +kernel
theorem dd_mo_stepTo_44 : decode prog_7_method_37_code 44 = .ok (.iload 6, 2) := by decide +kernel
theorem dd_mo_stepTo_46 : decode prog_7_method_37_code 46 = .ok (.aload_n 0, 1) := by decide +kernel
theorem dd_mo_stepTo_47 : decode prog_7_method_37_code 47 = .ok (.aload_n 0, 1) := by decide +kernel
theorem dd_mo_stepTo_48 : decode prog_7_method_37_code 48 = .ok (.iload_n 1, 1) := by decide +kernel
theorem dd_mo_stepTo_49 : decode prog_7_method_37_code 49 = .ok (.iload 7, 2) := by decide +kernel
theorem dd_mo_stepTo_51 : decode prog_7_method_37_code 51 = .ok (.invokevirtual 131, 3) := by decide +kernel
theorem dd_mo_stepTo_54 : decode prog_7_method_37_code 54 = .ok (.invokevirtual 75, 3) := by decide +kernel
theorem dd_mo_stepTo_57 : decode prog_7_method_37_code 57 = .ok (.ior, 1) := by decide +kernel
theorem dd_mo_stepTo_58 : decode prog_7_method_37_code 58 = .ok (.istore 6, 2) := by decide +kernel
theorem dd_mo_stepTo_60 : decode prog_7_method_37_code 60 = .ok (.iinc 7 1, 3) := by decide +kernel
theorem dd_mo_stepTo_63 : decode prog_7_method_37_code 63 = .ok (.goto (-28), 3) := by decide +kernel
theorem dd_mo_stepTo_66 : decode prog_7_method_37_code 66 = .ok (.aload_n 0, 1) := by decide +kernel
theorem dd_mo_stepTo_67 : decode prog_7_method_37_code 67 = .ok (.iload 4, 2) := by decide +kernel
theorem dd_mo_stepTo_69 : decode prog_7_method_37_code 69 = .ok (.iload 6, 2) := by decide +kernel
theorem dd_mo_stepTo_71 : decode prog_7_method_37_code 71 = .ok (.aload_n 0, 1) := by decide +kernel
theorem dd_mo_stepTo_72 : decode prog_7_method_37_code 72 = .ok (.iload 5, 2) := by decide +kernel
theorem dd_mo_stepTo_74 : decode prog_7_method_37_code 74 = .ok (.invokevirtual 75, 3) := by decide +kernel
theorem dd_mo_stepTo_77 : decode prog_7_method_37_code 77 = .ok (.iload_n 3, 1) := by decide +kernel
theorem dd_mo_stepTo_78 : decode prog_7_method_37_code 78 = .ok (.invokevirtual 124, 3) := by decide +kernel
theorem dd_mo_stepTo_81 : decode prog_7_method_37_code 81 = .ok (.ifCond .eq 21, 3) := by decide +kernel
theorem dd_mo_stepTo_84 : decode prog_7_method_37_code 84 = .ok (.iload 4, 2) := by decide +kernel
theorem dd_mo_stepTo_86 : decode prog_7_method_37_code 86 = .ok (.ifCond .eq 18, 3) := by decide +kernel
theorem dd_mo_stepTo_89 : decode prog_7_method_37_code 89 = .ok (.aload_n 0, 1) := by decide +kernel
theorem dd_mo_stepTo_90 : decode prog_7_method_37_code 90 = .ok (.iload 5, 2) := by decide +kernel
theorem dd_mo_stepTo_92 : decode prog_7_method_37_code 92 = .ok (.iconst 1, 1) := by decide +kernel
theorem dd_mo_stepTo_93 : decode prog_7_method_37_code 93 = .ok (.iload_n 3, 1) := by decide +kernel
theorem dd_mo_stepTo_94 : decode prog_7_method_37_code 94 = .ok (.ishl, 1) := by decide +kernel
theorem dd_mo_stepTo_95 : decode prog_7_method_37_code 95 = .ok (.ior, 1) := by decide +kernel
theorem dd_mo_stepTo_96 : decode prog_7_method_37_code 96 = .ok (.invokevirtual 82, 3) := by decide +kernel
theorem dd_mo_stepTo_99 : decode prog_7_method_37_code 99 = .ok (.ifCond .ne 5, 3) := by decide +kernel
theorem dd_mo_stepTo_102 : decode prog_7_method_37_code 102 = .ok (.iconst (-1), 1) := by decide +kernel
theorem dd_mo_stepTo_103 : decode prog_7_method_37_code 103 = .ok (.ireturn, 1) := by decide +kernel
theorem dd_mo_stepTo_104 : decode prog_7_method_37_code 104 = .ok (.iload_n 1, 1) := by decide +kernel
theorem dd_mo_stepTo_105 : decode prog_7_method_37_code 105 = .ok (.iconst 1, 1) := by decide +kernel
theorem dd_mo_stepTo_106 : decode prog_7_method_37_code 106 = .ok (.iload_n 2, 1) := by decide +kernel
theorem dd_mo_stepTo_107 : decode prog_7_method_37_code 107 = .ok (.aload_n 0, 1) := by decide +kernel
theorem dd_mo_stepTo_108 : decode prog_7_method_37_code 108 = .ok (.getfield 69, 3) := by decide +kernel
theorem dd_mo_stepTo_111 : decode prog_7_method_37_code 111 = .ok (.imul, 1) := by decide +kernel
theorem dd_mo_stepTo_112 : decode prog_7_method_37_code 112 = .ok (.iload_n 3, 1) := by decide +kernel
theorem dd_mo_stepTo_113 : decode prog_7_method_37_code 113 = .ok (.iadd, 1) := by decide +kernel
theorem dd_mo_stepTo_114 : decode prog_7_method_37_code 114 = .ok (.ishl, 1) := by decide +kernel
theorem dd_mo_stepTo_115 : decode prog_7_method_37_code 115 = .ok (.ixor, 1) := by decide +kernel
theorem dd_mo_stepTo_116 : decode prog_7_method_37_code 116 = .ok (.ireturn, 1) := by decide +kernel
theorem dd_mo_plan_0 : decode prog_7_method_42_code 0 = .ok (.aload_n 0, 1) := by decide +kernel
theorem dd_mo_plan_1 : decode prog_7_method_42_code 1 = .ok (.aload_n 0, 1) := by decide +kernel
theorem dd_mo_plan_2 : decode prog_7_method_42_code 2 = .ok (.iload_n 1, 1) := by decide +kernel
theorem dd_mo_plan_3 : decode prog_7_method_42_code 3 = .ok (.invokevirtual 113, 3) := by decide +kernel
theorem dd_mo_plan_6 : decode prog_7_method_42_code 6 = .ok (.ifCond .eq 15, 3) := by decide +kernel
theorem dd_mo_plan_9 : decode prog_7_method_42_code 9 = .ok (.aload_n 0, 1) := by decide +kernel
theorem dd_mo_plan_10 : decode prog_7_method_42_code 10 = .ok (.iload_n 2, 1) := by decide +kernel
theorem dd_mo_plan_11 : decode prog_7_method_42_code 11 = .ok (.invokevirtual 90, 3) := by decide +kernel
theorem dd_mo_plan_14 : decode prog_7_method_42_code 14 = .ok (.ifCond .eq 7, 3) := by decide +kernel
theorem dd_mo_plan_17 : decode prog_7_method_42_code 17 = .ok (.iconst 1, 1) := by decide +kernel
theorem dd_mo_plan_18 : decode prog_7_method_42_code 18 = .ok (.goto 4, 3) := by decide +kernel
theorem dd_mo_plan_21 : decode prog_7_method_42_code 21 = .ok (.iconst 0, 1) := by decide +kernel
theorem dd_mo_plan_22 : decode prog_7_method_42_code 22 = .ok (.iconst 1, 1) := by decide +kernel
theorem dd_mo_plan_23 : decode prog_7_method_42_code 23 = .ok (.invokevirtual 86, 3) := by decide +kernel
theorem dd_mo_plan_26 : decode prog_7_method_42_code 26 = .ok (.ifCond .eq 30, 3) := by decide +kernel
theorem dd_mo_plan_29 : decode prog_7_method_42_code 29 = .ok (.aload_n 0, 1) := by decide +kernel
theorem dd_mo_plan_30 : decode prog_7_method_42_code 30 = .ok (.aload_n 0, 1) := by decide +kernel
theorem dd_mo_plan_31 : decode prog_7_method_42_code 31 = .ok (.getfield 72, 3) := by decide +kernel
theorem dd_mo_plan_34 : decode prog_7_method_42_code 34 = .ok (.aload_n 0, 1) := by decide +kernel
theorem dd_mo_plan_35 : decode prog_7_method_42_code 35 = .ok (.getfield 69, 3) := by decide +kernel
theorem dd_mo_plan_38 : decode prog_7_method_42_code 38 = .ok (.imul, 1) := by decide +kernel
theorem dd_mo_plan_39 : decode prog_7_method_42_code 39 = .ok (.bipush 12, 2) := by decide +kernel
theorem dd_mo_plan_41 : decode prog_7_method_42_code 41 = .ok (.if_icmp .gt 7, 3) := by decide +kernel
theorem dd_mo_plan_44 : decode prog_7_method_42_code 44 = .ok (.iconst 1, 1) := by decide +kernel
theorem dd_mo_plan_45 : decode prog_7_method_42_code 45 = .ok (.goto 4, 3) := by decide +kernel
theorem dd_mo_plan_48 : decode prog_7_method_42_code 48 = .ok (.iconst 0, 1) := by decide +kernel
theorem dd_mo_plan_49 : decode prog_7_method_42_code 49 = .ok (.iconst 2, 1) := by decide +kernel
theorem dd_mo_plan_50 : decode prog_7_method_42_code 50 = .ok (.invokevirtual 86, 3) := by decide +kernel
theorem dd_mo_plan_53 : decode prog_7_method_42_code 53 = .ok (.ifCond .ne 5, 3) := by decide +kernel
theorem dd_mo_plan_56 : decode prog_7_method_42_code 56 = .ok (.iconst 0, 1) := by decide +kernel
theorem dd_mo_plan_57 : decode prog_7_method_42_code 57 = .ok (.ireturn, 1) := by decide +kernel
theorem dd_mo_plan_58 : decode prog_7_method_42_code 58 = .ok (.aload_n 0, 1) := by decide +kernel
theorem dd_mo_plan_59 : decode prog_7_method_42_code 59 = .ok (.iload_n 1, 1) := by decide +kernel
theorem dd_mo_plan_60 : decode prog_7_method_42_code 60 = .ok (.iload_n 2, 1) := by decide +kernel
theorem dd_mo_plan_61 : decode prog_7_method_42_code 61 = .ok (.invokevirtual 148, 3) := by decide +kernel
theorem dd_mo_plan_64 : decode prog_7_method_42_code 64 = .ok (.aload_n 0, 1) := by decide +kernel
theorem dd_mo_plan_65 : decode prog_7_method_42_code 65 = .ok (.aload_n 0, 1) := by decide +kernel
theorem dd_mo_plan_66 : decode prog_7_method_42_code 66 = .ok (.getfield 138, 3) := by decide +kernel
theorem dd_mo_plan_69 : decode prog_7_method_42_code 69 = .ok (.ifCond .lt 7, 3) := by decide +kernel
theorem dd_mo_plan_72 : decode prog_7_method_42_code 72 = .ok (.iconst 1, 1) := by decide +kernel
theorem dd_mo_plan_73 : decode prog_7_method_42_code 73 = .ok (.goto 4, 3) := by decide +kernel
theorem dd_mo_plan_76 : decode prog_7_method_42_code 76 = .ok (.iconst 0, 1) := by decide +kernel
theorem dd_mo_plan_77 : decode prog_7_method_42_code 77 = .ok (.iconst 3, 1) := by decide +kernel
theorem dd_mo_plan_78 : decode prog_7_method_42_code 78 = .ok (.invokevirtual 86, 3) := by decide +kernel
theorem dd_mo_plan_81 : decode prog_7_method_42_code 81 = .ok (.ifCond .ne 5, 3) := by decide +kernel
theorem dd_mo_plan_84 : decode prog_7_method_42_code 84 = .ok (.iconst 0, 1) := by decide +kernel
theorem dd_mo_plan_85 : decode prog_7_method_42_code 85 = .ok (.ireturn, 1) := by decide +kernel
theorem dd_mo_plan_86 : decode prog_7_method_42_code 86 = .ok (.iload_n 3, 1) := by decide +kernel
theorem dd_mo_plan_87 : decode prog_7_method_42_code 87 = .ok (.ifCond .lt 11, 3) := by decide +kernel
theorem dd_mo_plan_90 : decode prog_7_method_42_code 90 = .ok (.iload_n 3, 1) := by decide +kernel
theorem dd_mo_plan_91 : decode prog_7_method_42_code 91 = .ok (.aload_n 0, 1) := by decide +kernel
theorem dd_mo_plan_92 : decode prog_7_method_42_code 92 = .ok (.getfield 138, 3) := by decide +kernel
theorem dd_mo_plan_95 : decode prog_7_method_42_code 95 = .ok (.if_icmp .lt 5, 3) := by decide +kernel
theorem dd_mo_plan_98 : decode prog_7_method_42_code 98 = .ok (.iconst (-1), 1) := by decide +kernel
theorem dd_mo_plan_99 : decode prog_7_method_42_code 99 = .ok (.ireturn, 1) := by decide +kernel
theorem dd_mo_plan_100 : decode prog_7_method_42_code 100 = .ok (.aload_n 0, 1) := by decide +kernel
theorem dd_mo_plan_101 : decode prog_7_method_42_code 101 = .ok (.iload_n 1, 1) := by decide +kernel
theorem dd_mo_plan_102 : decode prog_7_method_42_code 102 = .ok (.iload_n 2, 1) := by decide +kernel
theorem dd_mo_plan_103 : decode prog_7_method_42_code 103 = .ok (.invokevirtual 152, 3) := by decide +kernel
theorem dd_mo_plan_106 : decode prog_7_method_42_code 106 = .ok (.aload_n 0, 1) := by decide +kernel
theorem dd_mo_plan_107 : decode prog_7_method_42_code 107 = .ok (.getfield 62, 3) := by decide +kernel
theorem dd_mo_plan_110 : decode prog_7_method_42_code 110 = .ok (.iconst 0, 1) := by decide +kernel
theorem dd_mo_plan_111 : decode prog_7_method_42_code 111 = .ok (.iaload, 1) := by decide +kernel
theorem dd_mo_plan_112 : decode prog_7_method_42_code 112 = .ok (.istore 4, 2) := by decide +kernel
theorem dd_mo_plan_114 : decode prog_7_method_42_code 114 = .ok (.iconst (-1), 1) := by decide +kernel
theorem dd_mo_plan_115 : decode prog_7_method_42_code 115 = .ok (.istore 5, 2) := by decide +kernel
theorem dd_mo_plan_117 : decode prog_7_method_42_code 117 = .ok (.iconst 0, 1) := by decide +kernel
theorem dd_mo_plan_118 : decode prog_7_method_42_code 118 = .ok (.istore 6, 2) := by decide +kernel
theorem dd_mo_plan_120 : decode prog_7_method_42_code 120 = .ok (.iload 6, 2) := by decide +kernel
theorem dd_mo_plan_122 : decode prog_7_method_42_code 122 = .ok (.iload_n 3, 1) := by decide +kernel
theorem dd_mo_plan_123 : decode prog_7_method_42_code 123 = .ok (.if_icmp .gt 149, 3) := by decide +kernel
theorem dd_mo_plan_126 : decode prog_7_method_42_code 126 = .ok (.iconst (-1), 1) := by decide +kernel
theorem dd_mo_plan_127 : decode prog_7_method_42_code 127 = .ok (.istore 7, 2) := by decide +kernel
theorem dd_mo_plan_129 : decode prog_7_method_42_code 129 = .ok (.iconst 0, 1) := by decide +kernel
theorem dd_mo_plan_130 : decode prog_7_method_42_code 130 = .ok (.istore 8, 2) := by decide +kernel
theorem dd_mo_plan_132 : decode prog_7_method_42_code 132 = .ok (.iload 8, 2) := by decide +kernel
theorem dd_mo_plan_134 : decode prog_7_method_42_code 134 = .ok (.iconst 2, 1) := by decide +kernel
theorem dd_mo_plan_135 : decode prog_7_method_42_code 135 = .ok (.aload_n 0, 1) := by decide +kernel
theorem dd_mo_plan_136 : decode prog_7_method_42_code 136 = .ok (.getfield 72, 3) := by decide +kernel
theorem dd_mo_plan_139 : decode prog_7_method_42_code 139 = .ok (.imul, 1) := by decide +kernel
theorem dd_mo_plan_140 : decode prog_7_method_42_code 140 = .ok (.aload_n 0, 1) := by decide +kernel
theorem dd_mo_plan_141 : decode prog_7_method_42_code 141 = .ok (.getfield 69, 3) := by decide +kernel
theorem dd_mo_plan_144 : decode prog_7_method_42_code 144 = .ok (.imul, 1) := by decide +kernel
theorem dd_mo_plan_145 : decode prog_7_method_42_code 145 = .ok (.if_icmp .ge 117, 3) := by decide +kernel
theorem dd_mo_plan_148 : decode prog_7_method_42_code 148 = .ok (.iload 7, 2) := by decide +kernel
theorem dd_mo_plan_150 : decode prog_7_method_42_code 150 = .ok (.ifCond .ge 112, 3) := by decide +kernel
theorem dd_mo_plan_153 : decode prog_7_method_42_code 153 = .ok (.aload_n 0, 1) := by decide +kernel
theorem dd_mo_plan_154 : decode prog_7_method_42_code 154 = .ok (.iload 4, 2) := by decide +kernel
theorem dd_mo_plan_156 : decode prog_7_method_42_code 156 = .ok (.iload 8, 2) := by decide +kernel
theorem dd_mo_plan_158 : decode prog_7_method_42_code 158 = .ok (.iconst 2, 1) := by decide +kernel
theorem dd_mo_plan_159 : decode prog_7_method_42_code 159 = .ok (.idiv, 1) := by decide +kernel
theorem dd_mo_plan_160 : decode prog_7_method_42_code 160 = .ok (.aload_n 0, 1) := by decide +kernel
theorem dd_mo_plan_161 : decode prog_7_method_42_code 161 = .ok (.getfield 69, 3) := by decide +kernel
theorem dd_mo_plan_164 : decode prog_7_method_42_code 164 = .ok (.idiv, 1) := by decide +kernel
theorem dd_mo_plan_165 : decode prog_7_method_42_code 165 = .ok (.iload 8, 2) := by decide +kernel
theorem dd_mo_plan_167 : decode prog_7_method_42_code 167 = .ok (.iconst 2, 1) := by decide +kernel
theorem dd_mo_plan_168 : decode prog_7_method_42_code 168 = .ok (.idiv, 1) := by decide +kernel
theorem dd_mo_plan_169 : decode prog_7_method_42_code 169 = .ok (.aload_n 0, 1) := by decide +kernel
theorem dd_mo_plan_170 : decode prog_7_method_42_code 170 = .ok (.getfield 69, 3) := by decide +kernel
theorem dd_mo_plan_173 : decode prog_7_method_42_code 173 = .ok (.irem, 1) := by decide +kernel
theorem dd_mo_plan_174 : decode prog_7_method_42_code 174 = .ok (.iload 8, 2) := by decide +kernel
theorem dd_mo_plan_176 : decode prog_7_method_42_code 176 = .ok (.iconst 2, 1) := by decide +kernel
theorem dd_mo_plan_177 : decode prog_7_method_42_code 177 = .ok (.irem, 1) := by decide +kernel
theorem dd_mo_plan_178 : decode prog_7_method_42_code 178 = .ok (.ifCond .ne 7, 3) := by decide +kernel
theorem dd_mo_plan_181 : decode prog_7_method_42_code 181 = .ok (.iconst 1, 1) := by decide +kernel
theorem dd_mo_plan_182 : decode prog_7_method_42_code 182 = .ok (.goto 4, 3) := by decide +kernel
theorem dd_mo_plan_185 : decode prog_7_method_42_code 185 = .ok (.iconst 0, 1) := by decide +kernel
theorem dd_mo_plan_186 : decode prog_7_method_42_code 186 = .ok (.invokevirtual 144, 3) := by decide +kernel
theorem dd_mo_plan_189 : decode prog_7_method_42_code 189 = .ok (.istore 9, 2) := by decide +kernel
theorem dd_mo_plan_191 : decode prog_7_method_42_code 191 = .ok (.iload 9, 2) := by decide +kernel
theorem dd_mo_plan_193 : decode prog_7_method_42_code 193 = .ok (.ifCond .lt 63, 3) := by decide +kernel
theorem dd_mo_plan_196 : decode prog_7_method_42_code 196 = .ok (.aload_n 0, 1) := by decide +kernel
theorem dd_mo_plan_197 : decode prog_7_method_42_code 197 = .ok (.getfield 56, 3) := by decide +kernel
theorem dd_mo_plan_200 : decode prog_7_method_42_code 200 = .ok (.iload 9, 2) := by decide +kernel
theorem dd_mo_plan_202 : decode prog_7_method_42_code 202 = .ok (.iaload, 1) := by decide +kernel
theorem dd_mo_plan_203 : decode prog_7_method_42_code 203 = .ok (.iload 6, 2) := by decide +kernel
theorem dd_mo_plan_205 : decode prog_7_method_42_code 205 = .ok (.iconst 1, 1) := by decide +kernel
theorem dd_mo_plan_206 : decode prog_7_method_42_code 206 = .ok (.iadd, 1) := by decide +kernel
theorem dd_mo_plan_207 : decode prog_7_method_42_code 207 = .ok (.if_icmp .ne 49, 3) := by decide +kernel
theorem dd_mo_plan_210 : decode prog_7_method_42_code 210 = .ok (.aload_n 0, 1) := by decide +kernel
theorem dd_mo_plan_211 : decode prog_7_method_42_code 211 = .ok (.getfield 59, 3) := by decide +kernel
theorem dd_mo_plan_214 : decode prog_7_method_42_code 214 = .ok (.iload 9, 2) := by decide +kernel
theorem dd_mo_plan_216 : decode prog_7_method_42_code 216 = .ok (.baload, 1) := by decide +kernel
theorem dd_mo_plan_217 : decode prog_7_method_42_code 217 = .ok (.ifCond .eq 39, 3) := by decide +kernel
theorem dd_mo_plan_220 : decode prog_7_method_42_code 220 = .ok (.iload 9, 2) := by decide +kernel
theorem dd_mo_plan_222 : decode prog_7_method_42_code 222 = .ok (.istore 7, 2) := by decide +kernel
theorem dd_mo_plan_224 : decode prog_7_method_42_code 224 = .ok (.bipush 100, 2) := by decide +kernel
theorem dd_mo_plan_226 : decode prog_7_method_42_code 226 = .ok (.iload 8, 2) := by decide +kernel
theorem dd_mo_plan_228 : decode prog_7_method_42_code 228 = .ok (.iconst 2, 1) := by decide +kernel
theorem dd_mo_plan_229 : decode prog_7_method_42_code 229 = .ok (.idiv, 1) := by decide +kernel
theorem dd_mo_plan_230 : decode prog_7_method_42_code 230 = .ok (.aload_n 0, 1) := by decide +kernel
theorem dd_mo_plan_231 : decode prog_7_method_42_code 231 = .ok (.getfield 69, 3) := by decide +kernel
theorem dd_mo_plan_234 : decode prog_7_method_42_code 234 = .ok (.idiv, 1) := by decide +kernel
theorem dd_mo_plan_235 : decode prog_7_method_42_code 235 = .ok (.imul, 1) := by decide +kernel
theorem dd_mo_plan_236 : decode prog_7_method_42_code 236 = .ok (.bipush 10, 2) := by decide +kernel
theorem dd_mo_plan_238 : decode prog_7_method_42_code 238 = .ok (.iload 8, 2) := by decide +kernel
theorem dd_mo_plan_240 : decode prog_7_method_42_code 240 = .ok (.iconst 2, 1) := by decide +kernel
theorem dd_mo_plan_241 : decode prog_7_method_42_code 241 = .ok (.idiv, 1) := by decide +kernel
theorem dd_mo_plan_242 : decode prog_7_method_42_code 242 = .ok (.aload_n 0, 1) := by decide +kernel
theorem dd_mo_plan_243 : decode prog_7_method_42_code 243 = .ok (.getfield 69, 3) := by decide +kernel
theorem dd_mo_plan_246 : decode prog_7_method_42_code 246 = .ok (.irem, 1) := by decide +kernel
theorem dd_mo_plan_247 : decode prog_7_method_42_code 247 = .ok (.imul, 1) := by decide +kernel
theorem dd_mo_plan_248 : decode prog_7_method_42_code 248 = .ok (.iadd, 1) := by decide +kernel
theorem dd_mo_plan_249 : decode prog_7_method_42_code 249 = .ok (.iload 8, 2) := by decide +kernel
theorem dd_mo_plan_251 : decode prog_7_method_42_code 251 = .ok (.iconst 2, 1) := by decide +kernel
theorem dd_mo_plan_252 : decode prog_7_method_42_code 252 = .ok (.irem, 1) := by decide +kernel
theorem dd_mo_plan_253 : decode prog_7_method_42_code 253 = .ok (.iadd, 1) := by decide +kernel
theorem dd_mo_plan_254 : decode prog_7_method_42_code 254 = .ok (.istore 5, 2) := by decide +kernel
theorem dd_mo_plan_256 : decode prog_7_method_42_code 256 = .ok (.iinc 8 1, 3) := by decide +kernel
theorem dd_mo_plan_259 : decode prog_7_method_42_code 259 = .ok (.goto (-127), 3) := by decide +kernel
theorem dd_mo_plan_262 : decode prog_7_method_42_code 262 = .ok (.iload 7, 2) := by decide +kernel
theorem dd_mo_plan_264 : decode prog_7_method_42_code 264 = .ok (.istore 4, 2) := by decide +kernel
theorem dd_mo_plan_266 : decode prog_7_method_42_code 266 = .ok (.iinc 6 1, 3) := by decide +kernel
theorem dd_mo_plan_269 : decode prog_7_method_42_code 269 = .ok (.goto (-149), 3) := by decide +kernel
theorem dd_mo_plan_272 : decode prog_7_method_42_code 272 = .ok (.iload 5, 2) := by decide +kernel
theorem dd_mo_plan_274 : decode prog_7_method_42_code 274 = .ok (.ireturn, 1) := by decide +kernel
