/-! decode rows: printed by wip/whole/facts.py -/
theorem dd_mo_mark_0 : decode prog_7_method_41_code 0 = .ok (.iconst 0, 1) := by decide +kernel
theorem dd_mo_mark_1 : decode prog_7_method_41_code 1 = .ok (.istore_n 3, 1) := by decide +kernel
theorem dd_mo_mark_2 : decode prog_7_method_41_code 2 = .ok (.iload_n 3, 1) := by decide +kernel
theorem dd_mo_mark_3 : decode prog_7_method_41_code 3 = .ok (.sipush 4096, 3) := by decide +kernel
theorem dd_mo_mark_6 : decode prog_7_method_41_code 6 = .ok (.if_icmp .ge 43, 3) := by decide +kernel
theorem dd_mo_mark_9 : decode prog_7_method_41_code 9 = .ok (.aload_n 0, 1) := by decide +kernel
theorem dd_mo_mark_10 : decode prog_7_method_41_code 10 = .ok (.getfield 59, 3) := by decide +kernel
theorem dd_mo_mark_13 : decode prog_7_method_41_code 13 = .ok (.iload_n 3, 1) := by decide +kernel
theorem dd_mo_mark_14 : decode prog_7_method_41_code 14 = .ok (.aload_n 0, 1) := by decide +kernel
theorem dd_mo_mark_15 : decode prog_7_method_41_code 15 = .ok (.getfield 56, 3) := by decide +kernel
theorem dd_mo_mark_18 : decode prog_7_method_41_code 18 = .ok (.iload_n 3, 1) := by decide +kernel
theorem dd_mo_mark_19 : decode prog_7_method_41_code 19 = .ok (.iaload, 1) := by decide +kernel
theorem dd_mo_mark_20 : decode prog_7_method_41_code 20 = .ok (.aload_n 0, 1) := by decide +kernel
theorem dd_mo_mark_21 : decode prog_7_method_41_code 21 = .ok (.getfield 138, 3) := by decide +kernel
theorem dd_mo_mark_24 : decode prog_7_method_41_code 24 = .ok (.if_icmp .ne 17, 3) := by decide +kernel
theorem dd_mo_mark_27 : decode prog_7_method_41_code 27 = .ok (.aload_n 0, 1) := by decide +kernel
theorem dd_mo_mark_28 : decode prog_7_method_41_code 28 = .ok (.iload_n 3, 1) := by decide +kernel
theorem dd_mo_mark_29 : decode prog_7_method_41_code 29 = .ok (.iload_n 1, 1) := by decide +kernel
theorem dd_mo_mark_30 : decode prog_7_method_41_code 30 = .ok (.iload_n 2, 1) := by decide +kernel
theorem dd_mo_mark_31 : decode prog_7_method_41_code 31 = .ok (.invokevirtual 141, 3) := by decide +kernel
theorem dd_mo_mark_34 : decode prog_7_method_41_code 34 = .ok (.ifCond .eq 7, 3) := by decide +kernel
theorem dd_mo_mark_37 : decode prog_7_method_41_code 37 = .ok (.iconst 1, 1) := by decide +kernel
theorem dd_mo_mark_38 : decode prog_7_method_41_code 38 = .ok (.goto 4, 3) := by decide +kernel
theorem dd_mo_mark_41 : decode prog_7_method_41_code 41 = .ok (.iconst 0, 1) := by decide +kernel
theorem dd_mo_mark_42 : decode prog_7_method_41_code 42 = .ok (.bastore, 1) := by decide +kernel
theorem dd_mo_mark_43 : decode prog_7_method_41_code 43 = .ok (.iinc 3 1, 3) := by decide +kernel
theorem dd_mo_mark_46 : decode prog_7_method_41_code 46 = .ok (.goto (-44), 3) := by decide +kernel
theorem dd_mo_mark_49 : decode prog_7_method_41_code 49 = .ok (.aload_n 0, 1) := by decide +kernel
theorem dd_mo_mark_50 : decode prog_7_method_41_code 50 = .ok (.getfield 135, 3) := by decide +kernel
theorem dd_mo_mark_53 : decode prog_7_method_41_code 53 = .ok (.iconst 1, 1) := by decide +kernel
theorem dd_mo_mark_54 : decode prog_7_method_41_code 54 = .ok (.isub, 1) := by decide +kernel
theorem dd_mo_mark_55 : decode prog_7_method_41_code 55 = .ok (.istore_n 3, 1) := by decide +kernel
theorem dd_mo_mark_56 : decode prog_7_method_41_code 56 = .ok (.iload_n 3, 1) := by decide +kernel
theorem dd_mo_mark_57 : decode prog_7_method_41_code 57 = .ok (.ifCond .lt 150, 3) := by decide +kernel
theorem dd_mo_mark_60 : decode prog_7_method_41_code 60 = .ok (.aload_n 0, 1) := by decide +kernel
theorem dd_mo_mark_61 : decode prog_7_method_41_code 61 = .ok (.getfield 62, 3) := by decide +kernel
theorem dd_mo_mark_64 : decode prog_7_method_41_code 64 = .ok (.iload_n 3, 1) := by decide +kernel
theorem dd_mo_mark_65 : decode prog_7_method_41_code 65 = .ok (.iaload, 1) := by decide +kernel
theorem dd_mo_mark_66 : decode prog_7_method_41_code 66 = .ok (.istore 4, 2) := by decide +kernel
theorem dd_mo_mark_68 : decode prog_7_method_41_code 68 = .ok (.iconst 0, 1) := by decide +kernel
theorem dd_mo_mark_69 : decode prog_7_method_41_code 69 = .ok (.istore 5, 2) := by decide +kernel
theorem dd_mo_mark_71 : decode prog_7_method_41_code 71 = .ok (.iload 5, 2) := by decide +kernel
theorem dd_mo_mark_73 : decode prog_7_method_41_code 73 = .ok (.iconst 2, 1) := by decide +kernel
theorem dd_mo_mark_74 : decode prog_7_method_41_code 74 = .ok (.aload_n 0, 1) := by decide +kernel
theorem dd_mo_mark_75 : decode prog_7_method_41_code 75 = .ok (.getfield 72, 3) := by decide +kernel
theorem dd_mo_mark_78 : decode prog_7_method_41_code 78 = .ok (.imul, 1) := by decide +kernel
theorem dd_mo_mark_79 : decode prog_7_method_41_code 79 = .ok (.aload_n 0, 1) := by decide +kernel
theorem dd_mo_mark_80 : decode prog_7_method_41_code 80 = .ok (.getfield 69, 3) := by decide +kernel
theorem dd_mo_mark_83 : decode prog_7_method_41_code 83 = .ok (.imul, 1) := by decide +kernel
theorem dd_mo_mark_84 : decode prog_7_method_41_code 84 = .ok (.if_icmp .ge 117, 3) := by decide +kernel
theorem dd_mo_mark_87 : decode prog_7_method_41_code 87 = .ok (.aload_n 0, 1) := by decide +kernel
theorem dd_mo_mark_88 : decode prog_7_method_41_code 88 = .ok (.getfield 56, 3) := by decide +kernel
theorem dd_mo_mark_91 : decode prog_7_method_41_code 91 = .ok (.iload 4, 2) := by decide +kernel
theorem dd_mo_mark_93 : decode prog_7_method_41_code 93 = .ok (.iaload, 1) := by decide +kernel
theorem dd_mo_mark_94 : decode prog_7_method_41_code 94 = .ok (.aload_n 0, 1) := by decide +kernel
theorem dd_mo_mark_95 : decode prog_7_method_41_code 95 = .ok (.getfield 138, 3) := by decide +kernel
theorem dd_mo_mark_98 : decode prog_7_method_41_code 98 = .ok (.if_icmp .ge 103, 3) := by decide +kernel
theorem dd_mo_mark_101 : decode prog_7_method_41_code 101 = .ok (.aload_n 0, 1) := by decide +kernel
theorem dd_mo_mark_102 : decode prog_7_method_41_code 102 = .ok (.iload 4, 2) := by decide +kernel
theorem dd_mo_mark_104 : decode prog_7_method_41_code 104 = .ok (.iload 5, 2) := by decide +kernel
theorem dd_mo_mark_106 : decode prog_7_method_41_code 106 = .ok (.iconst 2, 1) := by decide +kernel
theorem dd_mo_mark_107 : decode prog_7_method_41_code 107 = .ok (.idiv, 1) := by decide +kernel
theorem dd_mo_mark_108 : decode prog_7_method_41_code 108 = .ok (.aload_n 0, 1) := by decide +kernel
theorem dd_mo_mark_109 : decode prog_7_method_41_code 109 = .ok (.getfield 69, 3) := by decide +kernel
theorem dd_mo_mark_112 : decode prog_7_method_41_code 112 = .ok (.idiv, 1) := by decide +kernel
theorem dd_mo_mark_113 : decode prog_7_method_41_code 113 = .ok (.iload 5, 2) := by decide +kernel
theorem dd_mo_mark_115 : decode prog_7_method_41_code 115 = .ok (.iconst 2, 1) := by decide +kernel
theorem dd_mo_mark_116 : decode prog_7_method_41_code 116 = .ok (.idiv, 1) := by decide +kernel
theorem dd_mo_mark_117 : decode prog_7_method_41_code 117 = .ok (.aload_n 0, 1) := by decide +kernel
theorem dd_mo_mark_118 : decode prog_7_method_41_code 118 = .ok (.getfield 69, 3) := by decide +kernel
theorem dd_mo_mark_121 : decode prog_7_method_41_code 121 = .ok (.irem, 1) := by decide +kernel
theorem dd_mo_mark_122 : decode prog_7_method_41_code 122 = .ok (.iload 5, 2) := by decide +kernel
theorem dd_mo_mark_124 : decode prog_7_method_41_code 124 = .ok (.iconst 2, 1) := by decide +kernel
theorem dd_mo_mark_125 : decode prog_7_method_41_code 125 = .ok (.irem, 1) := by decide +kernel
theorem dd_mo_mark_126 : decode prog_7_method_41_code 126 = .ok (.ifCond .ne 7, 3) := by decide +kernel
theorem dd_mo_mark_129 : decode prog_7_method_41_code 129 = .ok (.iconst 1, 1) := by decide +kernel
theorem dd_mo_mark_130 : decode prog_7_method_41_code 130 = .ok (.goto 4, 3) := by decide +kernel
theorem dd_mo_mark_133 : decode prog_7_method_41_code 133 = .ok (.iconst 0, 1) := by decide +kernel
theorem dd_mo_mark_134 : decode prog_7_method_41_code 134 = .ok (.invokevirtual 144, 3) := by decide +kernel
theorem dd_mo_mark_137 : decode prog_7_method_41_code 137 = .ok (.istore 6, 2) := by decide +kernel
theorem dd_mo_mark_139 : decode prog_7_method_41_code 139 = .ok (.aload_n 0, 1) := by decide +kernel
theorem dd_mo_mark_140 : decode prog_7_method_41_code 140 = .ok (.getfield 59, 3) := by decide +kernel
theorem dd_mo_mark_143 : decode prog_7_method_41_code 143 = .ok (.iload 4, 2) := by decide +kernel
theorem dd_mo_mark_145 : decode prog_7_method_41_code 145 = .ok (.aload_n 0, 1) := by decide +kernel
theorem dd_mo_mark_146 : decode prog_7_method_41_code 146 = .ok (.getfield 59, 3) := by decide +kernel
theorem dd_mo_mark_149 : decode prog_7_method_41_code 149 = .ok (.iload 4, 2) := by decide +kernel
theorem dd_mo_mark_151 : decode prog_7_method_41_code 151 = .ok (.baload, 1) := by decide +kernel
theorem dd_mo_mark_152 : decode prog_7_method_41_code 152 = .ok (.ifCond .ne 37, 3) := by decide +kernel
theorem dd_mo_mark_155 : decode prog_7_method_41_code 155 = .ok (.iload 6, 2) := by decide +kernel
theorem dd_mo_mark_157 : decode prog_7_method_41_code 157 = .ok (.ifCond .lt 36, 3) := by decide +kernel
theorem dd_mo_mark_160 : decode prog_7_method_41_code 160 = .ok (.aload_n 0, 1) := by decide +kernel
theorem dd_mo_mark_161 : decode prog_7_method_41_code 161 = .ok (.getfield 56, 3) := by decide +kernel
theorem dd_mo_mark_164 : decode prog_7_method_41_code 164 = .ok (.iload 6, 2) := by decide +kernel
theorem dd_mo_mark_166 : decode prog_7_method_41_code 166 = .ok (.iaload, 1) := by decide +kernel
theorem dd_mo_mark_167 : decode prog_7_method_41_code 167 = .ok (.aload_n 0, 1) := by decide +kernel
theorem dd_mo_mark_168 : decode prog_7_method_41_code 168 = .ok (.getfield 56, 3) := by decide +kernel
theorem dd_mo_mark_171 : decode prog_7_method_41_code 171 = .ok (.iload 4, 2) := by decide +kernel
theorem dd_mo_mark_173 : decode prog_7_method_41_code 173 = .ok (.iaload, 1) := by decide +kernel
theorem dd_mo_mark_174 : decode prog_7_method_41_code 174 = .ok (.iconst 1, 1) := by decide +kernel
theorem dd_mo_mark_175 : decode prog_7_method_41_code 175 = .ok (.iadd, 1) := by decide +kernel
theorem dd_mo_mark_176 : decode prog_7_method_41_code 176 = .ok (.if_icmp .ne 17, 3) := by decide +kernel
theorem dd_mo_mark_179 : decode prog_7_method_41_code 179 = .ok (.aload_n 0, 1) := by decide +kernel
theorem dd_mo_mark_180 : decode prog_7_method_41_code 180 = .ok (.getfield 59, 3) := by decide +kernel
theorem dd_mo_mark_183 : decode prog_7_method_41_code 183 = .ok (.iload 6, 2) := by decide +kernel
theorem dd_mo_mark_185 : decode prog_7_method_41_code 185 = .ok (.baload, 1) := by decide +kernel
theorem dd_mo_mark_186 : decode prog_7_method_41_code 186 = .ok (.ifCond .eq 7, 3) := by decide +kernel
theorem dd_mo_mark_189 : decode prog_7_method_41_code 189 = .ok (.iconst 1, 1) := by decide +kernel
theorem dd_mo_mark_190 : decode prog_7_method_41_code 190 = .ok (.goto 4, 3) := by decide +kernel
theorem dd_mo_mark_193 : decode prog_7_method_41_code 193 = .ok (.iconst 0, 1) := by decide +kernel
theorem dd_mo_mark_194 : decode prog_7_method_41_code 194 = .ok (.bastore, 1) := by decide +kernel
theorem dd_mo_mark_195 : decode prog_7_method_41_code 195 = .ok (.iinc 5 1, 3) := by decide +kernel
theorem dd_mo_mark_198 : decode prog_7_method_41_code 198 = .ok (.goto (-127), 3) := by decide +kernel
theorem dd_mo_mark_201 : decode prog_7_method_41_code 201 = .ok (.iinc 3 (-1), 3) := by decide +kernel
theorem dd_mo_mark_204 : decode prog_7_method_41_code 204 = .ok (.goto (-148), 3) := by decide +kernel
theorem dd_mo_mark_207 : decode prog_7_method_41_code 207 = .ok (.return_, 1) := by decide +kernel
