theorem dX10_work_314 : decode cX10_work 314 = .ok (.iconst 0, 1) := by decide +kernel
theorem dX10_work_315 : decode cX10_work 315 = .ok (.isub, 1) := by decide +kernel
theorem dX10_work_316 : decode cX10_work 316 = .ok (.iastore, 1) := by decide +kernel
theorem dX10_work_317 : decode cX10_work 317 = .ok (.iinc 3 1, 3) := by decide +kernel
theorem dX10_work_320 : decode cX10_work 320 = .ok (.goto (-99), 3) := by decide +kernel
theorem dX10_work_323 : decode cX10_work 323 = .ok (.aload_n 0, 1) := by decide +kernel
theorem dX10_work_324 : decode cX10_work 324 = .ok (.iload_n 2, 1) := by decide +kernel
theorem dX10_work_325 : decode cX10_work 325 = .ok (.invokevirtual 152, 3) := by decide +kernel
theorem dX10_work_328 : decode cX10_work 328 = .ok (.return_, 1) := by decide +kernel
theorem dX10_digestOf_0 : decode cX10_digestOf 0 = .ok (.bipush 7, 2) := by decide +kernel
theorem dX10_digestOf_2 : decode cX10_digestOf 2 = .ok (.istore_n 2, 1) := by decide +kernel
theorem dX10_digestOf_3 : decode cX10_digestOf 3 = .ok (.iconst 0, 1) := by decide +kernel
theorem dX10_digestOf_4 : decode cX10_digestOf 4 = .ok (.istore_n 3, 1) := by decide +kernel
theorem dX10_digestOf_5 : decode cX10_digestOf 5 = .ok (.iload_n 3, 1) := by decide +kernel
theorem dX10_digestOf_6 : decode cX10_digestOf 6 = .ok (.aload_n 0, 1) := by decide +kernel
theorem dX10_digestOf_7 : decode cX10_digestOf 7 = .ok (.getfield 107, 3) := by decide +kernel
theorem dX10_digestOf_10 : decode cX10_digestOf 10 = .ok (.if_icmp .ge 111, 3) := by decide +kernel
theorem dX10_digestOf_13 : decode cX10_digestOf 13 = .ok (.iload_n 1, 1) := by decide +kernel
theorem dX10_digestOf_14 : decode cX10_digestOf 14 = .ok (.bipush 6, 2) := by decide +kernel
theorem dX10_digestOf_16 : decode cX10_digestOf 16 = .ok (.iload_n 3, 1) := by decide +kernel
theorem dX10_digestOf_17 : decode cX10_digestOf 17 = .ok (.imul, 1) := by decide +kernel
theorem dX10_digestOf_18 : decode cX10_digestOf 18 = .ok (.iadd, 1) := by decide +kernel
theorem dX10_digestOf_19 : decode cX10_digestOf 19 = .ok (.istore 4, 2) := by decide +kernel
theorem dX10_digestOf_21 : decode cX10_digestOf 21 = .ok (.bipush 31, 2) := by decide +kernel
theorem dX10_digestOf_23 : decode cX10_digestOf 23 = .ok (.iload_n 2, 1) := by decide +kernel
theorem dX10_digestOf_24 : decode cX10_digestOf 24 = .ok (.imul, 1) := by decide +kernel
theorem dX10_digestOf_25 : decode cX10_digestOf 25 = .ok (.aload_n 0, 1) := by decide +kernel
theorem dX10_digestOf_26 : decode cX10_digestOf 26 = .ok (.getfield 39, 3) := by decide +kernel
theorem dX10_digestOf_29 : decode cX10_digestOf 29 = .ok (.iload 4, 2) := by decide +kernel
theorem dX10_digestOf_31 : decode cX10_digestOf 31 = .ok (.iconst 0, 1) := by decide +kernel
theorem dX10_digestOf_32 : decode cX10_digestOf 32 = .ok (.iadd, 1) := by decide +kernel
theorem dX10_digestOf_33 : decode cX10_digestOf 33 = .ok (.iaload, 1) := by decide +kernel
theorem dX10_digestOf_34 : decode cX10_digestOf 34 = .ok (.iadd, 1) := by decide +kernel
theorem dX10_digestOf_35 : decode cX10_digestOf 35 = .ok (.istore_n 2, 1) := by decide +kernel
theorem dX10_digestOf_36 : decode cX10_digestOf 36 = .ok (.bipush 31, 2) := by decide +kernel
theorem dX10_digestOf_38 : decode cX10_digestOf 38 = .ok (.iload_n 2, 1) := by decide +kernel
theorem dX10_digestOf_39 : decode cX10_digestOf 39 = .ok (.imul, 1) := by decide +kernel
theorem dX10_digestOf_40 : decode cX10_digestOf 40 = .ok (.aload_n 0, 1) := by decide +kernel
theorem dX10_digestOf_41 : decode cX10_digestOf 41 = .ok (.getfield 39, 3) := by decide +kernel
theorem dX10_digestOf_44 : decode cX10_digestOf 44 = .ok (.iload 4, 2) := by decide +kernel
theorem dX10_digestOf_46 : decode cX10_digestOf 46 = .ok (.iconst 1, 1) := by decide +kernel
theorem dX10_digestOf_47 : decode cX10_digestOf 47 = .ok (.iadd, 1) := by decide +kernel
theorem dX10_digestOf_48 : decode cX10_digestOf 48 = .ok (.iaload, 1) := by decide +kernel
theorem dX10_digestOf_49 : decode cX10_digestOf 49 = .ok (.iadd, 1) := by decide +kernel
theorem dX10_digestOf_50 : decode cX10_digestOf 50 = .ok (.istore_n 2, 1) := by decide +kernel
theorem dX10_digestOf_51 : decode cX10_digestOf 51 = .ok (.bipush 31, 2) := by decide +kernel
theorem dX10_digestOf_53 : decode cX10_digestOf 53 = .ok (.iload_n 2, 1) := by decide +kernel
theorem dX10_digestOf_54 : decode cX10_digestOf 54 = .ok (.imul, 1) := by decide +kernel
theorem dX10_digestOf_55 : decode cX10_digestOf 55 = .ok (.aload_n 0, 1) := by decide +kernel
theorem dX10_digestOf_56 : decode cX10_digestOf 56 = .ok (.getfield 39, 3) := by decide +kernel
theorem dX10_digestOf_59 : decode cX10_digestOf 59 = .ok (.iload 4, 2) := by decide +kernel
theorem dX10_digestOf_61 : decode cX10_digestOf 61 = .ok (.iconst 2, 1) := by decide +kernel
theorem dX10_digestOf_62 : decode cX10_digestOf 62 = .ok (.iadd, 1) := by decide +kernel
theorem dX10_digestOf_63 : decode cX10_digestOf 63 = .ok (.iaload, 1) := by decide +kernel
theorem dX10_digestOf_64 : decode cX10_digestOf 64 = .ok (.iadd, 1) := by decide +kernel
theorem dX10_digestOf_65 : decode cX10_digestOf 65 = .ok (.istore_n 2, 1) := by decide +kernel
theorem dX10_digestOf_66 : decode cX10_digestOf 66 = .ok (.bipush 31, 2) := by decide +kernel
theorem dX10_digestOf_68 : decode cX10_digestOf 68 = .ok (.iload_n 2, 1) := by decide +kernel
theorem dX10_digestOf_69 : decode cX10_digestOf 69 = .ok (.imul, 1) := by decide +kernel
theorem dX10_digestOf_70 : decode cX10_digestOf 70 = .ok (.aload_n 0, 1) := by decide +kernel
theorem dX10_digestOf_71 : decode cX10_digestOf 71 = .ok (.getfield 39, 3) := by decide +kernel
theorem dX10_digestOf_74 : decode cX10_digestOf 74 = .ok (.iload 4, 2) := by decide +kernel
theorem dX10_digestOf_76 : decode cX10_digestOf 76 = .ok (.iconst 3, 1) := by decide +kernel
theorem dX10_digestOf_77 : decode cX10_digestOf 77 = .ok (.iadd, 1) := by decide +kernel
theorem dX10_digestOf_78 : decode cX10_digestOf 78 = .ok (.iaload, 1) := by decide +kernel
theorem dX10_digestOf_79 : decode cX10_digestOf 79 = .ok (.iadd, 1) := by decide +kernel
theorem dX10_digestOf_80 : decode cX10_digestOf 80 = .ok (.istore_n 2, 1) := by decide +kernel
theorem dX10_digestOf_81 : decode cX10_digestOf 81 = .ok (.bipush 31, 2) := by decide +kernel
theorem dX10_digestOf_83 : decode cX10_digestOf 83 = .ok (.iload_n 2, 1) := by decide +kernel
theorem dX10_digestOf_84 : decode cX10_digestOf 84 = .ok (.imul, 1) := by decide +kernel
theorem dX10_digestOf_85 : decode cX10_digestOf 85 = .ok (.aload_n 0, 1) := by decide +kernel
theorem dX10_digestOf_86 : decode cX10_digestOf 86 = .ok (.getfield 39, 3) := by decide +kernel
theorem dX10_digestOf_89 : decode cX10_digestOf 89 = .ok (.iload 4, 2) := by decide +kernel
theorem dX10_digestOf_91 : decode cX10_digestOf 91 = .ok (.iconst 4, 1) := by decide +kernel
theorem dX10_digestOf_92 : decode cX10_digestOf 92 = .ok (.iadd, 1) := by decide +kernel
theorem dX10_digestOf_93 : decode cX10_digestOf 93 = .ok (.iaload, 1) := by decide +kernel
theorem dX10_digestOf_94 : decode cX10_digestOf 94 = .ok (.iadd, 1) := by decide +kernel
theorem dX10_digestOf_95 : decode cX10_digestOf 95 = .ok (.iconst 1, 1) := by decide +kernel
theorem dX10_digestOf_96 : decode cX10_digestOf 96 = .ok (.iadd, 1) := by decide +kernel
theorem dX10_digestOf_97 : decode cX10_digestOf 97 = .ok (.istore_n 2, 1) := by decide +kernel
theorem dX10_digestOf_98 : decode cX10_digestOf 98 = .ok (.bipush 31, 2) := by decide +kernel
theorem dX10_digestOf_100 : decode cX10_digestOf 100 = .ok (.iload_n 2, 1) := by decide +kernel
theorem dX10_digestOf_101 : decode cX10_digestOf 101 = .ok (.imul, 1) := by decide +kernel
theorem dX10_digestOf_102 : decode cX10_digestOf 102 = .ok (.aload_n 0, 1) := by decide +kernel
theorem dX10_digestOf_103 : decode cX10_digestOf 103 = .ok (.getfield 39, 3) := by decide +kernel
theorem dX10_digestOf_106 : decode cX10_digestOf 106 = .ok (.iload 4, 2) := by decide +kernel
theorem dX10_digestOf_108 : decode cX10_digestOf 108 = .ok (.iconst 5, 1) := by decide +kernel
theorem dX10_digestOf_109 : decode cX10_digestOf 109 = .ok (.iadd, 1) := by decide +kernel
theorem dX10_digestOf_110 : decode cX10_digestOf 110 = .ok (.iaload, 1) := by decide +kernel
theorem dX10_digestOf_111 : decode cX10_digestOf 111 = .ok (.iadd, 1) := by decide +kernel
theorem dX10_digestOf_112 : decode cX10_digestOf 112 = .ok (.iconst 1, 1) := by decide +kernel
theorem dX10_digestOf_113 : decode cX10_digestOf 113 = .ok (.iadd, 1) := by decide +kernel
theorem dX10_digestOf_114 : decode cX10_digestOf 114 = .ok (.istore_n 2, 1) := by decide +kernel
theorem dX10_digestOf_115 : decode cX10_digestOf 115 = .ok (.iinc 3 1, 3) := by decide +kernel
theorem dX10_digestOf_118 : decode cX10_digestOf 118 = .ok (.goto (-113), 3) := by decide +kernel
theorem dX10_digestOf_121 : decode cX10_digestOf 121 = .ok (.iconst 0, 1) := by decide +kernel
theorem dX10_digestOf_122 : decode cX10_digestOf 122 = .ok (.istore_n 3, 1) := by decide +kernel
theorem dX10_digestOf_123 : decode cX10_digestOf 123 = .ok (.iload_n 3, 1) := by decide +kernel
theorem dX10_digestOf_124 : decode cX10_digestOf 124 = .ok (.aload_n 0, 1) := by decide +kernel
theorem dX10_digestOf_125 : decode cX10_digestOf 125 = .ok (.getfield 104, 3) := by decide +kernel
theorem dX10_digestOf_128 : decode cX10_digestOf 128 = .ok (.if_icmp .ge 26, 3) := by decide +kernel
theorem dX10_digestOf_131 : decode cX10_digestOf 131 = .ok (.bipush 31, 2) := by decide +kernel
theorem dX10_digestOf_133 : decode cX10_digestOf 133 = .ok (.iload_n 2, 1) := by decide +kernel
theorem dX10_digestOf_134 : decode cX10_digestOf 134 = .ok (.imul, 1) := by decide +kernel
theorem dX10_digestOf_135 : decode cX10_digestOf 135 = .ok (.aload_n 0, 1) := by decide +kernel
theorem dX10_digestOf_136 : decode cX10_digestOf 136 = .ok (.getfield 39, 3) := by decide +kernel
theorem dX10_digestOf_139 : decode cX10_digestOf 139 = .ok (.iload_n 1, 1) := by decide +kernel
theorem dX10_digestOf_140 : decode cX10_digestOf 140 = .ok (.bipush 96, 2) := by decide +kernel
theorem dX10_digestOf_142 : decode cX10_digestOf 142 = .ok (.iadd, 1) := by decide +kernel
theorem dX10_digestOf_143 : decode cX10_digestOf 143 = .ok (.iload_n 3, 1) := by decide +kernel
theorem dX10_digestOf_144 : decode cX10_digestOf 144 = .ok (.iadd, 1) := by decide +kernel
theorem dX10_digestOf_145 : decode cX10_digestOf 145 = .ok (.iaload, 1) := by decide +kernel
theorem dX10_digestOf_146 : decode cX10_digestOf 146 = .ok (.iadd, 1) := by decide +kernel
theorem dX10_digestOf_147 : decode cX10_digestOf 147 = .ok (.istore_n 2, 1) := by decide +kernel
theorem dX10_digestOf_148 : decode cX10_digestOf 148 = .ok (.iinc 3 1, 3) := by decide +kernel
theorem dX10_digestOf_151 : decode cX10_digestOf 151 = .ok (.goto (-28), 3) := by decide +kernel
theorem dX10_digestOf_154 : decode cX10_digestOf 154 = .ok (.iconst 0, 1) := by decide +kernel
theorem dX10_digestOf_155 : decode cX10_digestOf 155 = .ok (.istore_n 3, 1) := by decide +kernel
theorem dX10_digestOf_156 : decode cX10_digestOf 156 = .ok (.iload_n 3, 1) := by decide +kernel
theorem dX10_digestOf_157 : decode cX10_digestOf 157 = .ok (.aload_n 0, 1) := by decide +kernel
theorem dX10_digestOf_158 : decode cX10_digestOf 158 = .ok (.getfield 16, 3) := by decide +kernel
theorem dX10_digestOf_161 : decode cX10_digestOf 161 = .ok (.if_icmp .ge 43, 3) := by decide +kernel
theorem dX10_digestOf_164 : decode cX10_digestOf 164 = .ok (.bipush 31, 2) := by decide +kernel
theorem dX10_digestOf_166 : decode cX10_digestOf 166 = .ok (.iload_n 2, 1) := by decide +kernel
theorem dX10_digestOf_167 : decode cX10_digestOf 167 = .ok (.imul, 1) := by decide +kernel
theorem dX10_digestOf_168 : decode cX10_digestOf 168 = .ok (.aload_n 0, 1) := by decide +kernel
theorem dX10_digestOf_169 : decode cX10_digestOf 169 = .ok (.getfield 39, 3) := by decide +kernel
theorem dX10_digestOf_172 : decode cX10_digestOf 172 = .ok (.iload_n 1, 1) := by decide +kernel
theorem dX10_digestOf_173 : decode cX10_digestOf 173 = .ok (.bipush 104, 2) := by decide +kernel
theorem dX10_digestOf_175 : decode cX10_digestOf 175 = .ok (.iadd, 1) := by decide +kernel
theorem dX10_digestOf_176 : decode cX10_digestOf 176 = .ok (.iload_n 3, 1) := by decide +kernel
theorem dX10_digestOf_177 : decode cX10_digestOf 177 = .ok (.iadd, 1) := by decide +kernel
theorem dX10_digestOf_178 : decode cX10_digestOf 178 = .ok (.iaload, 1) := by decide +kernel
theorem dX10_digestOf_179 : decode cX10_digestOf 179 = .ok (.iadd, 1) := by decide +kernel
theorem dX10_digestOf_180 : decode cX10_digestOf 180 = .ok (.istore_n 2, 1) := by decide +kernel
theorem dX10_digestOf_181 : decode cX10_digestOf 181 = .ok (.bipush 31, 2) := by decide +kernel
theorem dX10_digestOf_183 : decode cX10_digestOf 183 = .ok (.iload_n 2, 1) := by decide +kernel
theorem dX10_digestOf_184 : decode cX10_digestOf 184 = .ok (.imul, 1) := by decide +kernel
theorem dX10_digestOf_185 : decode cX10_digestOf 185 = .ok (.aload_n 0, 1) := by decide +kernel
theorem dX10_digestOf_186 : decode cX10_digestOf 186 = .ok (.getfield 39, 3) := by decide +kernel
theorem dX10_digestOf_189 : decode cX10_digestOf 189 = .ok (.iload_n 1, 1) := by decide +kernel
theorem dX10_digestOf_190 : decode cX10_digestOf 190 = .ok (.bipush 108, 2) := by decide +kernel
theorem dX10_digestOf_192 : decode cX10_digestOf 192 = .ok (.iadd, 1) := by decide +kernel
theorem dX10_digestOf_193 : decode cX10_digestOf 193 = .ok (.iload_n 3, 1) := by decide +kernel
theorem dX10_digestOf_194 : decode cX10_digestOf 194 = .ok (.iadd, 1) := by decide +kernel
theorem dX10_digestOf_195 : decode cX10_digestOf 195 = .ok (.iaload, 1) := by decide +kernel
theorem dX10_digestOf_196 : decode cX10_digestOf 196 = .ok (.iadd, 1) := by decide +kernel
theorem dX10_digestOf_197 : decode cX10_digestOf 197 = .ok (.istore_n 2, 1) := by decide +kernel
theorem dX10_digestOf_198 : decode cX10_digestOf 198 = .ok (.iinc 3 1, 3) := by decide +kernel
theorem dX10_digestOf_201 : decode cX10_digestOf 201 = .ok (.goto (-45), 3) := by decide +kernel
theorem dX10_digestOf_204 : decode cX10_digestOf 204 = .ok (.iload_n 2, 1) := by decide +kernel
theorem dX10_digestOf_205 : decode cX10_digestOf 205 = .ok (.ireturn, 1) := by decide +kernel
theorem dX10_letterOf_0 : decode cX10_letterOf 0 = .ok (.iload_n 1, 1) := by decide +kernel
theorem dX10_letterOf_1 : decode cX10_letterOf 1 = .ok (.bipush 6, 2) := by decide +kernel
theorem dX10_letterOf_3 : decode cX10_letterOf 3 = .ok (.iload_n 2, 1) := by decide +kernel
theorem dX10_letterOf_4 : decode cX10_letterOf 4 = .ok (.imul, 1) := by decide +kernel
theorem dX10_letterOf_5 : decode cX10_letterOf 5 = .ok (.iadd, 1) := by decide +kernel
theorem dX10_letterOf_6 : decode cX10_letterOf 6 = .ok (.istore_n 3, 1) := by decide +kernel
theorem dX10_letterOf_7 : decode cX10_letterOf 7 = .ok (.aload_n 0, 1) := by decide +kernel
theorem dX10_letterOf_8 : decode cX10_letterOf 8 = .ok (.getfield 39, 3) := by decide +kernel
theorem dX10_letterOf_11 : decode cX10_letterOf 11 = .ok (.iload_n 3, 1) := by decide +kernel
theorem dX10_letterOf_12 : decode cX10_letterOf 12 = .ok (.iconst 1, 1) := by decide +kernel
theorem dX10_letterOf_13 : decode cX10_letterOf 13 = .ok (.iadd, 1) := by decide +kernel
theorem dX10_letterOf_14 : decode cX10_letterOf 14 = .ok (.iaload, 1) := by decide +kernel
theorem dX10_letterOf_15 : decode cX10_letterOf 15 = .ok (.ifCond .ne 5, 3) := by decide +kernel
theorem dX10_letterOf_18 : decode cX10_letterOf 18 = .ok (.iconst 0, 1) := by decide +kernel
theorem dX10_letterOf_19 : decode cX10_letterOf 19 = .ok (.ireturn, 1) := by decide +kernel
theorem dX10_letterOf_20 : decode cX10_letterOf 20 = .ok (.iconst 1, 1) := by decide +kernel
theorem dX10_letterOf_21 : decode cX10_letterOf 21 = .ok (.istore 4, 2) := by decide +kernel
theorem dX10_letterOf_23 : decode cX10_letterOf 23 = .ok (.iconst 0, 1) := by decide +kernel
theorem dX10_letterOf_24 : decode cX10_letterOf 24 = .ok (.istore 5, 2) := by decide +kernel
theorem dX10_letterOf_26 : decode cX10_letterOf 26 = .ok (.iload 5, 2) := by decide +kernel
theorem dX10_letterOf_28 : decode cX10_letterOf 28 = .ok (.aload_n 0, 1) := by decide +kernel
theorem dX10_letterOf_29 : decode cX10_letterOf 29 = .ok (.getfield 7, 3) := by decide +kernel
theorem dX10_letterOf_32 : decode cX10_letterOf 32 = .ok (.aload_n 0, 1) := by decide +kernel
theorem dX10_letterOf_33 : decode cX10_letterOf 33 = .ok (.getfield 13, 3) := by decide +kernel
theorem dX10_letterOf_36 : decode cX10_letterOf 36 = .ok (.imul, 1) := by decide +kernel
theorem dX10_letterOf_37 : decode cX10_letterOf 37 = .ok (.if_icmp .ge 115, 3) := by decide +kernel
theorem dX10_letterOf_40 : decode cX10_letterOf 40 = .ok (.aload_n 0, 1) := by decide +kernel
theorem dX10_letterOf_41 : decode cX10_letterOf 41 = .ok (.iload_n 1, 1) := by decide +kernel
theorem dX10_letterOf_42 : decode cX10_letterOf 42 = .ok (.iload_n 2, 1) := by decide +kernel
theorem dX10_letterOf_43 : decode cX10_letterOf 43 = .ok (.iload 5, 2) := by decide +kernel
theorem dX10_letterOf_45 : decode cX10_letterOf 45 = .ok (.invokevirtual 211, 3) := by decide +kernel
theorem dX10_letterOf_48 : decode cX10_letterOf 48 = .ok (.ifCond .ne 6, 3) := by decide +kernel
theorem dX10_letterOf_51 : decode cX10_letterOf 51 = .ok (.goto 95, 3) := by decide +kernel
theorem dX10_letterOf_54 : decode cX10_letterOf 54 = .ok (.bipush 31, 2) := by decide +kernel
theorem dX10_letterOf_56 : decode cX10_letterOf 56 = .ok (.iload 4, 2) := by decide +kernel
theorem dX10_letterOf_58 : decode cX10_letterOf 58 = .ok (.imul, 1) := by decide +kernel
theorem dX10_letterOf_59 : decode cX10_letterOf 59 = .ok (.iload 5, 2) := by decide +kernel
theorem dX10_letterOf_61 : decode cX10_letterOf 61 = .ok (.iadd, 1) := by decide +kernel
theorem dX10_letterOf_62 : decode cX10_letterOf 62 = .ok (.sipush 128, 3) := by decide +kernel
theorem dX10_letterOf_65 : decode cX10_letterOf 65 = .ok (.aload_n 0, 1) := by decide +kernel
theorem dX10_letterOf_66 : decode cX10_letterOf 66 = .ok (.iload_n 1, 1) := by decide +kernel
theorem dX10_letterOf_67 : decode cX10_letterOf 67 = .ok (.iload 5, 2) := by decide +kernel
theorem dX10_letterOf_69 : decode cX10_letterOf 69 = .ok (.invokevirtual 226, 3) := by decide +kernel
theorem dX10_letterOf_72 : decode cX10_letterOf 72 = .ok (.imul, 1) := by decide +kernel
theorem dX10_letterOf_73 : decode cX10_letterOf 73 = .ok (.iadd, 1) := by decide +kernel
theorem dX10_letterOf_74 : decode cX10_letterOf 74 = .ok (.istore 4, 2) := by decide +kernel
theorem dX10_letterOf_76 : decode cX10_letterOf 76 = .ok (.iconst 0, 1) := by decide +kernel
theorem dX10_letterOf_77 : decode cX10_letterOf 77 = .ok (.istore 6, 2) := by decide +kernel
theorem dX10_letterOf_79 : decode cX10_letterOf 79 = .ok (.iload 6, 2) := by decide +kernel
theorem dX10_letterOf_81 : decode cX10_letterOf 81 = .ok (.aload_n 0, 1) := by decide +kernel
theorem dX10_letterOf_82 : decode cX10_letterOf 82 = .ok (.getfield 107, 3) := by decide +kernel
theorem dX10_letterOf_85 : decode cX10_letterOf 85 = .ok (.if_icmp .ge 61, 3) := by decide +kernel
theorem dX10_letterOf_88 : decode cX10_letterOf 88 = .ok (.aload_n 0, 1) := by decide +kernel
theorem dX10_letterOf_89 : decode cX10_letterOf 89 = .ok (.iload_n 1, 1) := by decide +kernel
theorem dX10_letterOf_90 : decode cX10_letterOf 90 = .ok (.iload 6, 2) := by decide +kernel
theorem dX10_letterOf_92 : decode cX10_letterOf 92 = .ok (.iload 5, 2) := by decide +kernel
theorem dX10_letterOf_94 : decode cX10_letterOf 94 = .ok (.invokevirtual 229, 3) := by decide +kernel
theorem dX10_letterOf_97 : decode cX10_letterOf 97 = .ok (.ifCond .eq 43, 3) := by decide +kernel
theorem dX10_letterOf_100 : decode cX10_letterOf 100 = .ok (.bipush 31, 2) := by decide +kernel
theorem dX10_letterOf_102 : decode cX10_letterOf 102 = .ok (.iload 4, 2) := by decide +kernel
theorem dX10_letterOf_104 : decode cX10_letterOf 104 = .ok (.imul, 1) := by decide +kernel
theorem dX10_letterOf_105 : decode cX10_letterOf 105 = .ok (.iload 6, 2) := by decide +kernel
theorem dX10_letterOf_107 : decode cX10_letterOf 107 = .ok (.iadd, 1) := by decide +kernel
theorem dX10_letterOf_108 : decode cX10_letterOf 108 = .ok (.bipush 32, 2) := by decide +kernel
theorem dX10_letterOf_110 : decode cX10_letterOf 110 = .ok (.aload_n 0, 1) := by decide +kernel
theorem dX10_letterOf_111 : decode cX10_letterOf 111 = .ok (.getfield 29, 3) := by decide +kernel
theorem dX10_letterOf_114 : decode cX10_letterOf 114 = .ok (.iload 6, 2) := by decide +kernel
theorem dX10_letterOf_116 : decode cX10_letterOf 116 = .ok (.iaload, 1) := by decide +kernel
theorem dX10_letterOf_117 : decode cX10_letterOf 117 = .ok (.imul, 1) := by decide +kernel
theorem dX10_letterOf_118 : decode cX10_letterOf 118 = .ok (.iadd, 1) := by decide +kernel
theorem dX10_letterOf_119 : decode cX10_letterOf 119 = .ok (.sipush 512, 3) := by decide +kernel
theorem dX10_letterOf_122 : decode cX10_letterOf 122 = .ok (.aload_n 0, 1) := by decide +kernel
theorem dX10_letterOf_123 : decode cX10_letterOf 123 = .ok (.getfield 39, 3) := by decide +kernel
theorem dX10_letterOf_126 : decode cX10_letterOf 126 = .ok (.iload_n 1, 1) := by decide +kernel
theorem dX10_letterOf_127 : decode cX10_letterOf 127 = .ok (.bipush 6, 2) := by decide +kernel
theorem dX10_letterOf_129 : decode cX10_letterOf 129 = .ok (.iload 6, 2) := by decide +kernel
theorem dX10_letterOf_131 : decode cX10_letterOf 131 = .ok (.imul, 1) := by decide +kernel
theorem dX10_letterOf_132 : decode cX10_letterOf 132 = .ok (.iadd, 1) := by decide +kernel
theorem dX10_letterOf_133 : decode cX10_letterOf 133 = .ok (.iconst 1, 1) := by decide +kernel
theorem dX10_letterOf_134 : decode cX10_letterOf 134 = .ok (.iadd, 1) := by decide +kernel
theorem dX10_letterOf_135 : decode cX10_letterOf 135 = .ok (.iaload, 1) := by decide +kernel
theorem dX10_letterOf_136 : decode cX10_letterOf 136 = .ok (.imul, 1) := by decide +kernel
theorem dX10_letterOf_137 : decode cX10_letterOf 137 = .ok (.iadd, 1) := by decide +kernel
theorem dX10_letterOf_138 : decode cX10_letterOf 138 = .ok (.istore 4, 2) := by decide +kernel
theorem dX10_letterOf_140 : decode cX10_letterOf 140 = .ok (.iinc 6 1, 3) := by decide +kernel
theorem dX10_letterOf_143 : decode cX10_letterOf 143 = .ok (.goto (-64), 3) := by decide +kernel
theorem dX10_letterOf_146 : decode cX10_letterOf 146 = .ok (.iinc 5 1, 3) := by decide +kernel
theorem dX10_letterOf_149 : decode cX10_letterOf 149 = .ok (.goto (-123), 3) := by decide +kernel
theorem dX10_letterOf_152 : decode cX10_letterOf 152 = .ok (.bipush 31, 2) := by decide +kernel
theorem dX10_letterOf_154 : decode cX10_letterOf 154 = .ok (.iload 4, 2) := by decide +kernel
theorem dX10_letterOf_156 : decode cX10_letterOf 156 = .ok (.imul, 1) := by decide +kernel
theorem dX10_letterOf_157 : decode cX10_letterOf 157 = .ok (.aload_n 0, 1) := by decide +kernel
theorem dX10_letterOf_158 : decode cX10_letterOf 158 = .ok (.getfield 39, 3) := by decide +kernel
theorem dX10_letterOf_161 : decode cX10_letterOf 161 = .ok (.iload_n 3, 1) := by decide +kernel
theorem dX10_letterOf_162 : decode cX10_letterOf 162 = .ok (.iconst 1, 1) := by decide +kernel
theorem dX10_letterOf_163 : decode cX10_letterOf 163 = .ok (.iadd, 1) := by decide +kernel
theorem dX10_letterOf_164 : decode cX10_letterOf 164 = .ok (.iaload, 1) := by decide +kernel
theorem dX10_letterOf_165 : decode cX10_letterOf 165 = .ok (.iadd, 1) := by decide +kernel
theorem dX10_letterOf_166 : decode cX10_letterOf 166 = .ok (.bipush 8, 2) := by decide +kernel
theorem dX10_letterOf_168 : decode cX10_letterOf 168 = .ok (.aload_n 0, 1) := by decide +kernel
theorem dX10_letterOf_169 : decode cX10_letterOf 169 = .ok (.getfield 39, 3) := by decide +kernel
theorem dX10_letterOf_172 : decode cX10_letterOf 172 = .ok (.iload_n 3, 1) := by decide +kernel
theorem dX10_letterOf_173 : decode cX10_letterOf 173 = .ok (.iconst 3, 1) := by decide +kernel
theorem dX10_letterOf_174 : decode cX10_letterOf 174 = .ok (.iadd, 1) := by decide +kernel
theorem dX10_letterOf_175 : decode cX10_letterOf 175 = .ok (.iaload, 1) := by decide +kernel
theorem dX10_letterOf_176 : decode cX10_letterOf 176 = .ok (.imul, 1) := by decide +kernel
theorem dX10_letterOf_177 : decode cX10_letterOf 177 = .ok (.iadd, 1) := by decide +kernel
theorem dX10_letterOf_178 : decode cX10_letterOf 178 = .ok (.bipush 64, 2) := by decide +kernel
theorem dX10_letterOf_180 : decode cX10_letterOf 180 = .ok (.aload_n 0, 1) := by decide +kernel
theorem dX10_letterOf_181 : decode cX10_letterOf 181 = .ok (.getfield 39, 3) := by decide +kernel
theorem dX10_letterOf_184 : decode cX10_letterOf 184 = .ok (.iload_n 3, 1) := by decide +kernel
theorem dX10_letterOf_185 : decode cX10_letterOf 185 = .ok (.iconst 4, 1) := by decide +kernel
theorem dX10_letterOf_186 : decode cX10_letterOf 186 = .ok (.iadd, 1) := by decide +kernel
theorem dX10_letterOf_187 : decode cX10_letterOf 187 = .ok (.iaload, 1) := by decide +kernel
theorem dX10_letterOf_188 : decode cX10_letterOf 188 = .ok (.iconst 1, 1) := by decide +kernel
theorem dX10_letterOf_189 : decode cX10_letterOf 189 = .ok (.iadd, 1) := by decide +kernel
theorem dX10_letterOf_190 : decode cX10_letterOf 190 = .ok (.imul, 1) := by decide +kernel
theorem dX10_letterOf_191 : decode cX10_letterOf 191 = .ok (.iadd, 1) := by decide +kernel
theorem dX10_letterOf_192 : decode cX10_letterOf 192 = .ok (.istore 4, 2) := by decide +kernel
theorem dX10_letterOf_194 : decode cX10_letterOf 194 = .ok (.bipush 31, 2) := by decide +kernel
theorem dX10_letterOf_196 : decode cX10_letterOf 196 = .ok (.iload 4, 2) := by decide +kernel
theorem dX10_letterOf_198 : decode cX10_letterOf 198 = .ok (.imul, 1) := by decide +kernel
theorem dX10_letterOf_199 : decode cX10_letterOf 199 = .ok (.aload_n 0, 1) := by decide +kernel
theorem dX10_letterOf_200 : decode cX10_letterOf 200 = .ok (.getfield 39, 3) := by decide +kernel
theorem dX10_letterOf_203 : decode cX10_letterOf 203 = .ok (.iload_n 1, 1) := by decide +kernel
theorem dX10_letterOf_204 : decode cX10_letterOf 204 = .ok (.bipush 108, 2) := by decide +kernel
theorem dX10_letterOf_206 : decode cX10_letterOf 206 = .ok (.iadd, 1) := by decide +kernel
theorem dX10_letterOf_207 : decode cX10_letterOf 207 = .ok (.iload_n 2, 1) := by decide +kernel
theorem dX10_letterOf_208 : decode cX10_letterOf 208 = .ok (.iadd, 1) := by decide +kernel
theorem dX10_letterOf_209 : decode cX10_letterOf 209 = .ok (.iaload, 1) := by decide +kernel
theorem dX10_letterOf_210 : decode cX10_letterOf 210 = .ok (.iadd, 1) := by decide +kernel
theorem dX10_letterOf_211 : decode cX10_letterOf 211 = .ok (.ireturn, 1) := by decide +kernel
theorem dX10_mapTold_0 : decode cX10_mapTold 0 = .ok (.aload_n 0, 1) := by decide +kernel
theorem dX10_mapTold_1 : decode cX10_mapTold 1 = .ok (.getfield 19, 3) := by decide +kernel
theorem dX10_mapTold_4 : decode cX10_mapTold 4 = .ok (.iload_n 2, 1) := by decide +kernel
theorem dX10_mapTold_5 : decode cX10_mapTold 5 = .ok (.iaload, 1) := by decide +kernel
theorem dX10_mapTold_6 : decode cX10_mapTold 6 = .ok (.iconst 2, 1) := by decide +kernel
theorem dX10_mapTold_7 : decode cX10_mapTold 7 = .ok (.if_icmp .ne 16, 3) := by decide +kernel
theorem dX10_mapTold_10 : decode cX10_mapTold 10 = .ok (.aload_n 0, 1) := by decide +kernel
theorem dX10_mapTold_11 : decode cX10_mapTold 11 = .ok (.iload_n 1, 1) := by decide +kernel
theorem dX10_mapTold_12 : decode cX10_mapTold 12 = .ok (.iload_n 2, 1) := by decide +kernel
theorem dX10_mapTold_13 : decode cX10_mapTold 13 = .ok (.invokevirtual 165, 3) := by decide +kernel
theorem dX10_mapTold_16 : decode cX10_mapTold 16 = .ok (.ifCond .ne 7, 3) := by decide +kernel
theorem dX10_mapTold_19 : decode cX10_mapTold 19 = .ok (.iconst 4, 1) := by decide +kernel
theorem dX10_mapTold_20 : decode cX10_mapTold 20 = .ok (.goto 9, 3) := by decide +kernel
theorem dX10_mapTold_23 : decode cX10_mapTold 23 = .ok (.aload_n 0, 1) := by decide +kernel
theorem dX10_mapTold_24 : decode cX10_mapTold 24 = .ok (.getfield 19, 3) := by decide +kernel
theorem dX10_mapTold_27 : decode cX10_mapTold 27 = .ok (.iload_n 2, 1) := by decide +kernel
theorem dX10_mapTold_28 : decode cX10_mapTold 28 = .ok (.iaload, 1) := by decide +kernel
theorem dX10_mapTold_29 : decode cX10_mapTold 29 = .ok (.ireturn, 1) := by decide +kernel
theorem dX10_isTold_0 : decode cX10_isTold 0 = .ok (.aload_n 0, 1) := by decide +kernel
theorem dX10_isTold_1 : decode cX10_isTold 1 = .ok (.getfield 39, 3) := by decide +kernel
theorem dX10_isTold_4 : decode cX10_isTold 4 = .ok (.iload_n 1, 1) := by decide +kernel
theorem dX10_isTold_5 : decode cX10_isTold 5 = .ok (.bipush 6, 2) := by decide +kernel
theorem dX10_isTold_7 : decode cX10_isTold 7 = .ok (.iload_n 2, 1) := by decide +kernel
theorem dX10_isTold_8 : decode cX10_isTold 8 = .ok (.imul, 1) := by decide +kernel
theorem dX10_isTold_9 : decode cX10_isTold 9 = .ok (.iadd, 1) := by decide +kernel
theorem dX10_isTold_10 : decode cX10_isTold 10 = .ok (.iconst 0, 1) := by decide +kernel
theorem dX10_isTold_11 : decode cX10_isTold 11 = .ok (.iadd, 1) := by decide +kernel
theorem dX10_isTold_12 : decode cX10_isTold 12 = .ok (.iaload, 1) := by decide +kernel
theorem dX10_isTold_13 : decode cX10_isTold 13 = .ok (.iload_n 3, 1) := by decide +kernel
theorem dX10_isTold_14 : decode cX10_isTold 14 = .ok (.if_icmp .ne 35, 3) := by decide +kernel
theorem dX10_isTold_17 : decode cX10_isTold 17 = .ok (.aload_n 0, 1) := by decide +kernel
theorem dX10_isTold_18 : decode cX10_isTold 18 = .ok (.getfield 29, 3) := by decide +kernel
theorem dX10_isTold_21 : decode cX10_isTold 21 = .ok (.iload_n 2, 1) := by decide +kernel
theorem dX10_isTold_22 : decode cX10_isTold 22 = .ok (.iaload, 1) := by decide +kernel
theorem dX10_isTold_23 : decode cX10_isTold 23 = .ok (.iconst 4, 1) := by decide +kernel
theorem dX10_isTold_24 : decode cX10_isTold 24 = .ok (.if_icmp .eq 25, 3) := by decide +kernel
theorem dX10_isTold_27 : decode cX10_isTold 27 = .ok (.aload_n 0, 1) := by decide +kernel
theorem dX10_isTold_28 : decode cX10_isTold 28 = .ok (.iload_n 1, 1) := by decide +kernel
theorem dX10_isTold_29 : decode cX10_isTold 29 = .ok (.iload_n 2, 1) := by decide +kernel
theorem dX10_isTold_30 : decode cX10_isTold 30 = .ok (.invokevirtual 161, 3) := by decide +kernel
theorem dX10_isTold_33 : decode cX10_isTold 33 = .ok (.ifCond .ne 12, 3) := by decide +kernel
theorem dX10_isTold_36 : decode cX10_isTold 36 = .ok (.aload_n 0, 1) := by decide +kernel
theorem dX10_isTold_37 : decode cX10_isTold 37 = .ok (.iload_n 1, 1) := by decide +kernel
theorem dX10_isTold_38 : decode cX10_isTold 38 = .ok (.iload_n 2, 1) := by decide +kernel
theorem dX10_isTold_39 : decode cX10_isTold 39 = .ok (.invokevirtual 185, 3) := by decide +kernel
theorem dX10_isTold_42 : decode cX10_isTold 42 = .ok (.ifCond .eq 7, 3) := by decide +kernel
theorem dX10_isTold_45 : decode cX10_isTold 45 = .ok (.iconst 1, 1) := by decide +kernel
theorem dX10_isTold_46 : decode cX10_isTold 46 = .ok (.goto 4, 3) := by decide +kernel
theorem dX10_isTold_49 : decode cX10_isTold 49 = .ok (.iconst 0, 1) := by decide +kernel
theorem dX10_isTold_50 : decode cX10_isTold 50 = .ok (.ireturn, 1) := by decide +kernel
theorem dX10_pack_0 : decode cX10_pack 0 = .ok (.iload_n 1, 1) := by decide +kernel
theorem dX10_pack_1 : decode cX10_pack 1 = .ok (.bipush 15, 2) := by decide +kernel
theorem dX10_pack_3 : decode cX10_pack 3 = .ok (.iand, 1) := by decide +kernel
theorem dX10_pack_4 : decode cX10_pack 4 = .ok (.istore 6, 2) := by decide +kernel
theorem dX10_pack_6 : decode cX10_pack 6 = .ok (.iload_n 2, 1) := by decide +kernel
theorem dX10_pack_7 : decode cX10_pack 7 = .ok (.iconst 3, 1) := by decide +kernel
theorem dX10_pack_8 : decode cX10_pack 8 = .ok (.iand, 1) := by decide +kernel
theorem dX10_pack_9 : decode cX10_pack 9 = .ok (.istore 7, 2) := by decide +kernel
theorem dX10_pack_11 : decode cX10_pack 11 = .ok (.iload_n 3, 1) := by decide +kernel
theorem dX10_pack_12 : decode cX10_pack 12 = .ok (.bipush 15, 2) := by decide +kernel
theorem dX10_pack_14 : decode cX10_pack 14 = .ok (.iand, 1) := by decide +kernel
theorem dX10_pack_15 : decode cX10_pack 15 = .ok (.istore 8, 2) := by decide +kernel
theorem dX10_pack_17 : decode cX10_pack 17 = .ok (.iload 4, 2) := by decide +kernel
theorem dX10_pack_19 : decode cX10_pack 19 = .ok (.ldc 232, 2) := by decide +kernel
theorem dX10_pack_21 : decode cX10_pack 21 = .ok (.iand, 1) := by decide +kernel
theorem dX10_pack_22 : decode cX10_pack 22 = .ok (.istore 9, 2) := by decide +kernel
theorem dX10_pack_24 : decode cX10_pack 24 = .ok (.iload 5, 2) := by decide +kernel
theorem dX10_pack_26 : decode cX10_pack 26 = .ok (.sipush 255, 3) := by decide +kernel
theorem dX10_pack_29 : decode cX10_pack 29 = .ok (.iand, 1) := by decide +kernel
theorem dX10_pack_30 : decode cX10_pack 30 = .ok (.istore 10, 2) := by decide +kernel
theorem dX10_pack_32 : decode cX10_pack 32 = .ok (.iload 6, 2) := by decide +kernel
theorem dX10_pack_34 : decode cX10_pack 34 = .ok (.iconst 3, 1) := by decide +kernel
theorem dX10_pack_35 : decode cX10_pack 35 = .ok (.iload 7, 2) := by decide +kernel
theorem dX10_pack_37 : decode cX10_pack 37 = .ok (.imul, 1) := by decide +kernel
theorem dX10_pack_38 : decode cX10_pack 38 = .ok (.iadd, 1) := by decide +kernel
theorem dX10_pack_39 : decode cX10_pack 39 = .ok (.iconst 5, 1) := by decide +kernel
theorem dX10_pack_40 : decode cX10_pack 40 = .ok (.iload 8, 2) := by decide +kernel
theorem dX10_pack_42 : decode cX10_pack 42 = .ok (.imul, 1) := by decide +kernel
theorem dX10_pack_43 : decode cX10_pack 43 = .ok (.iadd, 1) := by decide +kernel
theorem dX10_pack_44 : decode cX10_pack 44 = .ok (.bipush 7, 2) := by decide +kernel
theorem dX10_pack_46 : decode cX10_pack 46 = .ok (.iload 9, 2) := by decide +kernel
theorem dX10_pack_48 : decode cX10_pack 48 = .ok (.imul, 1) := by decide +kernel
theorem dX10_pack_49 : decode cX10_pack 49 = .ok (.iadd, 1) := by decide +kernel
theorem dX10_pack_50 : decode cX10_pack 50 = .ok (.bipush 11, 2) := by decide +kernel
theorem dX10_pack_52 : decode cX10_pack 52 = .ok (.iload 10, 2) := by decide +kernel
theorem dX10_pack_54 : decode cX10_pack 54 = .ok (.imul, 1) := by decide +kernel
theorem dX10_pack_55 : decode cX10_pack 55 = .ok (.iadd, 1) := by decide +kernel
theorem dX10_pack_56 : decode cX10_pack 56 = .ok (.sipush 255, 3) := by decide +kernel
theorem dX10_pack_59 : decode cX10_pack 59 = .ok (.iand, 1) := by decide +kernel
theorem dX10_pack_60 : decode cX10_pack 60 = .ok (.istore 11, 2) := by decide +kernel
theorem dX10_pack_62 : decode cX10_pack 62 = .ok (.iload 6, 2) := by decide +kernel
theorem dX10_pack_64 : decode cX10_pack 64 = .ok (.i2l, 1) := by decide +kernel
theorem dX10_pack_65 : decode cX10_pack 65 = .ok (.iload 7, 2) := by decide +kernel
theorem dX10_pack_67 : decode cX10_pack 67 = .ok (.i2l, 1) := by decide +kernel
theorem dX10_pack_68 : decode cX10_pack 68 = .ok (.iconst 4, 1) := by decide +kernel
theorem dX10_pack_69 : decode cX10_pack 69 = .ok (.lshl, 1) := by decide +kernel
theorem dX10_pack_70 : decode cX10_pack 70 = .ok (.lor, 1) := by decide +kernel
theorem dX10_pack_71 : decode cX10_pack 71 = .ok (.iload 8, 2) := by decide +kernel
theorem dX10_pack_73 : decode cX10_pack 73 = .ok (.i2l, 1) := by decide +kernel
theorem dX10_pack_74 : decode cX10_pack 74 = .ok (.bipush 6, 2) := by decide +kernel
theorem dX10_pack_76 : decode cX10_pack 76 = .ok (.lshl, 1) := by decide +kernel
theorem dX10_pack_77 : decode cX10_pack 77 = .ok (.lor, 1) := by decide +kernel
theorem dX10_pack_78 : decode cX10_pack 78 = .ok (.iload 9, 2) := by decide +kernel
theorem dX10_pack_80 : decode cX10_pack 80 = .ok (.i2l, 1) := by decide +kernel
theorem dX10_pack_81 : decode cX10_pack 81 = .ok (.bipush 10, 2) := by decide +kernel
theorem dX10_pack_83 : decode cX10_pack 83 = .ok (.lshl, 1) := by decide +kernel
theorem dX10_pack_84 : decode cX10_pack 84 = .ok (.lor, 1) := by decide +kernel
theorem dX10_pack_85 : decode cX10_pack 85 = .ok (.iload 10, 2) := by decide +kernel
theorem dX10_pack_87 : decode cX10_pack 87 = .ok (.i2l, 1) := by decide +kernel
theorem dX10_pack_88 : decode cX10_pack 88 = .ok (.bipush 26, 2) := by decide +kernel
theorem dX10_pack_90 : decode cX10_pack 90 = .ok (.lshl, 1) := by decide +kernel
theorem dX10_pack_91 : decode cX10_pack 91 = .ok (.lor, 1) := by decide +kernel
theorem dX10_pack_92 : decode cX10_pack 92 = .ok (.iload 11, 2) := by decide +kernel
theorem dX10_pack_94 : decode cX10_pack 94 = .ok (.i2l, 1) := by decide +kernel
theorem dX10_pack_95 : decode cX10_pack 95 = .ok (.bipush 34, 2) := by decide +kernel
theorem dX10_pack_97 : decode cX10_pack 97 = .ok (.lshl, 1) := by decide +kernel
theorem dX10_pack_98 : decode cX10_pack 98 = .ok (.lor, 1) := by decide +kernel
theorem dX10_pack_99 : decode cX10_pack 99 = .ok (.lreturn, 1) := by decide +kernel
theorem dX10_part_0 : decode cX10_part 0 = .ok (.lload_n 0, 1) := by decide +kernel
theorem dX10_part_1 : decode cX10_part 1 = .ok (.iload_n 2, 1) := by decide +kernel
theorem dX10_part_2 : decode cX10_part 2 = .ok (.lshr, 1) := by decide +kernel
theorem dX10_part_3 : decode cX10_part 3 = .ok (.l2i, 1) := by decide +kernel
theorem dX10_part_4 : decode cX10_part 4 = .ok (.iconst 1, 1) := by decide +kernel
theorem dX10_part_5 : decode cX10_part 5 = .ok (.iload_n 3, 1) := by decide +kernel
theorem dX10_part_6 : decode cX10_part 6 = .ok (.ishl, 1) := by decide +kernel
theorem dX10_part_7 : decode cX10_part 7 = .ok (.iconst 1, 1) := by decide +kernel
theorem dX10_part_8 : decode cX10_part 8 = .ok (.isub, 1) := by decide +kernel
theorem dX10_part_9 : decode cX10_part 9 = .ok (.iand, 1) := by decide +kernel
theorem dX10_part_10 : decode cX10_part 10 = .ok (.ireturn, 1) := by decide +kernel
theorem dX10_lack_0 : decode cX10_lack 0 = .ok (.lload_n 2, 1) := by decide +kernel
theorem dX10_lack_1 : decode cX10_lack 1 = .ok (.iconst 0, 1) := by decide +kernel
theorem dX10_lack_2 : decode cX10_lack 2 = .ok (.iconst 4, 1) := by decide +kernel
theorem dX10_lack_3 : decode cX10_lack 3 = .ok (.invokestatic 233, 3) := by decide +kernel
theorem dX10_lack_6 : decode cX10_lack 6 = .ok (.istore 4, 2) := by decide +kernel
theorem dX10_lack_8 : decode cX10_lack 8 = .ok (.lload_n 2, 1) := by decide +kernel
theorem dX10_lack_9 : decode cX10_lack 9 = .ok (.iconst 4, 1) := by decide +kernel
theorem dX10_lack_10 : decode cX10_lack 10 = .ok (.iconst 2, 1) := by decide +kernel
theorem dX10_lack_11 : decode cX10_lack 11 = .ok (.invokestatic 233, 3) := by decide +kernel
theorem dX10_lack_14 : decode cX10_lack 14 = .ok (.istore 5, 2) := by decide +kernel
theorem dX10_lack_16 : decode cX10_lack 16 = .ok (.lload_n 2, 1) := by decide +kernel
theorem dX10_lack_17 : decode cX10_lack 17 = .ok (.bipush 6, 2) := by decide +kernel
theorem dX10_lack_19 : decode cX10_lack 19 = .ok (.iconst 4, 1) := by decide +kernel
theorem dX10_lack_20 : decode cX10_lack 20 = .ok (.invokestatic 233, 3) := by decide +kernel
theorem dX10_lack_23 : decode cX10_lack 23 = .ok (.istore 6, 2) := by decide +kernel
theorem dX10_lack_25 : decode cX10_lack 25 = .ok (.lload_n 2, 1) := by decide +kernel
theorem dX10_lack_26 : decode cX10_lack 26 = .ok (.bipush 10, 2) := by decide +kernel
theorem dX10_lack_28 : decode cX10_lack 28 = .ok (.bipush 16, 2) := by decide +kernel
theorem dX10_lack_30 : decode cX10_lack 30 = .ok (.invokestatic 233, 3) := by decide +kernel
theorem dX10_lack_33 : decode cX10_lack 33 = .ok (.istore 7, 2) := by decide +kernel
theorem dX10_lack_35 : decode cX10_lack 35 = .ok (.lload_n 2, 1) := by decide +kernel
theorem dX10_lack_36 : decode cX10_lack 36 = .ok (.bipush 26, 2) := by decide +kernel
theorem dX10_lack_38 : decode cX10_lack 38 = .ok (.bipush 8, 2) := by decide +kernel
theorem dX10_lack_40 : decode cX10_lack 40 = .ok (.invokestatic 233, 3) := by decide +kernel
theorem dX10_lack_43 : decode cX10_lack 43 = .ok (.istore 8, 2) := by decide +kernel
theorem dX10_lack_45 : decode cX10_lack 45 = .ok (.lload_n 2, 1) := by decide +kernel
theorem dX10_lack_46 : decode cX10_lack 46 = .ok (.bipush 42, 2) := by decide +kernel
theorem dX10_lack_48 : decode cX10_lack 48 = .ok (.lshr, 1) := by decide +kernel
theorem dX10_lack_49 : decode cX10_lack 49 = .ok (.lconst 0, 1) := by decide +kernel
theorem dX10_lack_50 : decode cX10_lack 50 = .ok (.lcmp, 1) := by decide +kernel
theorem dX10_lack_51 : decode cX10_lack 51 = .ok (.ifCond .ne 42, 3) := by decide +kernel
theorem dX10_lack_54 : decode cX10_lack 54 = .ok (.lload_n 2, 1) := by decide +kernel
theorem dX10_lack_55 : decode cX10_lack 55 = .ok (.bipush 34, 2) := by decide +kernel
theorem dX10_lack_57 : decode cX10_lack 57 = .ok (.bipush 8, 2) := by decide +kernel
theorem dX10_lack_59 : decode cX10_lack 59 = .ok (.invokestatic 233, 3) := by decide +kernel
theorem dX10_lack_62 : decode cX10_lack 62 = .ok (.iload 4, 2) := by decide +kernel
theorem dX10_lack_64 : decode cX10_lack 64 = .ok (.iconst 3, 1) := by decide +kernel
theorem dX10_lack_65 : decode cX10_lack 65 = .ok (.iload 5, 2) := by decide +kernel
theorem dX10_lack_67 : decode cX10_lack 67 = .ok (.imul, 1) := by decide +kernel
theorem dX10_lack_68 : decode cX10_lack 68 = .ok (.iadd, 1) := by decide +kernel
theorem dX10_lack_69 : decode cX10_lack 69 = .ok (.iconst 5, 1) := by decide +kernel
theorem dX10_lack_70 : decode cX10_lack 70 = .ok (.iload 6, 2) := by decide +kernel
theorem dX10_lack_72 : decode cX10_lack 72 = .ok (.imul, 1) := by decide +kernel
theorem dX10_lack_73 : decode cX10_lack 73 = .ok (.iadd, 1) := by decide +kernel
theorem dX10_lack_74 : decode cX10_lack 74 = .ok (.bipush 7, 2) := by decide +kernel
theorem dX10_lack_76 : decode cX10_lack 76 = .ok (.iload 7, 2) := by decide +kernel
theorem dX10_lack_78 : decode cX10_lack 78 = .ok (.imul, 1) := by decide +kernel
theorem dX10_lack_79 : decode cX10_lack 79 = .ok (.iadd, 1) := by decide +kernel
theorem dX10_lack_80 : decode cX10_lack 80 = .ok (.bipush 11, 2) := by decide +kernel
theorem dX10_lack_82 : decode cX10_lack 82 = .ok (.iload 8, 2) := by decide +kernel
theorem dX10_lack_84 : decode cX10_lack 84 = .ok (.imul, 1) := by decide +kernel
theorem dX10_lack_85 : decode cX10_lack 85 = .ok (.iadd, 1) := by decide +kernel
theorem dX10_lack_86 : decode cX10_lack 86 = .ok (.sipush 255, 3) := by decide +kernel
theorem dX10_lack_89 : decode cX10_lack 89 = .ok (.iand, 1) := by decide +kernel
theorem dX10_lack_90 : decode cX10_lack 90 = .ok (.if_icmp .eq 6, 3) := by decide +kernel
theorem dX10_lack_93 : decode cX10_lack 93 = .ok (.bipush (-5), 2) := by decide +kernel
theorem dX10_lack_95 : decode cX10_lack 95 = .ok (.ireturn, 1) := by decide +kernel
theorem dX10_lack_96 : decode cX10_lack 96 = .ok (.iload 4, 2) := by decide +kernel
theorem dX10_lack_98 : decode cX10_lack 98 = .ok (.bipush 6, 2) := by decide +kernel
theorem dX10_lack_100 : decode cX10_lack 100 = .ok (.if_icmp .gt 36, 3) := by decide +kernel
theorem dX10_lack_103 : decode cX10_lack 103 = .ok (.iload 6, 2) := by decide +kernel
theorem dX10_lack_105 : decode cX10_lack 105 = .ok (.ifCond .eq 9, 3) := by decide +kernel
theorem dX10_lack_108 : decode cX10_lack 108 = .ok (.iload 4, 2) := by decide +kernel
theorem dX10_lack_110 : decode cX10_lack 110 = .ok (.iconst 3, 1) := by decide +kernel
theorem dX10_lack_111 : decode cX10_lack 111 = .ok (.if_icmp .ne 25, 3) := by decide +kernel
theorem dX10_lack_114 : decode cX10_lack 114 = .ok (.iload 5, 2) := by decide +kernel
theorem dX10_lack_116 : decode cX10_lack 116 = .ok (.ifCond .eq 23, 3) := by decide +kernel
theorem dX10_lack_119 : decode cX10_lack 119 = .ok (.iload 4, 2) := by decide +kernel
theorem dX10_lack_121 : decode cX10_lack 121 = .ok (.ifCond .eq 15, 3) := by decide +kernel
theorem dX10_lack_124 : decode cX10_lack 124 = .ok (.iload 4, 2) := by decide +kernel
theorem dX10_lack_126 : decode cX10_lack 126 = .ok (.iconst 4, 1) := by decide +kernel
theorem dX10_lack_127 : decode cX10_lack 127 = .ok (.if_icmp .eq 9, 3) := by decide +kernel
theorem dX10_lack_130 : decode cX10_lack 130 = .ok (.iload 4, 2) := by decide +kernel
theorem dX10_lack_132 : decode cX10_lack 132 = .ok (.iconst 5, 1) := by decide +kernel
theorem dX10_lack_133 : decode cX10_lack 133 = .ok (.if_icmp .ne 6, 3) := by decide +kernel
theorem dX10_lack_136 : decode cX10_lack 136 = .ok (.bipush (-3), 2) := by decide +kernel
theorem dX10_lack_138 : decode cX10_lack 138 = .ok (.ireturn, 1) := by decide +kernel
theorem dX10_lack_139 : decode cX10_lack 139 = .ok (.iload 8, 2) := by decide +kernel
theorem dX10_lack_141 : decode cX10_lack 141 = .ok (.aload_n 0, 1) := by decide +kernel
theorem dX10_lack_142 : decode cX10_lack 142 = .ok (.getfield 52, 3) := by decide +kernel
theorem dX10_lack_145 : decode cX10_lack 145 = .ok (.iload_n 1, 1) := by decide +kernel
theorem dX10_lack_146 : decode cX10_lack 146 = .ok (.iaload, 1) := by decide +kernel
theorem dX10_lack_147 : decode cX10_lack 147 = .ok (.if_icmp .eq 6, 3) := by decide +kernel
theorem dX10_lack_150 : decode cX10_lack 150 = .ok (.bipush (-6), 2) := by decide +kernel
theorem dX10_lack_152 : decode cX10_lack 152 = .ok (.ireturn, 1) := by decide +kernel
theorem dX10_lack_153 : decode cX10_lack 153 = .ok (.iload 7, 2) := by decide +kernel
theorem dX10_lack_155 : decode cX10_lack 155 = .ok (.aload_n 0, 1) := by decide +kernel
theorem dX10_lack_156 : decode cX10_lack 156 = .ok (.getfield 110, 3) := by decide +kernel
theorem dX10_lack_159 : decode cX10_lack 159 = .ok (.aload_n 0, 1) := by decide +kernel
theorem dX10_lack_160 : decode cX10_lack 160 = .ok (.getfield 32, 3) := by decide +kernel
theorem dX10_lack_163 : decode cX10_lack 163 = .ok (.isub, 1) := by decide +kernel
theorem dX10_lack_164 : decode cX10_lack 164 = .ok (.if_icmp .ge 6, 3) := by decide +kernel
theorem dX10_lack_167 : decode cX10_lack 167 = .ok (.bipush (-7), 2) := by decide +kernel
theorem dX10_lack_169 : decode cX10_lack 169 = .ok (.ireturn, 1) := by decide +kernel
theorem dX10_lack_170 : decode cX10_lack 170 = .ok (.iload 7, 2) := by decide +kernel
theorem dX10_lack_172 : decode cX10_lack 172 = .ok (.aload_n 0, 1) := by decide +kernel
theorem dX10_lack_173 : decode cX10_lack 173 = .ok (.getfield 110, 3) := by decide +kernel
theorem dX10_lack_176 : decode cX10_lack 176 = .ok (.iconst 2, 1) := by decide +kernel
theorem dX10_lack_177 : decode cX10_lack 177 = .ok (.iadd, 1) := by decide +kernel
theorem dX10_lack_178 : decode cX10_lack 178 = .ok (.if_icmp .gt 11, 3) := by decide +kernel
theorem dX10_lack_181 : decode cX10_lack 181 = .ok (.iload 7, 2) := by decide +kernel
theorem dX10_lack_183 : decode cX10_lack 183 = .ok (.sipush 499, 3) := by decide +kernel
theorem dX10_lack_186 : decode cX10_lack 186 = .ok (.if_icmp .le 6, 3) := by decide +kernel
theorem dX10_lack_189 : decode cX10_lack 189 = .ok (.bipush (-8), 2) := by decide +kernel
theorem dX10_lack_191 : decode cX10_lack 191 = .ok (.ireturn, 1) := by decide +kernel
theorem dX10_lack_192 : decode cX10_lack 192 = .ok (.aload_n 0, 1) := by decide +kernel
theorem dX10_lack_193 : decode cX10_lack 193 = .ok (.getfield 42, 3) := by decide +kernel
theorem dX10_lack_196 : decode cX10_lack 196 = .ok (.iconst 4, 1) := by decide +kernel
theorem dX10_lack_197 : decode cX10_lack 197 = .ok (.iload 7, 2) := by decide +kernel
theorem dX10_lack_199 : decode cX10_lack 199 = .ok (.imul, 1) := by decide +kernel
theorem dX10_lack_200 : decode cX10_lack 200 = .ok (.iload_n 1, 1) := by decide +kernel
theorem dX10_lack_201 : decode cX10_lack 201 = .ok (.iadd, 1) := by decide +kernel
theorem dX10_lack_202 : decode cX10_lack 202 = .ok (.iaload, 1) := by decide +kernel
theorem dX10_lack_203 : decode cX10_lack 203 = .ok (.sipush 4096, 3) := by decide +kernel
theorem dX10_lack_206 : decode cX10_lack 206 = .ok (.if_icmp .eq 6, 3) := by decide +kernel
theorem dX10_lack_209 : decode cX10_lack 209 = .ok (.bipush (-9), 2) := by decide +kernel
theorem dX10_lack_211 : decode cX10_lack 211 = .ok (.ireturn, 1) := by decide +kernel
theorem dX10_lack_212 : decode cX10_lack 212 = .ok (.bipush 112, 2) := by decide +kernel
theorem dX10_lack_214 : decode cX10_lack 214 = .ok (.iload 7, 2) := by decide +kernel
theorem dX10_lack_216 : decode cX10_lack 216 = .ok (.aload_n 0, 1) := by decide +kernel
theorem dX10_lack_217 : decode cX10_lack 217 = .ok (.getfield 110, 3) := by decide +kernel
theorem dX10_lack_220 : decode cX10_lack 220 = .ok (.if_icmp .ge 8, 3) := by decide +kernel
theorem dX10_lack_223 : decode cX10_lack 223 = .ok (.iload 7, 2) := by decide +kernel
theorem dX10_lack_225 : decode cX10_lack 225 = .ok (.goto 7, 3) := by decide +kernel
theorem dX10_lack_228 : decode cX10_lack 228 = .ok (.aload_n 0, 1) := by decide +kernel
theorem dX10_lack_229 : decode cX10_lack 229 = .ok (.getfield 110, 3) := by decide +kernel
theorem dX10_lack_232 : decode cX10_lack 232 = .ok (.imul, 1) := by decide +kernel
theorem dX10_lack_233 : decode cX10_lack 233 = .ok (.bipush 6, 2) := by decide +kernel
theorem dX10_lack_235 : decode cX10_lack 235 = .ok (.iload_n 1, 1) := by decide +kernel
theorem dX10_lack_236 : decode cX10_lack 236 = .ok (.imul, 1) := by decide +kernel
theorem dX10_lack_237 : decode cX10_lack 237 = .ok (.iadd, 1) := by decide +kernel
theorem dX10_lack_238 : decode cX10_lack 238 = .ok (.istore 9, 2) := by decide +kernel
theorem dX10_lack_240 : decode cX10_lack 240 = .ok (.aload_n 0, 1) := by decide +kernel
theorem dX10_lack_241 : decode cX10_lack 241 = .ok (.getfield 39, 3) := by decide +kernel
theorem dX10_lack_244 : decode cX10_lack 244 = .ok (.iload 9, 2) := by decide +kernel
theorem dX10_lack_246 : decode cX10_lack 246 = .ok (.iconst 1, 1) := by decide +kernel
theorem dX10_lack_247 : decode cX10_lack 247 = .ok (.iadd, 1) := by decide +kernel
theorem dX10_lack_248 : decode cX10_lack 248 = .ok (.iaload, 1) := by decide +kernel
theorem dX10_lack_249 : decode cX10_lack 249 = .ok (.ifCond .ne 6, 3) := by decide +kernel
theorem dX10_lack_252 : decode cX10_lack 252 = .ok (.bipush (-10), 2) := by decide +kernel
theorem dX10_lack_254 : decode cX10_lack 254 = .ok (.ireturn, 1) := by decide +kernel
theorem dX10_lack_255 : decode cX10_lack 255 = .ok (.iload 7, 2) := by decide +kernel
theorem dX10_lack_257 : decode cX10_lack 257 = .ok (.aload_n 0, 1) := by decide +kernel
theorem dX10_lack_258 : decode cX10_lack 258 = .ok (.getfield 110, 3) := by decide +kernel
theorem dX10_lack_261 : decode cX10_lack 261 = .ok (.if_icmp .gt 25, 3) := by decide +kernel
theorem dX10_lack_264 : decode cX10_lack 264 = .ok (.aload_n 0, 1) := by decide +kernel
theorem dX10_lack_265 : decode cX10_lack 265 = .ok (.bipush 112, 2) := by decide +kernel
theorem dX10_lack_267 : decode cX10_lack 267 = .ok (.iload 7, 2) := by decide +kernel
theorem dX10_lack_269 : decode cX10_lack 269 = .ok (.imul, 1) := by decide +kernel
theorem dX10_lack_270 : decode cX10_lack 270 = .ok (.iload_n 1, 1) := by decide +kernel
theorem dX10_lack_271 : decode cX10_lack 271 = .ok (.iload 4, 2) := by decide +kernel
theorem dX10_lack_273 : decode cX10_lack 273 = .ok (.iload 5, 2) := by decide +kernel
theorem dX10_lack_275 : decode cX10_lack 275 = .ok (.invokevirtual 237, 3) := by decide +kernel
theorem dX10_lack_278 : decode cX10_lack 278 = .ok (.ifCond .eq 8, 3) := by decide +kernel
theorem dX10_lack_281 : decode cX10_lack 281 = .ok (.bipush (-16), 2) := by decide +kernel
theorem dX10_lack_283 : decode cX10_lack 283 = .ok (.goto 4, 3) := by decide +kernel
theorem dX10_lack_286 : decode cX10_lack 286 = .ok (.iconst 0, 1) := by decide +kernel
theorem dX10_lack_287 : decode cX10_lack 287 = .ok (.ireturn, 1) := by decide +kernel
theorem dX10_isCrafted_0 : decode cX10_isCrafted 0 = .ok (.iload_n 1, 1) := by decide +kernel
theorem dX10_isCrafted_1 : decode cX10_isCrafted 1 = .ok (.bipush 6, 2) := by decide +kernel
theorem dX10_isCrafted_3 : decode cX10_isCrafted 3 = .ok (.iload_n 2, 1) := by decide +kernel
theorem dX10_isCrafted_4 : decode cX10_isCrafted 4 = .ok (.imul, 1) := by decide +kernel
theorem dX10_isCrafted_5 : decode cX10_isCrafted 5 = .ok (.iadd, 1) := by decide +kernel
theorem dX10_isCrafted_6 : decode cX10_isCrafted 6 = .ok (.istore 5, 2) := by decide +kernel
theorem dX10_isCrafted_8 : decode cX10_isCrafted 8 = .ok (.aload_n 0, 1) := by decide +kernel
theorem dX10_isCrafted_9 : decode cX10_isCrafted 9 = .ok (.getfield 39, 3) := by decide +kernel
theorem dX10_isCrafted_12 : decode cX10_isCrafted 12 = .ok (.iload 5, 2) := by decide +kernel
theorem dX10_isCrafted_14 : decode cX10_isCrafted 14 = .ok (.iconst 4, 1) := by decide +kernel
theorem dX10_isCrafted_15 : decode cX10_isCrafted 15 = .ok (.iadd, 1) := by decide +kernel
theorem dX10_isCrafted_16 : decode cX10_isCrafted 16 = .ok (.iaload, 1) := by decide +kernel
theorem dX10_isCrafted_17 : decode cX10_isCrafted 17 = .ok (.istore 6, 2) := by decide +kernel
theorem dX10_isCrafted_19 : decode cX10_isCrafted 19 = .ok (.aload_n 0, 1) := by decide +kernel
theorem dX10_isCrafted_20 : decode cX10_isCrafted 20 = .ok (.aload_n 0, 1) := by decide +kernel
theorem dX10_isCrafted_21 : decode cX10_isCrafted 21 = .ok (.getfield 39, 3) := by decide +kernel
theorem dX10_isCrafted_24 : decode cX10_isCrafted 24 = .ok (.iload 5, 2) := by decide +kernel
theorem dX10_isCrafted_26 : decode cX10_isCrafted 26 = .ok (.iconst 0, 1) := by decide +kernel
theorem dX10_isCrafted_27 : decode cX10_isCrafted 27 = .ok (.iadd, 1) := by decide +kernel
theorem dX10_isCrafted_28 : decode cX10_isCrafted 28 = .ok (.iaload, 1) := by decide +kernel
theorem dX10_isCrafted_29 : decode cX10_isCrafted 29 = .ok (.iload 4, 2) := by decide +kernel
theorem dX10_isCrafted_31 : decode cX10_isCrafted 31 = .ok (.invokevirtual 192, 3) := by decide +kernel
theorem dX10_isCrafted_34 : decode cX10_isCrafted 34 = .ok (.istore 7, 2) := by decide +kernel
theorem dX10_isCrafted_36 : decode cX10_isCrafted 36 = .ok (.iload_n 3, 1) := by decide +kernel
theorem dX10_isCrafted_37 : decode cX10_isCrafted 37 = .ok (.tableswitch 119 2 6 #[35, 53, 75, 86, 97], 35) := by decide +kernel
theorem dX10_isCrafted_72 : decode cX10_isCrafted 72 = .ok (.aload_n 0, 1) := by decide +kernel
theorem dX10_isCrafted_73 : decode cX10_isCrafted 73 = .ok (.getfield 39, 3) := by decide +kernel
theorem dX10_isCrafted_76 : decode cX10_isCrafted 76 = .ok (.iload 5, 2) := by decide +kernel
theorem dX10_isCrafted_78 : decode cX10_isCrafted 78 = .ok (.iconst 3, 1) := by decide +kernel
theorem dX10_isCrafted_79 : decode cX10_isCrafted 79 = .ok (.iadd, 1) := by decide +kernel
theorem dX10_isCrafted_80 : decode cX10_isCrafted 80 = .ok (.iaload, 1) := by decide +kernel
theorem dX10_isCrafted_81 : decode cX10_isCrafted 81 = .ok (.ifCond .le 7, 3) := by decide +kernel
theorem dX10_isCrafted_84 : decode cX10_isCrafted 84 = .ok (.iconst 1, 1) := by decide +kernel
theorem dX10_isCrafted_85 : decode cX10_isCrafted 85 = .ok (.goto 4, 3) := by decide +kernel
theorem dX10_isCrafted_88 : decode cX10_isCrafted 88 = .ok (.iconst 0, 1) := by decide +kernel
theorem dX10_isCrafted_89 : decode cX10_isCrafted 89 = .ok (.ireturn, 1) := by decide +kernel
theorem dX10_isCrafted_90 : decode cX10_isCrafted 90 = .ok (.iload 7, 2) := by decide +kernel
theorem dX10_isCrafted_92 : decode cX10_isCrafted 92 = .ok (.ifCond .lt 14, 3) := by decide +kernel
theorem dX10_isCrafted_95 : decode cX10_isCrafted 95 = .ok (.aload_n 0, 1) := by decide +kernel
theorem dX10_isCrafted_96 : decode cX10_isCrafted 96 = .ok (.getfield 19, 3) := by decide +kernel
theorem dX10_isCrafted_99 : decode cX10_isCrafted 99 = .ok (.iload 7, 2) := by decide +kernel
theorem dX10_isCrafted_101 : decode cX10_isCrafted 101 = .ok (.iaload, 1) := by decide +kernel
theorem dX10_isCrafted_102 : decode cX10_isCrafted 102 = .ok (.iconst 2, 1) := by decide +kernel
theorem dX10_isCrafted_103 : decode cX10_isCrafted 103 = .ok (.if_icmp .eq 7, 3) := by decide +kernel
theorem dX10_isCrafted_106 : decode cX10_isCrafted 106 = .ok (.iconst 1, 1) := by decide +kernel
theorem dX10_isCrafted_107 : decode cX10_isCrafted 107 = .ok (.goto 4, 3) := by decide +kernel
theorem dX10_isCrafted_110 : decode cX10_isCrafted 110 = .ok (.iconst 0, 1) := by decide +kernel
theorem dX10_isCrafted_111 : decode cX10_isCrafted 111 = .ok (.ireturn, 1) := by decide +kernel
theorem dX10_isCrafted_112 : decode cX10_isCrafted 112 = .ok (.iload 6, 2) := by decide +kernel
theorem dX10_isCrafted_114 : decode cX10_isCrafted 114 = .ok (.ifCond .lt 7, 3) := by decide +kernel
theorem dX10_isCrafted_117 : decode cX10_isCrafted 117 = .ok (.iconst 1, 1) := by decide +kernel
theorem dX10_isCrafted_118 : decode cX10_isCrafted 118 = .ok (.goto 4, 3) := by decide +kernel
theorem dX10_isCrafted_121 : decode cX10_isCrafted 121 = .ok (.iconst 0, 1) := by decide +kernel
theorem dX10_isCrafted_122 : decode cX10_isCrafted 122 = .ok (.ireturn, 1) := by decide +kernel
theorem dX10_isCrafted_123 : decode cX10_isCrafted 123 = .ok (.iload 6, 2) := by decide +kernel
theorem dX10_isCrafted_125 : decode cX10_isCrafted 125 = .ok (.ifCond .ge 7, 3) := by decide +kernel
theorem dX10_isCrafted_128 : decode cX10_isCrafted 128 = .ok (.iconst 1, 1) := by decide +kernel
theorem dX10_isCrafted_129 : decode cX10_isCrafted 129 = .ok (.goto 4, 3) := by decide +kernel
theorem dX10_isCrafted_132 : decode cX10_isCrafted 132 = .ok (.iconst 0, 1) := by decide +kernel
theorem dX10_isCrafted_133 : decode cX10_isCrafted 133 = .ok (.ireturn, 1) := by decide +kernel
theorem dX10_isCrafted_134 : decode cX10_isCrafted 134 = .ok (.iload 6, 2) := by decide +kernel
theorem dX10_isCrafted_136 : decode cX10_isCrafted 136 = .ok (.ifCond .lt 14, 3) := by decide +kernel
theorem dX10_isCrafted_139 : decode cX10_isCrafted 139 = .ok (.aload_n 0, 1) := by decide +kernel
theorem dX10_isCrafted_140 : decode cX10_isCrafted 140 = .ok (.getfield 29, 3) := by decide +kernel
theorem dX10_isCrafted_143 : decode cX10_isCrafted 143 = .ok (.iload 6, 2) := by decide +kernel
theorem dX10_isCrafted_145 : decode cX10_isCrafted 145 = .ok (.iaload, 1) := by decide +kernel
theorem dX10_isCrafted_146 : decode cX10_isCrafted 146 = .ok (.iconst 5, 1) := by decide +kernel
theorem dX10_isCrafted_147 : decode cX10_isCrafted 147 = .ok (.if_icmp .eq 7, 3) := by decide +kernel
theorem dX10_isCrafted_150 : decode cX10_isCrafted 150 = .ok (.iconst 1, 1) := by decide +kernel
theorem dX10_isCrafted_151 : decode cX10_isCrafted 151 = .ok (.goto 4, 3) := by decide +kernel
theorem dX10_isCrafted_154 : decode cX10_isCrafted 154 = .ok (.iconst 0, 1) := by decide +kernel
theorem dX10_isCrafted_155 : decode cX10_isCrafted 155 = .ok (.ireturn, 1) := by decide +kernel
theorem dX10_isCrafted_156 : decode cX10_isCrafted 156 = .ok (.iconst 0, 1) := by decide +kernel
theorem dX10_isCrafted_157 : decode cX10_isCrafted 157 = .ok (.ireturn, 1) := by decide +kernel
theorem dX10_goBack_0 : decode cX10_goBack 0 = .ok (.iconst 4, 1) := by decide +kernel
theorem dX10_goBack_1 : decode cX10_goBack 1 = .ok (.iload_n 1, 1) := by decide +kernel
theorem dX10_goBack_2 : decode cX10_goBack 2 = .ok (.imul, 1) := by decide +kernel
theorem dX10_goBack_3 : decode cX10_goBack 3 = .ok (.istore_n 2, 1) := by decide +kernel
theorem dX10_goBack_4 : decode cX10_goBack 4 = .ok (.iload_n 2, 1) := by decide +kernel
theorem dX10_goBack_5 : decode cX10_goBack 5 = .ok (.iconst 4, 1) := by decide +kernel
theorem dX10_goBack_6 : decode cX10_goBack 6 = .ok (.aload_n 0, 1) := by decide +kernel
theorem dX10_goBack_7 : decode cX10_goBack 7 = .ok (.getfield 110, 3) := by decide +kernel
theorem dX10_goBack_10 : decode cX10_goBack 10 = .ok (.imul, 1) := by decide +kernel
theorem dX10_goBack_11 : decode cX10_goBack 11 = .ok (.if_icmp .ge 21, 3) := by decide +kernel
theorem dX10_goBack_14 : decode cX10_goBack 14 = .ok (.aload_n 0, 1) := by decide +kernel
theorem dX10_goBack_15 : decode cX10_goBack 15 = .ok (.getfield 58, 3) := by decide +kernel
theorem dX10_goBack_18 : decode cX10_goBack 18 = .ok (.iload_n 2, 1) := by decide +kernel
theorem dX10_goBack_19 : decode cX10_goBack 19 = .ok (.aload_n 0, 1) := by decide +kernel
theorem dX10_goBack_20 : decode cX10_goBack 20 = .ok (.getfield 49, 3) := by decide +kernel
theorem dX10_goBack_23 : decode cX10_goBack 23 = .ok (.iload_n 2, 1) := by decide +kernel
theorem dX10_goBack_24 : decode cX10_goBack 24 = .ok (.iaload, 1) := by decide +kernel
theorem dX10_goBack_25 : decode cX10_goBack 25 = .ok (.iastore, 1) := by decide +kernel
theorem dX10_goBack_26 : decode cX10_goBack 26 = .ok (.iinc 2 1, 3) := by decide +kernel
theorem dX10_goBack_29 : decode cX10_goBack 29 = .ok (.goto (-25), 3) := by decide +kernel
theorem dX10_goBack_32 : decode cX10_goBack 32 = .ok (.iload_n 1, 1) := by decide +kernel
theorem dX10_goBack_33 : decode cX10_goBack 33 = .ok (.istore_n 2, 1) := by decide +kernel
theorem dX10_goBack_34 : decode cX10_goBack 34 = .ok (.iload_n 2, 1) := by decide +kernel
theorem dX10_goBack_35 : decode cX10_goBack 35 = .ok (.aload_n 0, 1) := by decide +kernel
theorem dX10_goBack_36 : decode cX10_goBack 36 = .ok (.getfield 110, 3) := by decide +kernel
theorem dX10_goBack_39 : decode cX10_goBack 39 = .ok (.if_icmp .ge 14, 3) := by decide +kernel
theorem dX10_goBack_42 : decode cX10_goBack 42 = .ok (.aload_n 0, 1) := by decide +kernel
theorem dX10_goBack_43 : decode cX10_goBack 43 = .ok (.iload_n 2, 1) := by decide +kernel
theorem dX10_goBack_44 : decode cX10_goBack 44 = .ok (.invokevirtual 240, 3) := by decide +kernel
theorem dX10_goBack_47 : decode cX10_goBack 47 = .ok (.iinc 2 1, 3) := by decide +kernel
theorem dX10_goBack_50 : decode cX10_goBack 50 = .ok (.goto (-16), 3) := by decide +kernel
theorem dX10_goBack_53 : decode cX10_goBack 53 = .ok (.iconst 4, 1) := by decide +kernel
theorem dX10_goBack_54 : decode cX10_goBack 54 = .ok (.iload_n 1, 1) := by decide +kernel
theorem dX10_goBack_55 : decode cX10_goBack 55 = .ok (.imul, 1) := by decide +kernel
theorem dX10_goBack_56 : decode cX10_goBack 56 = .ok (.istore_n 2, 1) := by decide +kernel
theorem dX10_goBack_57 : decode cX10_goBack 57 = .ok (.iload_n 2, 1) := by decide +kernel
theorem dX10_goBack_58 : decode cX10_goBack 58 = .ok (.iconst 4, 1) := by decide +kernel
theorem dX10_goBack_59 : decode cX10_goBack 59 = .ok (.aload_n 0, 1) := by decide +kernel
theorem dX10_goBack_60 : decode cX10_goBack 60 = .ok (.getfield 110, 3) := by decide +kernel
theorem dX10_goBack_63 : decode cX10_goBack 63 = .ok (.imul, 1) := by decide +kernel
theorem dX10_goBack_64 : decode cX10_goBack 64 = .ok (.if_icmp .ge 120, 3) := by decide +kernel
theorem dX10_goBack_67 : decode cX10_goBack 67 = .ok (.aload_n 0, 1) := by decide +kernel
theorem dX10_goBack_68 : decode cX10_goBack 68 = .ok (.getfield 58, 3) := by decide +kernel
theorem dX10_goBack_71 : decode cX10_goBack 71 = .ok (.iload_n 2, 1) := by decide +kernel
theorem dX10_goBack_72 : decode cX10_goBack 72 = .ok (.iaload, 1) := by decide +kernel
theorem dX10_goBack_73 : decode cX10_goBack 73 = .ok (.ifCond .le 105, 3) := by decide +kernel
theorem dX10_goBack_76 : decode cX10_goBack 76 = .ok (.aload_n 0, 1) := by decide +kernel
theorem dX10_goBack_77 : decode cX10_goBack 77 = .ok (.getfield 49, 3) := by decide +kernel
theorem dX10_goBack_80 : decode cX10_goBack 80 = .ok (.iload_n 2, 1) := by decide +kernel
theorem dX10_goBack_81 : decode cX10_goBack 81 = .ok (.iaload, 1) := by decide +kernel
theorem dX10_goBack_82 : decode cX10_goBack 82 = .ok (.aload_n 0, 1) := by decide +kernel
theorem dX10_goBack_83 : decode cX10_goBack 83 = .ok (.getfield 58, 3) := by decide +kernel
theorem dX10_goBack_86 : decode cX10_goBack 86 = .ok (.iload_n 2, 1) := by decide +kernel
theorem dX10_goBack_87 : decode cX10_goBack 87 = .ok (.iaload, 1) := by decide +kernel
theorem dX10_goBack_88 : decode cX10_goBack 88 = .ok (.if_icmp .eq 90, 3) := by decide +kernel
theorem dX10_goBack_91 : decode cX10_goBack 91 = .ok (.aload_n 0, 1) := by decide +kernel
theorem dX10_goBack_92 : decode cX10_goBack 92 = .ok (.getfield 130, 3) := by decide +kernel
theorem dX10_goBack_95 : decode cX10_goBack 95 = .ok (.bipush 64, 2) := by decide +kernel
theorem dX10_goBack_97 : decode cX10_goBack 97 = .ok (.if_icmp .ge 71, 3) := by decide +kernel
theorem dX10_goBack_100 : decode cX10_goBack 100 = .ok (.aload_n 0, 1) := by decide +kernel
theorem dX10_goBack_101 : decode cX10_goBack 101 = .ok (.getfield 55, 3) := by decide +kernel
theorem dX10_goBack_104 : decode cX10_goBack 104 = .ok (.iconst 4, 1) := by decide +kernel
theorem dX10_goBack_105 : decode cX10_goBack 105 = .ok (.aload_n 0, 1) := by decide +kernel
theorem dX10_goBack_106 : decode cX10_goBack 106 = .ok (.getfield 130, 3) := by decide +kernel
theorem dX10_goBack_109 : decode cX10_goBack 109 = .ok (.imul, 1) := by decide +kernel
theorem dX10_goBack_110 : decode cX10_goBack 110 = .ok (.iload_n 2, 1) := by decide +kernel
theorem dX10_goBack_111 : decode cX10_goBack 111 = .ok (.iconst 4, 1) := by decide +kernel
theorem dX10_goBack_112 : decode cX10_goBack 112 = .ok (.idiv, 1) := by decide +kernel
theorem dX10_goBack_113 : decode cX10_goBack 113 = .ok (.iastore, 1) := by decide +kernel
theorem dX10_goBack_114 : decode cX10_goBack 114 = .ok (.aload_n 0, 1) := by decide +kernel
theorem dX10_goBack_115 : decode cX10_goBack 115 = .ok (.getfield 55, 3) := by decide +kernel
theorem dX10_goBack_118 : decode cX10_goBack 118 = .ok (.iconst 4, 1) := by decide +kernel
theorem dX10_goBack_119 : decode cX10_goBack 119 = .ok (.aload_n 0, 1) := by decide +kernel
theorem dX10_goBack_120 : decode cX10_goBack 120 = .ok (.getfield 130, 3) := by decide +kernel
theorem dX10_goBack_123 : decode cX10_goBack 123 = .ok (.imul, 1) := by decide +kernel
theorem dX10_goBack_124 : decode cX10_goBack 124 = .ok (.iconst 1, 1) := by decide +kernel
theorem dX10_goBack_125 : decode cX10_goBack 125 = .ok (.iadd, 1) := by decide +kernel
theorem dX10_goBack_126 : decode cX10_goBack 126 = .ok (.iload_n 2, 1) := by decide +kernel
theorem dX10_goBack_127 : decode cX10_goBack 127 = .ok (.iconst 4, 1) := by decide +kernel
theorem dX10_goBack_128 : decode cX10_goBack 128 = .ok (.irem, 1) := by decide +kernel
theorem dX10_goBack_129 : decode cX10_goBack 129 = .ok (.iastore, 1) := by decide +kernel
theorem dX10_goBack_130 : decode cX10_goBack 130 = .ok (.aload_n 0, 1) := by decide +kernel
theorem dX10_goBack_131 : decode cX10_goBack 131 = .ok (.getfield 55, 3) := by decide +kernel
theorem dX10_goBack_134 : decode cX10_goBack 134 = .ok (.iconst 4, 1) := by decide +kernel
theorem dX10_goBack_135 : decode cX10_goBack 135 = .ok (.aload_n 0, 1) := by decide +kernel
theorem dX10_goBack_136 : decode cX10_goBack 136 = .ok (.getfield 130, 3) := by decide +kernel
theorem dX10_goBack_139 : decode cX10_goBack 139 = .ok (.imul, 1) := by decide +kernel
theorem dX10_goBack_140 : decode cX10_goBack 140 = .ok (.iconst 2, 1) := by decide +kernel
theorem dX10_goBack_141 : decode cX10_goBack 141 = .ok (.iadd, 1) := by decide +kernel
theorem dX10_goBack_142 : decode cX10_goBack 142 = .ok (.aload_n 0, 1) := by decide +kernel
theorem dX10_goBack_143 : decode cX10_goBack 143 = .ok (.getfield 58, 3) := by decide +kernel
theorem dX10_goBack_146 : decode cX10_goBack 146 = .ok (.iload_n 2, 1) := by decide +kernel
theorem dX10_goBack_147 : decode cX10_goBack 147 = .ok (.iaload, 1) := by decide +kernel
theorem dX10_goBack_148 : decode cX10_goBack 148 = .ok (.iconst 1, 1) := by decide +kernel
theorem dX10_goBack_149 : decode cX10_goBack 149 = .ok (.isub, 1) := by decide +kernel
theorem dX10_goBack_150 : decode cX10_goBack 150 = .ok (.iastore, 1) := by decide +kernel
theorem dX10_goBack_151 : decode cX10_goBack 151 = .ok (.aload_n 0, 1) := by decide +kernel
theorem dX10_goBack_152 : decode cX10_goBack 152 = .ok (.getfield 55, 3) := by decide +kernel
theorem dX10_goBack_155 : decode cX10_goBack 155 = .ok (.iconst 4, 1) := by decide +kernel
theorem dX10_goBack_156 : decode cX10_goBack 156 = .ok (.aload_n 0, 1) := by decide +kernel
theorem dX10_goBack_157 : decode cX10_goBack 157 = .ok (.getfield 130, 3) := by decide +kernel
theorem dX10_goBack_160 : decode cX10_goBack 160 = .ok (.imul, 1) := by decide +kernel
theorem dX10_goBack_161 : decode cX10_goBack 161 = .ok (.iconst 3, 1) := by decide +kernel
theorem dX10_goBack_162 : decode cX10_goBack 162 = .ok (.iadd, 1) := by decide +kernel
theorem dX10_goBack_163 : decode cX10_goBack 163 = .ok (.aload_n 0, 1) := by decide +kernel
theorem dX10_goBack_164 : decode cX10_goBack 164 = .ok (.getfield 110, 3) := by decide +kernel
theorem dX10_goBack_167 : decode cX10_goBack 167 = .ok (.iastore, 1) := by decide +kernel
theorem dX10_goBack_168 : decode cX10_goBack 168 = .ok (.aload_n 0, 1) := by decide +kernel
theorem dX10_goBack_169 : decode cX10_goBack 169 = .ok (.dup, 1) := by decide +kernel
theorem dX10_goBack_170 : decode cX10_goBack 170 = .ok (.getfield 130, 3) := by decide +kernel
theorem dX10_goBack_173 : decode cX10_goBack 173 = .ok (.iconst 1, 1) := by decide +kernel
theorem dX10_goBack_174 : decode cX10_goBack 174 = .ok (.iadd, 1) := by decide +kernel
theorem dX10_goBack_175 : decode cX10_goBack 175 = .ok (.putfield 130, 3) := by decide +kernel
theorem dX10_goBack_178 : decode cX10_goBack 178 = .ok (.iinc 2 1, 3) := by decide +kernel
theorem dX10_goBack_181 : decode cX10_goBack 181 = .ok (.goto (-124), 3) := by decide +kernel
theorem dX10_goBack_184 : decode cX10_goBack 184 = .ok (.aload_n 0, 1) := by decide +kernel
theorem dX10_goBack_185 : decode cX10_goBack 185 = .ok (.dup, 1) := by decide +kernel
theorem dX10_goBack_186 : decode cX10_goBack 186 = .ok (.getfield 121, 3) := by decide +kernel
theorem dX10_goBack_189 : decode cX10_goBack 189 = .ok (.iconst 1, 1) := by decide +kernel
theorem dX10_goBack_190 : decode cX10_goBack 190 = .ok (.iadd, 1) := by decide +kernel
theorem dX10_goBack_191 : decode cX10_goBack 191 = .ok (.putfield 121, 3) := by decide +kernel
theorem dX10_goBack_194 : decode cX10_goBack 194 = .ok (.aload_n 0, 1) := by decide +kernel
theorem dX10_goBack_195 : decode cX10_goBack 195 = .ok (.dup, 1) := by decide +kernel
theorem dX10_goBack_196 : decode cX10_goBack 196 = .ok (.getfield 124, 3) := by decide +kernel
theorem dX10_goBack_199 : decode cX10_goBack 199 = .ok (.aload_n 0, 1) := by decide +kernel
theorem dX10_goBack_200 : decode cX10_goBack 200 = .ok (.getfield 110, 3) := by decide +kernel
theorem dX10_goBack_203 : decode cX10_goBack 203 = .ok (.iload_n 1, 1) := by decide +kernel
theorem dX10_goBack_204 : decode cX10_goBack 204 = .ok (.isub, 1) := by decide +kernel
theorem dX10_goBack_205 : decode cX10_goBack 205 = .ok (.iadd, 1) := by decide +kernel
theorem dX10_goBack_206 : decode cX10_goBack 206 = .ok (.putfield 124, 3) := by decide +kernel
theorem dX10_goBack_209 : decode cX10_goBack 209 = .ok (.aload_n 0, 1) := by decide +kernel
theorem dX10_goBack_210 : decode cX10_goBack 210 = .ok (.aload_n 0, 1) := by decide +kernel
theorem dX10_goBack_211 : decode cX10_goBack 211 = .ok (.getfield 110, 3) := by decide +kernel
theorem dX10_goBack_214 : decode cX10_goBack 214 = .ok (.iload_n 1, 1) := by decide +kernel
theorem dX10_goBack_215 : decode cX10_goBack 215 = .ok (.isub, 1) := by decide +kernel
theorem dX10_goBack_216 : decode cX10_goBack 216 = .ok (.aload_n 0, 1) := by decide +kernel
theorem dX10_goBack_217 : decode cX10_goBack 217 = .ok (.getfield 127, 3) := by decide +kernel
theorem dX10_goBack_220 : decode cX10_goBack 220 = .ok (.if_icmp .le 12, 3) := by decide +kernel
theorem dX10_goBack_223 : decode cX10_goBack 223 = .ok (.aload_n 0, 1) := by decide +kernel
theorem dX10_goBack_224 : decode cX10_goBack 224 = .ok (.getfield 110, 3) := by decide +kernel
theorem dX10_goBack_227 : decode cX10_goBack 227 = .ok (.iload_n 1, 1) := by decide +kernel
theorem dX10_goBack_228 : decode cX10_goBack 228 = .ok (.isub, 1) := by decide +kernel
theorem dX10_goBack_229 : decode cX10_goBack 229 = .ok (.goto 7, 3) := by decide +kernel
theorem dX10_goBack_232 : decode cX10_goBack 232 = .ok (.aload_n 0, 1) := by decide +kernel
theorem dX10_goBack_233 : decode cX10_goBack 233 = .ok (.getfield 127, 3) := by decide +kernel
theorem dX10_goBack_236 : decode cX10_goBack 236 = .ok (.putfield 127, 3) := by decide +kernel
theorem dX10_goBack_239 : decode cX10_goBack 239 = .ok (.return_, 1) := by decide +kernel
theorem dX10_feed_0 : decode cX10_feed 0 = .ok (.iload_n 1, 1) := by decide +kernel
theorem dX10_feed_1 : decode cX10_feed 1 = .ok (.iconst 0, 1) := by decide +kernel
theorem dX10_feed_2 : decode cX10_feed 2 = .ok (.aload_n 0, 1) := by decide +kernel
theorem dX10_feed_3 : decode cX10_feed 3 = .ok (.getfield 16, 3) := by decide +kernel
theorem dX10_feed_6 : decode cX10_feed 6 = .ok (.iconst 1, 1) := by decide +kernel
theorem dX10_feed_7 : decode cX10_feed 7 = .ok (.isub, 1) := by decide +kernel
theorem dX10_feed_8 : decode cX10_feed 8 = .ok (.invokestatic 137, 3) := by decide +kernel
theorem dX10_feed_11 : decode cX10_feed 11 = .ok (.ifCond .eq 12, 3) := by decide +kernel
theorem dX10_feed_14 : decode cX10_feed 14 = .ok (.aload_n 0, 1) := by decide +kernel
theorem dX10_feed_15 : decode cX10_feed 15 = .ok (.iload_n 1, 1) := by decide +kernel
theorem dX10_feed_16 : decode cX10_feed 16 = .ok (.lload_n 2, 1) := by decide +kernel
theorem dX10_feed_17 : decode cX10_feed 17 = .ok (.invokevirtual 243, 3) := by decide +kernel
theorem dX10_feed_20 : decode cX10_feed 20 = .ok (.goto 4, 3) := by decide +kernel
theorem dX10_feed_23 : decode cX10_feed 23 = .ok (.iconst (-1), 1) := by decide +kernel
theorem dX10_feed_24 : decode cX10_feed 24 = .ok (.istore 4, 2) := by decide +kernel
theorem dX10_feed_26 : decode cX10_feed 26 = .ok (.iload 4, 2) := by decide +kernel
theorem dX10_feed_28 : decode cX10_feed 28 = .ok (.ifCond .ge 16, 3) := by decide +kernel
theorem dX10_feed_31 : decode cX10_feed 31 = .ok (.aload_n 0, 1) := by decide +kernel
theorem dX10_feed_32 : decode cX10_feed 32 = .ok (.dup, 1) := by decide +kernel
theorem dX10_feed_33 : decode cX10_feed 33 = .ok (.getfield 118, 3) := by decide +kernel
theorem dX10_feed_36 : decode cX10_feed 36 = .ok (.iconst 1, 1) := by decide +kernel
theorem dX10_feed_37 : decode cX10_feed 37 = .ok (.iadd, 1) := by decide +kernel
theorem dX10_feed_38 : decode cX10_feed 38 = .ok (.putfield 118, 3) := by decide +kernel
theorem dX10_feed_41 : decode cX10_feed 41 = .ok (.iload 4, 2) := by decide +kernel
theorem dX10_feed_43 : decode cX10_feed 43 = .ok (.ireturn, 1) := by decide +kernel
theorem dX10_feed_44 : decode cX10_feed 44 = .ok (.lload_n 2, 1) := by decide +kernel
theorem dX10_feed_45 : decode cX10_feed 45 = .ok (.bipush 10, 2) := by decide +kernel
theorem dX10_feed_47 : decode cX10_feed 47 = .ok (.bipush 16, 2) := by decide +kernel
theorem dX10_feed_49 : decode cX10_feed 49 = .ok (.invokestatic 233, 3) := by decide +kernel
theorem dX10_feed_52 : decode cX10_feed 52 = .ok (.istore 5, 2) := by decide +kernel
theorem dX10_feed_54 : decode cX10_feed 54 = .ok (.aload_n 0, 1) := by decide +kernel
theorem dX10_feed_55 : decode cX10_feed 55 = .ok (.getfield 42, 3) := by decide +kernel
theorem dX10_feed_58 : decode cX10_feed 58 = .ok (.iconst 4, 1) := by decide +kernel
theorem dX10_feed_59 : decode cX10_feed 59 = .ok (.iload 5, 2) := by decide +kernel
theorem dX10_feed_61 : decode cX10_feed 61 = .ok (.imul, 1) := by decide +kernel
theorem dX10_feed_62 : decode cX10_feed 62 = .ok (.iload_n 1, 1) := by decide +kernel
theorem dX10_feed_63 : decode cX10_feed 63 = .ok (.iadd, 1) := by decide +kernel
theorem dX10_feed_64 : decode cX10_feed 64 = .ok (.lload_n 2, 1) := by decide +kernel
theorem dX10_feed_65 : decode cX10_feed 65 = .ok (.iconst 0, 1) := by decide +kernel
theorem dX10_feed_66 : decode cX10_feed 66 = .ok (.iconst 4, 1) := by decide +kernel
theorem dX10_feed_67 : decode cX10_feed 67 = .ok (.invokestatic 233, 3) := by decide +kernel
theorem dX10_feed_70 : decode cX10_feed 70 = .ok (.bipush 16, 2) := by decide +kernel
theorem dX10_feed_72 : decode cX10_feed 72 = .ok (.lload_n 2, 1) := by decide +kernel
theorem dX10_feed_73 : decode cX10_feed 73 = .ok (.iconst 4, 1) := by decide +kernel
theorem dX10_feed_74 : decode cX10_feed 74 = .ok (.iconst 2, 1) := by decide +kernel
theorem dX10_feed_75 : decode cX10_feed 75 = .ok (.invokestatic 233, 3) := by decide +kernel
theorem dX10_feed_78 : decode cX10_feed 78 = .ok (.imul, 1) := by decide +kernel
theorem dX10_feed_79 : decode cX10_feed 79 = .ok (.iadd, 1) := by decide +kernel
theorem dX10_feed_80 : decode cX10_feed 80 = .ok (.bipush 64, 2) := by decide +kernel
theorem dX10_feed_82 : decode cX10_feed 82 = .ok (.lload_n 2, 1) := by decide +kernel
theorem dX10_feed_83 : decode cX10_feed 83 = .ok (.bipush 6, 2) := by decide +kernel
theorem dX10_feed_85 : decode cX10_feed 85 = .ok (.iconst 4, 1) := by decide +kernel
theorem dX10_feed_86 : decode cX10_feed 86 = .ok (.invokestatic 233, 3) := by decide +kernel
theorem dX10_feed_89 : decode cX10_feed 89 = .ok (.imul, 1) := by decide +kernel
theorem dX10_feed_90 : decode cX10_feed 90 = .ok (.iadd, 1) := by decide +kernel
theorem dX10_feed_91 : decode cX10_feed 91 = .ok (.iastore, 1) := by decide +kernel
theorem dX10_feed_92 : decode cX10_feed 92 = .ok (.aload_n 0, 1) := by decide +kernel
theorem dX10_feed_93 : decode cX10_feed 93 = .ok (.getfield 45, 3) := by decide +kernel
theorem dX10_feed_96 : decode cX10_feed 96 = .ok (.iconst 4, 1) := by decide +kernel
theorem dX10_feed_97 : decode cX10_feed 97 = .ok (.iload 5, 2) := by decide +kernel
theorem dX10_feed_99 : decode cX10_feed 99 = .ok (.imul, 1) := by decide +kernel
theorem dX10_feed_100 : decode cX10_feed 100 = .ok (.iload_n 1, 1) := by decide +kernel
theorem dX10_feed_101 : decode cX10_feed 101 = .ok (.iadd, 1) := by decide +kernel
theorem dX10_feed_102 : decode cX10_feed 102 = .ok (.iload 5, 2) := by decide +kernel
theorem dX10_feed_104 : decode cX10_feed 104 = .ok (.aload_n 0, 1) := by decide +kernel
theorem dX10_feed_105 : decode cX10_feed 105 = .ok (.getfield 110, 3) := by decide +kernel
theorem dX10_feed_108 : decode cX10_feed 108 = .ok (.if_icmp .ge 7, 3) := by decide +kernel
theorem dX10_feed_111 : decode cX10_feed 111 = .ok (.iconst 1, 1) := by decide +kernel
theorem dX10_feed_112 : decode cX10_feed 112 = .ok (.goto 4, 3) := by decide +kernel
theorem dX10_feed_115 : decode cX10_feed 115 = .ok (.iconst 0, 1) := by decide +kernel
theorem dX10_feed_116 : decode cX10_feed 116 = .ok (.bastore, 1) := by decide +kernel
theorem dX10_feed_117 : decode cX10_feed 117 = .ok (.aload_n 0, 1) := by decide +kernel
theorem dX10_feed_118 : decode cX10_feed 118 = .ok (.getfield 52, 3) := by decide +kernel
theorem dX10_feed_121 : decode cX10_feed 121 = .ok (.iload_n 1, 1) := by decide +kernel
theorem dX10_feed_122 : decode cX10_feed 122 = .ok (.aload_n 0, 1) := by decide +kernel
theorem dX10_feed_123 : decode cX10_feed 123 = .ok (.getfield 52, 3) := by decide +kernel
theorem dX10_feed_126 : decode cX10_feed 126 = .ok (.iload_n 1, 1) := by decide +kernel
theorem dX10_feed_127 : decode cX10_feed 127 = .ok (.iaload, 1) := by decide +kernel
theorem dX10_feed_128 : decode cX10_feed 128 = .ok (.iconst 1, 1) := by decide +kernel
theorem dX10_feed_129 : decode cX10_feed 129 = .ok (.iadd, 1) := by decide +kernel
theorem dX10_feed_130 : decode cX10_feed 130 = .ok (.sipush 255, 3) := by decide +kernel
theorem dX10_feed_133 : decode cX10_feed 133 = .ok (.iand, 1) := by decide +kernel
theorem dX10_feed_134 : decode cX10_feed 134 = .ok (.iastore, 1) := by decide +kernel
theorem dX10_feed_135 : decode cX10_feed 135 = .ok (.aload_n 0, 1) := by decide +kernel
theorem dX10_feed_136 : decode cX10_feed 136 = .ok (.dup, 1) := by decide +kernel
theorem dX10_feed_137 : decode cX10_feed 137 = .ok (.getfield 115, 3) := by decide +kernel
theorem dX10_feed_140 : decode cX10_feed 140 = .ok (.iconst 1, 1) := by decide +kernel
theorem dX10_feed_141 : decode cX10_feed 141 = .ok (.iadd, 1) := by decide +kernel
theorem dX10_feed_142 : decode cX10_feed 142 = .ok (.putfield 115, 3) := by decide +kernel
theorem dX10_feed_145 : decode cX10_feed 145 = .ok (.iload 5, 2) := by decide +kernel
theorem dX10_feed_147 : decode cX10_feed 147 = .ok (.aload_n 0, 1) := by decide +kernel
theorem dX10_feed_148 : decode cX10_feed 148 = .ok (.getfield 110, 3) := by decide +kernel
theorem dX10_feed_151 : decode cX10_feed 151 = .ok (.if_icmp .lt 5, 3) := by decide +kernel
theorem dX10_feed_154 : decode cX10_feed 154 = .ok (.iconst 0, 1) := by decide +kernel
theorem dX10_feed_155 : decode cX10_feed 155 = .ok (.ireturn, 1) := by decide +kernel
theorem dX10_feed_156 : decode cX10_feed 156 = .ok (.aload_n 0, 1) := by decide +kernel
theorem dX10_feed_157 : decode cX10_feed 157 = .ok (.iload 5, 2) := by decide +kernel
theorem dX10_feed_159 : decode cX10_feed 159 = .ok (.invokevirtual 247, 3) := by decide +kernel
theorem dX10_feed_162 : decode cX10_feed 162 = .ok (.aload_n 0, 1) := by decide +kernel
theorem dX10_feed_163 : decode cX10_feed 163 = .ok (.getfield 110, 3) := by decide +kernel
theorem dX10_feed_166 : decode cX10_feed 166 = .ok (.iload 5, 2) := by decide +kernel
theorem dX10_feed_168 : decode cX10_feed 168 = .ok (.isub, 1) := by decide +kernel
theorem dX10_feed_169 : decode cX10_feed 169 = .ok (.ireturn, 1) := by decide +kernel
theorem dX10_step_0 : decode cX10_step 0 = .ok (.aload_n 0, 1) := by decide +kernel
theorem dX10_step_1 : decode cX10_step 1 = .ok (.getfield 110, 3) := by decide +kernel
theorem dX10_step_4 : decode cX10_step 4 = .ok (.sipush 500, 3) := by decide +kernel
theorem dX10_step_7 : decode cX10_step 7 = .ok (.if_icmp .ne 6, 3) := by decide +kernel
theorem dX10_step_10 : decode cX10_step 10 = .ok (.bipush (-4), 2) := by decide +kernel
theorem dX10_step_12 : decode cX10_step 12 = .ok (.ireturn, 1) := by decide +kernel
theorem dX10_step_13 : decode cX10_step 13 = .ok (.aload_n 0, 1) := by decide +kernel
theorem dX10_step_14 : decode cX10_step 14 = .ok (.aload_n 0, 1) := by decide +kernel
theorem dX10_step_15 : decode cX10_step 15 = .ok (.getfield 110, 3) := by decide +kernel
theorem dX10_step_18 : decode cX10_step 18 = .ok (.invokevirtual 240, 3) := by decide +kernel
theorem dX10_step_21 : decode cX10_step 21 = .ok (.aload_n 0, 1) := by decide +kernel
theorem dX10_step_22 : decode cX10_step 22 = .ok (.dup, 1) := by decide +kernel
theorem dX10_step_23 : decode cX10_step 23 = .ok (.getfield 110, 3) := by decide +kernel
theorem dX10_step_26 : decode cX10_step 26 = .ok (.iconst 1, 1) := by decide +kernel
theorem dX10_step_27 : decode cX10_step 27 = .ok (.iadd, 1) := by decide +kernel
theorem dX10_step_28 : decode cX10_step 28 = .ok (.putfield 110, 3) := by decide +kernel
theorem dX10_step_31 : decode cX10_step 31 = .ok (.aload_n 0, 1) := by decide +kernel
theorem dX10_step_32 : decode cX10_step 32 = .ok (.getfield 110, 3) := by decide +kernel
theorem dX10_step_35 : decode cX10_step 35 = .ok (.aload_n 0, 1) := by decide +kernel
theorem dX10_step_36 : decode cX10_step 36 = .ok (.getfield 32, 3) := by decide +kernel
theorem dX10_step_39 : decode cX10_step 39 = .ok (.isub, 1) := by decide +kernel
theorem dX10_step_40 : decode cX10_step 40 = .ok (.iconst 1, 1) := by decide +kernel
theorem dX10_step_41 : decode cX10_step 41 = .ok (.isub, 1) := by decide +kernel
theorem dX10_step_42 : decode cX10_step 42 = .ok (.istore_n 1, 1) := by decide +kernel
theorem dX10_step_43 : decode cX10_step 43 = .ok (.iload_n 1, 1) := by decide +kernel
theorem dX10_step_44 : decode cX10_step 44 = .ok (.ifCond .lt 8, 3) := by decide +kernel
theorem dX10_step_47 : decode cX10_step 47 = .ok (.aload_n 0, 1) := by decide +kernel
theorem dX10_step_48 : decode cX10_step 48 = .ok (.iload_n 1, 1) := by decide +kernel
theorem dX10_step_49 : decode cX10_step 49 = .ok (.invokevirtual 250, 3) := by decide +kernel
theorem dX10_step_52 : decode cX10_step 52 = .ok (.aload_n 0, 1) := by decide +kernel
theorem dX10_step_53 : decode cX10_step 53 = .ok (.getfield 110, 3) := by decide +kernel
theorem dX10_step_56 : decode cX10_step 56 = .ok (.ireturn, 1) := by decide +kernel
theorem dX10_tailOf_0 : decode cX10_tailOf 0 = .ok (.lconst 0, 1) := by decide +kernel
theorem dX10_tailOf_1 : decode cX10_tailOf 1 = .ok (.lstore_n 2, 1) := by decide +kernel
theorem dX10_tailOf_2 : decode cX10_tailOf 2 = .ok (.aload_n 0, 1) := by decide +kernel
theorem dX10_tailOf_3 : decode cX10_tailOf 3 = .ok (.getfield 64, 3) := by decide +kernel
theorem dX10_tailOf_6 : decode cX10_tailOf 6 = .ok (.iload_n 1, 1) := by decide +kernel
theorem dX10_tailOf_7 : decode cX10_tailOf 7 = .ok (.iaload, 1) := by decide +kernel
theorem dX10_tailOf_8 : decode cX10_tailOf 8 = .ok (.istore 4, 2) := by decide +kernel
theorem dX10_tailOf_10 : decode cX10_tailOf 10 = .ok (.iload 4, 2) := by decide +kernel
theorem dX10_tailOf_12 : decode cX10_tailOf 12 = .ok (.bipush 65, 2) := by decide +kernel
theorem dX10_tailOf_14 : decode cX10_tailOf 14 = .ok (.if_icmp .ge 24, 3) := by decide +kernel
theorem dX10_tailOf_17 : decode cX10_tailOf 17 = .ok (.lload_n 2, 1) := by decide +kernel
theorem dX10_tailOf_18 : decode cX10_tailOf 18 = .ok (.aload_n 0, 1) := by decide +kernel
theorem dX10_tailOf_19 : decode cX10_tailOf 19 = .ok (.getfield 70, 3) := by decide +kernel
theorem dX10_tailOf_22 : decode cX10_tailOf 22 = .ok (.bipush 65, 2) := by decide +kernel
theorem dX10_tailOf_24 : decode cX10_tailOf 24 = .ok (.iload_n 1, 1) := by decide +kernel
theorem dX10_tailOf_25 : decode cX10_tailOf 25 = .ok (.imul, 1) := by decide +kernel
theorem dX10_tailOf_26 : decode cX10_tailOf 26 = .ok (.iload 4, 2) := by decide +kernel
theorem dX10_tailOf_28 : decode cX10_tailOf 28 = .ok (.iadd, 1) := by decide +kernel
theorem dX10_tailOf_29 : decode cX10_tailOf 29 = .ok (.laload, 1) := by decide +kernel
theorem dX10_tailOf_30 : decode cX10_tailOf 30 = .ok (.ladd, 1) := by decide +kernel
theorem dX10_tailOf_31 : decode cX10_tailOf 31 = .ok (.lstore_n 2, 1) := by decide +kernel
theorem dX10_tailOf_32 : decode cX10_tailOf 32 = .ok (.iinc 4 1, 3) := by decide +kernel
theorem dX10_tailOf_35 : decode cX10_tailOf 35 = .ok (.goto (-25), 3) := by decide +kernel
theorem dX10_tailOf_38 : decode cX10_tailOf 38 = .ok (.lload_n 2, 1) := by decide +kernel
theorem dX10_tailOf_39 : decode cX10_tailOf 39 = .ok (.lreturn, 1) := by decide +kernel
theorem dX10_tried_0 : decode cX10_tried 0 = .ok (.aload_n 0, 1) := by decide +kernel
theorem dX10_tried_1 : decode cX10_tried 1 = .ok (.getfield 61, 3) := by decide +kernel
theorem dX10_tried_4 : decode cX10_tried 4 = .ok (.iload_n 1, 1) := by decide +kernel
theorem dX10_tried_5 : decode cX10_tried 5 = .ok (.iaload, 1) := by decide +kernel
theorem dX10_tried_6 : decode cX10_tried 6 = .ok (.bipush 64, 2) := by decide +kernel
theorem dX10_tried_8 : decode cX10_tried 8 = .ok (.if_icmp .ne 4, 3) := by decide +kernel
theorem dX10_tried_11 : decode cX10_tried 11 = .ok (.return_, 1) := by decide +kernel
theorem dX10_tried_12 : decode cX10_tried 12 = .ok (.bipush 64, 2) := by decide +kernel
theorem dX10_tried_14 : decode cX10_tried 14 = .ok (.istore 5, 2) := by decide +kernel
theorem dX10_tried_16 : decode cX10_tried 16 = .ok (.iload 5, 2) := by decide +kernel
theorem dX10_tried_18 : decode cX10_tried 18 = .ok (.ifCond .lt 73, 3) := by decide +kernel
theorem dX10_tried_21 : decode cX10_tried 21 = .ok (.iload 5, 2) := by decide +kernel
theorem dX10_tried_23 : decode cX10_tried 23 = .ok (.ifCond .ne 7, 3) := by decide +kernel
theorem dX10_tried_26 : decode cX10_tried 26 = .ok (.lconst 0, 1) := by decide +kernel
theorem dX10_tried_27 : decode cX10_tried 27 = .ok (.goto 17, 3) := by decide +kernel
theorem dX10_tried_30 : decode cX10_tried 30 = .ok (.aload_n 0, 1) := by decide +kernel
theorem dX10_tried_31 : decode cX10_tried 31 = .ok (.getfield 70, 3) := by decide +kernel
theorem dX10_tried_34 : decode cX10_tried 34 = .ok (.bipush 65, 2) := by decide +kernel
theorem dX10_tried_36 : decode cX10_tried 36 = .ok (.iload_n 1, 1) := by decide +kernel
theorem dX10_tried_37 : decode cX10_tried 37 = .ok (.imul, 1) := by decide +kernel
theorem dX10_tried_38 : decode cX10_tried 38 = .ok (.iload 5, 2) := by decide +kernel
theorem dX10_tried_40 : decode cX10_tried 40 = .ok (.iadd, 1) := by decide +kernel
theorem dX10_tried_41 : decode cX10_tried 41 = .ok (.iconst 1, 1) := by decide +kernel
theorem dX10_tried_42 : decode cX10_tried 42 = .ok (.isub, 1) := by decide +kernel
theorem dX10_tried_43 : decode cX10_tried 43 = .ok (.laload, 1) := by decide +kernel
theorem dX10_tried_44 : decode cX10_tried 44 = .ok (.lstore 6, 2) := by decide +kernel
theorem dX10_tried_46 : decode cX10_tried 46 = .ok (.aload_n 0, 1) := by decide +kernel
theorem dX10_tried_47 : decode cX10_tried 47 = .ok (.getfield 70, 3) := by decide +kernel
theorem dX10_tried_50 : decode cX10_tried 50 = .ok (.bipush 65, 2) := by decide +kernel
theorem dX10_tried_52 : decode cX10_tried 52 = .ok (.iload_n 1, 1) := by decide +kernel
theorem dX10_tried_53 : decode cX10_tried 53 = .ok (.imul, 1) := by decide +kernel
theorem dX10_tried_54 : decode cX10_tried 54 = .ok (.iload 5, 2) := by decide +kernel
theorem dX10_tried_56 : decode cX10_tried 56 = .ok (.iadd, 1) := by decide +kernel
theorem dX10_tried_57 : decode cX10_tried 57 = .ok (.aload_n 0, 1) := by decide +kernel
theorem dX10_tried_58 : decode cX10_tried 58 = .ok (.getfield 70, 3) := by decide +kernel
theorem dX10_tried_61 : decode cX10_tried 61 = .ok (.bipush 65, 2) := by decide +kernel
theorem dX10_tried_63 : decode cX10_tried 63 = .ok (.iload_n 1, 1) := by decide +kernel
theorem dX10_tried_64 : decode cX10_tried 64 = .ok (.imul, 1) := by decide +kernel
theorem dX10_tried_65 : decode cX10_tried 65 = .ok (.iload 5, 2) := by decide +kernel
theorem dX10_tried_67 : decode cX10_tried 67 = .ok (.iadd, 1) := by decide +kernel
theorem dX10_tried_68 : decode cX10_tried 68 = .ok (.laload, 1) := by decide +kernel
theorem dX10_tried_69 : decode cX10_tried 69 = .ok (.ldc2_w 113, 3) := by decide +kernel
theorem dX10_tried_72 : decode cX10_tried 72 = .ok (.lload_n 2, 1) := by decide +kernel
theorem dX10_tried_73 : decode cX10_tried 73 = .ok (.lsub, 1) := by decide +kernel
theorem dX10_tried_74 : decode cX10_tried 74 = .ok (.lmul, 1) := by decide +kernel
theorem dX10_tried_75 : decode cX10_tried 75 = .ok (.lload 6, 2) := by decide +kernel
theorem dX10_tried_77 : decode cX10_tried 77 = .ok (.lload_n 2, 1) := by decide +kernel
theorem dX10_tried_78 : decode cX10_tried 78 = .ok (.lmul, 1) := by decide +kernel
theorem dX10_tried_79 : decode cX10_tried 79 = .ok (.ladd, 1) := by decide +kernel
theorem dX10_tried_80 : decode cX10_tried 80 = .ok (.ldc2_w 113, 3) := by decide +kernel
theorem dX10_tried_83 : decode cX10_tried 83 = .ok (.ldiv, 1) := by decide +kernel
theorem dX10_tried_84 : decode cX10_tried 84 = .ok (.lastore, 1) := by decide +kernel
theorem dX10_tried_85 : decode cX10_tried 85 = .ok (.iinc 5 (-1), 3) := by decide +kernel
theorem dX10_tried_88 : decode cX10_tried 88 = .ok (.goto (-72), 3) := by decide +kernel
theorem dX10_tried_91 : decode cX10_tried 91 = .ok (.aload_n 0, 1) := by decide +kernel
theorem dX10_tried_92 : decode cX10_tried 92 = .ok (.getfield 61, 3) := by decide +kernel
theorem dX10_tried_95 : decode cX10_tried 95 = .ok (.iload_n 1, 1) := by decide +kernel
theorem dX10_tried_96 : decode cX10_tried 96 = .ok (.dup2, 1) := by decide +kernel
theorem dX10_tried_97 : decode cX10_tried 97 = .ok (.iaload, 1) := by decide +kernel
theorem dX10_tried_98 : decode cX10_tried 98 = .ok (.iconst 1, 1) := by decide +kernel
theorem dX10_tried_99 : decode cX10_tried 99 = .ok (.iadd, 1) := by decide +kernel
theorem dX10_tried_100 : decode cX10_tried 100 = .ok (.iastore, 1) := by decide +kernel
theorem dX10_tried_101 : decode cX10_tried 101 = .ok (.aload_n 0, 1) := by decide +kernel
theorem dX10_tried_102 : decode cX10_tried 102 = .ok (.getfield 64, 3) := by decide +kernel
theorem dX10_tried_105 : decode cX10_tried 105 = .ok (.iload_n 1, 1) := by decide +kernel
theorem dX10_tried_106 : decode cX10_tried 106 = .ok (.dup2, 1) := by decide +kernel
theorem dX10_tried_107 : decode cX10_tried 107 = .ok (.iaload, 1) := by decide +kernel
theorem dX10_tried_108 : decode cX10_tried 108 = .ok (.iload 4, 2) := by decide +kernel
theorem dX10_tried_110 : decode cX10_tried 110 = .ok (.ifCond .eq 7, 3) := by decide +kernel
theorem dX10_tried_113 : decode cX10_tried 113 = .ok (.iconst 1, 1) := by decide +kernel
theorem dX10_tried_114 : decode cX10_tried 114 = .ok (.goto 4, 3) := by decide +kernel
theorem dX10_tried_117 : decode cX10_tried 117 = .ok (.iconst 0, 1) := by decide +kernel
theorem dX10_tried_118 : decode cX10_tried 118 = .ok (.iadd, 1) := by decide +kernel
theorem dX10_tried_119 : decode cX10_tried 119 = .ok (.iastore, 1) := by decide +kernel
theorem dX10_tried_120 : decode cX10_tried 120 = .ok (.aload_n 0, 1) := by decide +kernel
theorem dX10_tried_121 : decode cX10_tried 121 = .ok (.getfield 67, 3) := by decide +kernel
theorem dX10_tried_124 : decode cX10_tried 124 = .ok (.iload_n 1, 1) := by decide +kernel
theorem dX10_tried_125 : decode cX10_tried 125 = .ok (.iaload, 1) := by decide +kernel
theorem dX10_tried_126 : decode cX10_tried 126 = .ok (.ifCond .ne 29, 3) := by decide +kernel
theorem dX10_tried_129 : decode cX10_tried 129 = .ok (.aload_n 0, 1) := by decide +kernel
theorem dX10_tried_130 : decode cX10_tried 130 = .ok (.iload_n 1, 1) := by decide +kernel
theorem dX10_tried_131 : decode cX10_tried 131 = .ok (.invokevirtual 253, 3) := by decide +kernel
theorem dX10_tried_134 : decode cX10_tried 134 = .ok (.aload_n 0, 1) := by decide +kernel
theorem dX10_tried_135 : decode cX10_tried 135 = .ok (.getfield 35, 3) := by decide +kernel
theorem dX10_tried_138 : decode cX10_tried 138 = .ok (.i2l, 1) := by decide +kernel
theorem dX10_tried_139 : decode cX10_tried 139 = .ok (.lcmp, 1) := by decide +kernel
theorem dX10_tried_140 : decode cX10_tried 140 = .ok (.ifCond .gt 15, 3) := by decide +kernel
theorem dX10_tried_143 : decode cX10_tried 143 = .ok (.aload_n 0, 1) := by decide +kernel
theorem dX10_tried_144 : decode cX10_tried 144 = .ok (.getfield 67, 3) := by decide +kernel
theorem dX10_tried_147 : decode cX10_tried 147 = .ok (.iload_n 1, 1) := by decide +kernel
theorem dX10_tried_148 : decode cX10_tried 148 = .ok (.aload_n 0, 1) := by decide +kernel
theorem dX10_tried_149 : decode cX10_tried 149 = .ok (.getfield 110, 3) := by decide +kernel
theorem dX10_tried_152 : decode cX10_tried 152 = .ok (.iconst 1, 1) := by decide +kernel
theorem dX10_tried_153 : decode cX10_tried 153 = .ok (.iadd, 1) := by decide +kernel
theorem dX10_tried_154 : decode cX10_tried 154 = .ok (.iastore, 1) := by decide +kernel
theorem dX10_tried_155 : decode cX10_tried 155 = .ok (.return_, 1) := by decide +kernel
theorem dX10_look_0 : decode cX10_look 0 = .ok (.bipush 112, 2) := by decide +kernel
theorem dX10_look_2 : decode cX10_look 2 = .ok (.iload_n 1, 1) := by decide +kernel
theorem dX10_look_3 : decode cX10_look 3 = .ok (.imul, 1) := by decide +kernel
theorem dX10_look_4 : decode cX10_look 4 = .ok (.istore_n 2, 1) := by decide +kernel
theorem dX10_look_5 : decode cX10_look 5 = .ok (.iconst 0, 1) := by decide +kernel
theorem dX10_look_6 : decode cX10_look 6 = .ok (.istore_n 3, 1) := by decide +kernel
theorem dX10_look_7 : decode cX10_look 7 = .ok (.iload_n 3, 1) := by decide +kernel
theorem dX10_look_8 : decode cX10_look 8 = .ok (.aload_n 0, 1) := by decide +kernel
theorem dX10_look_9 : decode cX10_look 9 = .ok (.getfield 16, 3) := by decide +kernel
theorem dX10_look_12 : decode cX10_look 12 = .ok (.if_icmp .ge 185, 3) := by decide +kernel
theorem dX10_look_15 : decode cX10_look 15 = .ok (.aload_n 0, 1) := by decide +kernel
theorem dX10_look_16 : decode cX10_look 16 = .ok (.getfield 42, 3) := by decide +kernel
theorem dX10_look_19 : decode cX10_look 19 = .ok (.iconst 4, 1) := by decide +kernel
theorem dX10_look_20 : decode cX10_look 20 = .ok (.iload_n 1, 1) := by decide +kernel
theorem dX10_look_21 : decode cX10_look 21 = .ok (.imul, 1) := by decide +kernel
theorem dX10_look_22 : decode cX10_look 22 = .ok (.iload_n 3, 1) := by decide +kernel
theorem dX10_look_23 : decode cX10_look 23 = .ok (.iadd, 1) := by decide +kernel
theorem dX10_look_24 : decode cX10_look 24 = .ok (.iaload, 1) := by decide +kernel
theorem dX10_look_25 : decode cX10_look 25 = .ok (.istore 4, 2) := by decide +kernel
theorem dX10_look_27 : decode cX10_look 27 = .ok (.aload_n 0, 1) := by decide +kernel
theorem dX10_look_28 : decode cX10_look 28 = .ok (.iload_n 2, 1) := by decide +kernel
theorem dX10_look_29 : decode cX10_look 29 = .ok (.iload_n 3, 1) := by decide +kernel
theorem dX10_look_30 : decode cX10_look 30 = .ok (.invokevirtual 161, 3) := by decide +kernel
theorem dX10_look_33 : decode cX10_look 33 = .ok (.ifCond .eq 158, 3) := by decide +kernel
theorem dX10_look_36 : decode cX10_look 36 = .ok (.iload 4, 2) := by decide +kernel
theorem dX10_look_38 : decode cX10_look 38 = .ok (.sipush 4096, 3) := by decide +kernel
theorem dX10_look_41 : decode cX10_look 41 = .ok (.if_icmp .eq 150, 3) := by decide +kernel
theorem dX10_look_44 : decode cX10_look 44 = .ok (.iload 4, 2) := by decide +kernel
theorem dX10_look_46 : decode cX10_look 46 = .ok (.bipush 16, 2) := by decide +kernel
theorem dX10_look_48 : decode cX10_look 48 = .ok (.irem, 1) := by decide +kernel
theorem dX10_look_49 : decode cX10_look 49 = .ok (.ifCond .ne 6, 3) := by decide +kernel
theorem dX10_look_52 : decode cX10_look 52 = .ok (.goto 139, 3) := by decide +kernel
theorem dX10_look_55 : decode cX10_look 55 = .ok (.iload 4, 2) := by decide +kernel
theorem dX10_look_57 : decode cX10_look 57 = .ok (.bipush 16, 2) := by decide +kernel
theorem dX10_look_59 : decode cX10_look 59 = .ok (.irem, 1) := by decide +kernel
theorem dX10_look_60 : decode cX10_look 60 = .ok (.iconst 2, 1) := by decide +kernel
theorem dX10_look_61 : decode cX10_look 61 = .ok (.if_icmp .ne 33, 3) := by decide +kernel
theorem dX10_look_64 : decode cX10_look 64 = .ok (.aload_n 0, 1) := by decide +kernel
theorem dX10_look_65 : decode cX10_look 65 = .ok (.getfield 39, 3) := by decide +kernel
theorem dX10_look_68 : decode cX10_look 68 = .ok (.iload_n 2, 1) := by decide +kernel
theorem dX10_look_69 : decode cX10_look 69 = .ok (.bipush 6, 2) := by decide +kernel
theorem dX10_look_71 : decode cX10_look 71 = .ok (.iload_n 3, 1) := by decide +kernel
theorem dX10_look_72 : decode cX10_look 72 = .ok (.imul, 1) := by decide +kernel
theorem dX10_look_73 : decode cX10_look 73 = .ok (.iadd, 1) := by decide +kernel
theorem dX10_look_74 : decode cX10_look 74 = .ok (.iconst 3, 1) := by decide +kernel
theorem dX10_look_75 : decode cX10_look 75 = .ok (.iadd, 1) := by decide +kernel
theorem dX10_look_76 : decode cX10_look 76 = .ok (.iaload, 1) := by decide +kernel
theorem dX10_look_77 : decode cX10_look 77 = .ok (.ifCond .ne 17, 3) := by decide +kernel
theorem dX10_look_80 : decode cX10_look 80 = .ok (.aload_n 0, 1) := by decide +kernel
theorem dX10_look_81 : decode cX10_look 81 = .ok (.iload_n 2, 1) := by decide +kernel
theorem dX10_look_82 : decode cX10_look 82 = .ok (.iload_n 1, 1) := by decide +kernel
theorem dX10_look_83 : decode cX10_look 83 = .ok (.iload_n 3, 1) := by decide +kernel
theorem dX10_look_84 : decode cX10_look 84 = .ok (.iload 4, 2) := by decide +kernel
theorem dX10_look_86 : decode cX10_look 86 = .ok (.bipush 16, 2) := by decide +kernel
theorem dX10_look_88 : decode cX10_look 88 = .ok (.idiv, 1) := by decide +kernel
theorem dX10_look_89 : decode cX10_look 89 = .ok (.iconst 4, 1) := by decide +kernel
theorem dX10_look_90 : decode cX10_look 90 = .ok (.irem, 1) := by decide +kernel
theorem dX10_look_91 : decode cX10_look 91 = .ok (.invokevirtual 257, 3) := by decide +kernel
theorem dX10_look_94 : decode cX10_look 94 = .ok (.iload 4, 2) := by decide +kernel
theorem dX10_look_96 : decode cX10_look 96 = .ok (.bipush 16, 2) := by decide +kernel
theorem dX10_look_98 : decode cX10_look 98 = .ok (.irem, 1) := by decide +kernel
theorem dX10_look_99 : decode cX10_look 99 = .ok (.iconst 3, 1) := by decide +kernel
theorem dX10_look_100 : decode cX10_look 100 = .ok (.if_icmp .ne 11, 3) := by decide +kernel
theorem dX10_look_103 : decode cX10_look 103 = .ok (.aload_n 0, 1) := by decide +kernel
theorem dX10_look_104 : decode cX10_look 104 = .ok (.iload_n 2, 1) := by decide +kernel
theorem dX10_look_105 : decode cX10_look 105 = .ok (.iload_n 3, 1) := by decide +kernel
theorem dX10_look_106 : decode cX10_look 106 = .ok (.iload 4, 2) := by decide +kernel
theorem dX10_look_108 : decode cX10_look 108 = .ok (.invokevirtual 261, 3) := by decide +kernel
theorem dX10_look_111 : decode cX10_look 111 = .ok (.aload_n 0, 1) := by decide +kernel
theorem dX10_look_112 : decode cX10_look 112 = .ok (.getfield 74, 3) := by decide +kernel
theorem dX10_look_115 : decode cX10_look 115 = .ok (.iload_n 3, 1) := by decide +kernel
theorem dX10_look_116 : decode cX10_look 116 = .ok (.iaload, 1) := by decide +kernel
theorem dX10_look_117 : decode cX10_look 117 = .ok (.ifCond .ge 7, 3) := by decide +kernel
theorem dX10_look_120 : decode cX10_look 120 = .ok (.iconst (-1), 1) := by decide +kernel
theorem dX10_look_121 : decode cX10_look 121 = .ok (.goto 11, 3) := by decide +kernel
theorem dX10_look_124 : decode cX10_look 124 = .ok (.iload_n 1, 1) := by decide +kernel
theorem dX10_look_125 : decode cX10_look 125 = .ok (.aload_n 0, 1) := by decide +kernel
theorem dX10_look_126 : decode cX10_look 126 = .ok (.getfield 74, 3) := by decide +kernel
theorem dX10_look_129 : decode cX10_look 129 = .ok (.iload_n 3, 1) := by decide +kernel
theorem dX10_look_130 : decode cX10_look 130 = .ok (.iaload, 1) := by decide +kernel
theorem dX10_look_131 : decode cX10_look 131 = .ok (.isub, 1) := by decide +kernel
theorem dX10_look_132 : decode cX10_look 132 = .ok (.istore 5, 2) := by decide +kernel
theorem dX10_look_134 : decode cX10_look 134 = .ok (.iload 5, 2) := by decide +kernel
theorem dX10_look_136 : decode cX10_look 136 = .ok (.ifCond .lt 40, 3) := by decide +kernel
theorem dX10_look_139 : decode cX10_look 139 = .ok (.aload_n 0, 1) := by decide +kernel
theorem dX10_look_140 : decode cX10_look 140 = .ok (.getfield 77, 3) := by decide +kernel
theorem dX10_look_143 : decode cX10_look 143 = .ok (.iload_n 3, 1) := by decide +kernel
theorem dX10_look_144 : decode cX10_look 144 = .ok (.iaload, 1) := by decide +kernel
theorem dX10_look_145 : decode cX10_look 145 = .ok (.ifCond .lt 31, 3) := by decide +kernel
theorem dX10_look_148 : decode cX10_look 148 = .ok (.aload_n 0, 1) := by decide +kernel
theorem dX10_look_149 : decode cX10_look 149 = .ok (.iconst 2, 1) := by decide +kernel
theorem dX10_look_150 : decode cX10_look 150 = .ok (.iload_n 3, 1) := by decide +kernel
theorem dX10_look_151 : decode cX10_look 151 = .ok (.imul, 1) := by decide +kernel
theorem dX10_look_152 : decode cX10_look 152 = .ok (.iconst 1, 1) := by decide +kernel
theorem dX10_look_153 : decode cX10_look 153 = .ok (.iadd, 1) := by decide +kernel
theorem dX10_look_154 : decode cX10_look 154 = .ok (.ldc2_w 264, 3) := by decide +kernel
theorem dX10_look_157 : decode cX10_look 157 = .ok (.iload 5, 2) := by decide +kernel
theorem dX10_look_159 : decode cX10_look 159 = .ok (.aload_n 0, 1) := by decide +kernel
theorem dX10_look_160 : decode cX10_look 160 = .ok (.getfield 77, 3) := by decide +kernel
theorem dX10_look_163 : decode cX10_look 163 = .ok (.iload_n 3, 1) := by decide +kernel
theorem dX10_look_164 : decode cX10_look 164 = .ok (.iaload, 1) := by decide +kernel
theorem dX10_look_165 : decode cX10_look 165 = .ok (.if_icmp .ne 7, 3) := by decide +kernel
theorem dX10_look_168 : decode cX10_look 168 = .ok (.iconst 1, 1) := by decide +kernel
theorem dX10_look_169 : decode cX10_look 169 = .ok (.goto 4, 3) := by decide +kernel
theorem dX10_look_172 : decode cX10_look 172 = .ok (.iconst 0, 1) := by decide +kernel
theorem dX10_look_173 : decode cX10_look 173 = .ok (.invokevirtual 266, 3) := by decide +kernel
theorem dX10_look_176 : decode cX10_look 176 = .ok (.aload_n 0, 1) := by decide +kernel
theorem dX10_look_177 : decode cX10_look 177 = .ok (.getfield 74, 3) := by decide +kernel
theorem dX10_look_180 : decode cX10_look 180 = .ok (.iload_n 3, 1) := by decide +kernel
theorem dX10_look_181 : decode cX10_look 181 = .ok (.iload_n 1, 1) := by decide +kernel
theorem dX10_look_182 : decode cX10_look 182 = .ok (.iastore, 1) := by decide +kernel
theorem dX10_look_183 : decode cX10_look 183 = .ok (.aload_n 0, 1) := by decide +kernel
theorem dX10_look_184 : decode cX10_look 184 = .ok (.getfield 77, 3) := by decide +kernel
theorem dX10_look_187 : decode cX10_look 187 = .ok (.iload_n 3, 1) := by decide +kernel
theorem dX10_look_188 : decode cX10_look 188 = .ok (.iload 5, 2) := by decide +kernel
theorem dX10_look_190 : decode cX10_look 190 = .ok (.iastore, 1) := by decide +kernel
theorem dX10_look_191 : decode cX10_look 191 = .ok (.iinc 3 1, 3) := by decide +kernel
theorem dX10_look_194 : decode cX10_look 194 = .ok (.goto (-187), 3) := by decide +kernel
theorem dX10_look_197 : decode cX10_look 197 = .ok (.return_, 1) := by decide +kernel
theorem dX10_foresee_0 : decode cX10_foresee 0 = .ok (.iconst 0, 1) := by decide +kernel
theorem dX10_foresee_1 : decode cX10_foresee 1 = .ok (.istore 5, 2) := by decide +kernel
theorem dX10_foresee_3 : decode cX10_foresee 3 = .ok (.aload_n 0, 1) := by decide +kernel
theorem dX10_foresee_4 : decode cX10_foresee 4 = .ok (.aload_n 0, 1) := by decide +kernel
theorem dX10_foresee_5 : decode cX10_foresee 5 = .ok (.getfield 39, 3) := by decide +kernel
theorem dX10_foresee_8 : decode cX10_foresee 8 = .ok (.iload_n 1, 1) := by decide +kernel
theorem dX10_foresee_9 : decode cX10_foresee 9 = .ok (.bipush 6, 2) := by decide +kernel
theorem dX10_foresee_11 : decode cX10_foresee 11 = .ok (.iload_n 3, 1) := by decide +kernel
theorem dX10_foresee_12 : decode cX10_foresee 12 = .ok (.imul, 1) := by decide +kernel
theorem dX10_foresee_13 : decode cX10_foresee 13 = .ok (.iadd, 1) := by decide +kernel
theorem dX10_foresee_14 : decode cX10_foresee 14 = .ok (.iconst 0, 1) := by decide +kernel
theorem dX10_foresee_15 : decode cX10_foresee 15 = .ok (.iadd, 1) := by decide +kernel
theorem dX10_foresee_16 : decode cX10_foresee 16 = .ok (.iaload, 1) := by decide +kernel
theorem dX10_foresee_17 : decode cX10_foresee 17 = .ok (.iload 4, 2) := by decide +kernel
theorem dX10_foresee_19 : decode cX10_foresee 19 = .ok (.invokevirtual 192, 3) := by decide +kernel
theorem dX10_foresee_22 : decode cX10_foresee 22 = .ok (.istore 6, 2) := by decide +kernel
theorem dX10_foresee_24 : decode cX10_foresee 24 = .ok (.iconst 0, 1) := by decide +kernel
theorem dX10_foresee_25 : decode cX10_foresee 25 = .ok (.istore 7, 2) := by decide +kernel
theorem dX10_foresee_27 : decode cX10_foresee 27 = .ok (.iload 7, 2) := by decide +kernel
theorem dX10_foresee_29 : decode cX10_foresee 29 = .ok (.bipush 7, 2) := by decide +kernel
theorem dX10_foresee_31 : decode cX10_foresee 31 = .ok (.if_icmp .ge 75, 3) := by decide +kernel
theorem dX10_foresee_34 : decode cX10_foresee 34 = .ok (.iload 6, 2) := by decide +kernel
theorem dX10_foresee_36 : decode cX10_foresee 36 = .ok (.ifCond .lt 70, 3) := by decide +kernel
theorem dX10_foresee_39 : decode cX10_foresee 39 = .ok (.aload_n 0, 1) := by decide +kernel
theorem dX10_foresee_40 : decode cX10_foresee 40 = .ok (.iload_n 1, 1) := by decide +kernel
theorem dX10_foresee_41 : decode cX10_foresee 41 = .ok (.iload 6, 2) := by decide +kernel
theorem dX10_foresee_43 : decode cX10_foresee 43 = .ok (.invokevirtual 175, 3) := by decide +kernel
theorem dX10_foresee_46 : decode cX10_foresee 46 = .ok (.ifCond .ne 60, 3) := by decide +kernel
theorem dX10_foresee_49 : decode cX10_foresee 49 = .ok (.aload_n 0, 1) := by decide +kernel
theorem dX10_foresee_50 : decode cX10_foresee 50 = .ok (.iload_n 1, 1) := by decide +kernel
theorem dX10_foresee_51 : decode cX10_foresee 51 = .ok (.iload_n 3, 1) := by decide +kernel
theorem dX10_foresee_52 : decode cX10_foresee 52 = .ok (.iload 6, 2) := by decide +kernel
theorem dX10_foresee_54 : decode cX10_foresee 54 = .ok (.invokevirtual 211, 3) := by decide +kernel
theorem dX10_foresee_57 : decode cX10_foresee 57 = .ok (.istore 8, 2) := by decide +kernel
theorem dX10_foresee_59 : decode cX10_foresee 59 = .ok (.iload 8, 2) := by decide +kernel
theorem dX10_foresee_61 : decode cX10_foresee 61 = .ok (.ifCond .eq 14, 3) := by decide +kernel
theorem dX10_foresee_64 : decode cX10_foresee 64 = .ok (.aload_n 0, 1) := by decide +kernel
theorem dX10_foresee_65 : decode cX10_foresee 65 = .ok (.iload_n 1, 1) := by decide +kernel
theorem dX10_foresee_66 : decode cX10_foresee 66 = .ok (.iload 6, 2) := by decide +kernel
theorem dX10_foresee_68 : decode cX10_foresee 68 = .ok (.invokevirtual 156, 3) := by decide +kernel
theorem dX10_foresee_71 : decode cX10_foresee 71 = .ok (.ifCond .lt 4, 3) := by decide +kernel
theorem dX10_foresee_74 : decode cX10_foresee 74 = .ok (.return_, 1) := by decide +kernel
theorem dX10_foresee_75 : decode cX10_foresee 75 = .ok (.iload 5, 2) := by decide +kernel
theorem dX10_foresee_77 : decode cX10_foresee 77 = .ok (.iload 8, 2) := by decide +kernel
theorem dX10_foresee_79 : decode cX10_foresee 79 = .ok (.ifCond .eq 7, 3) := by decide +kernel
theorem dX10_foresee_82 : decode cX10_foresee 82 = .ok (.iconst 0, 1) := by decide +kernel
theorem dX10_foresee_83 : decode cX10_foresee 83 = .ok (.goto 4, 3) := by decide +kernel
theorem dX10_foresee_86 : decode cX10_foresee 86 = .ok (.iconst 1, 1) := by decide +kernel
theorem dX10_foresee_87 : decode cX10_foresee 87 = .ok (.iadd, 1) := by decide +kernel
theorem dX10_foresee_88 : decode cX10_foresee 88 = .ok (.istore 5, 2) := by decide +kernel
theorem dX10_foresee_90 : decode cX10_foresee 90 = .ok (.aload_n 0, 1) := by decide +kernel
theorem dX10_foresee_91 : decode cX10_foresee 91 = .ok (.iload 6, 2) := by decide +kernel
theorem dX10_foresee_93 : decode cX10_foresee 93 = .ok (.iload 4, 2) := by decide +kernel
theorem dX10_foresee_95 : decode cX10_foresee 95 = .ok (.invokevirtual 192, 3) := by decide +kernel
theorem dX10_foresee_98 : decode cX10_foresee 98 = .ok (.istore 6, 2) := by decide +kernel
theorem dX10_foresee_100 : decode cX10_foresee 100 = .ok (.iinc 7 1, 3) := by decide +kernel
theorem dX10_foresee_103 : decode cX10_foresee 103 = .ok (.goto (-76), 3) := by decide +kernel
theorem dX10_foresee_106 : decode cX10_foresee 106 = .ok (.iload 5, 2) := by decide +kernel
theorem dX10_foresee_108 : decode cX10_foresee 108 = .ok (.ifCond .ne 4, 3) := by decide +kernel
theorem dX10_foresee_111 : decode cX10_foresee 111 = .ok (.return_, 1) := by decide +kernel
theorem dX10_foresee_112 : decode cX10_foresee 112 = .ok (.iconst 0, 1) := by decide +kernel
theorem dX10_foresee_113 : decode cX10_foresee 113 = .ok (.istore 7, 2) := by decide +kernel
theorem dX10_foresee_115 : decode cX10_foresee 115 = .ok (.iconst 0, 1) := by decide +kernel
theorem dX10_foresee_116 : decode cX10_foresee 116 = .ok (.istore 8, 2) := by decide +kernel
theorem dX10_foresee_118 : decode cX10_foresee 118 = .ok (.iload 8, 2) := by decide +kernel
theorem dX10_foresee_120 : decode cX10_foresee 120 = .ok (.aload_n 0, 1) := by decide +kernel
theorem dX10_foresee_121 : decode cX10_foresee 121 = .ok (.getfield 107, 3) := by decide +kernel
theorem dX10_foresee_124 : decode cX10_foresee 124 = .ok (.if_icmp .ge 52, 3) := by decide +kernel
theorem dX10_foresee_127 : decode cX10_foresee 127 = .ok (.iload 7, 2) := by decide +kernel
theorem dX10_foresee_129 : decode cX10_foresee 129 = .ok (.aload_n 0, 1) := by decide +kernel
theorem dX10_foresee_130 : decode cX10_foresee 130 = .ok (.iload_n 1, 1) := by decide +kernel
theorem dX10_foresee_131 : decode cX10_foresee 131 = .ok (.iload 8, 2) := by decide +kernel
theorem dX10_foresee_133 : decode cX10_foresee 133 = .ok (.invokevirtual 161, 3) := by decide +kernel
theorem dX10_foresee_136 : decode cX10_foresee 136 = .ok (.ifCond .eq 30, 3) := by decide +kernel
theorem dX10_foresee_139 : decode cX10_foresee 139 = .ok (.aload_n 0, 1) := by decide +kernel
theorem dX10_foresee_140 : decode cX10_foresee 140 = .ok (.iload_n 1, 1) := by decide +kernel
theorem dX10_foresee_141 : decode cX10_foresee 141 = .ok (.iload_n 3, 1) := by decide +kernel
theorem dX10_foresee_142 : decode cX10_foresee 142 = .ok (.aload_n 0, 1) := by decide +kernel
theorem dX10_foresee_143 : decode cX10_foresee 143 = .ok (.getfield 39, 3) := by decide +kernel
theorem dX10_foresee_146 : decode cX10_foresee 146 = .ok (.iload_n 1, 1) := by decide +kernel
theorem dX10_foresee_147 : decode cX10_foresee 147 = .ok (.bipush 6, 2) := by decide +kernel
theorem dX10_foresee_149 : decode cX10_foresee 149 = .ok (.iload 8, 2) := by decide +kernel
theorem dX10_foresee_151 : decode cX10_foresee 151 = .ok (.imul, 1) := by decide +kernel
theorem dX10_foresee_152 : decode cX10_foresee 152 = .ok (.iadd, 1) := by decide +kernel
theorem dX10_foresee_153 : decode cX10_foresee 153 = .ok (.iconst 0, 1) := by decide +kernel
theorem dX10_foresee_154 : decode cX10_foresee 154 = .ok (.iadd, 1) := by decide +kernel
theorem dX10_foresee_155 : decode cX10_foresee 155 = .ok (.iaload, 1) := by decide +kernel
theorem dX10_foresee_156 : decode cX10_foresee 156 = .ok (.invokevirtual 211, 3) := by decide +kernel
theorem dX10_foresee_159 : decode cX10_foresee 159 = .ok (.ifCond .ne 7, 3) := by decide +kernel
theorem dX10_foresee_162 : decode cX10_foresee 162 = .ok (.iconst 1, 1) := by decide +kernel
theorem dX10_foresee_163 : decode cX10_foresee 163 = .ok (.goto 4, 3) := by decide +kernel
theorem dX10_foresee_166 : decode cX10_foresee 166 = .ok (.iconst 0, 1) := by decide +kernel
theorem dX10_foresee_167 : decode cX10_foresee 167 = .ok (.iadd, 1) := by decide +kernel
theorem dX10_foresee_168 : decode cX10_foresee 168 = .ok (.istore 7, 2) := by decide +kernel
theorem dX10_foresee_170 : decode cX10_foresee 170 = .ok (.iinc 8 1, 3) := by decide +kernel
theorem dX10_foresee_173 : decode cX10_foresee 173 = .ok (.goto (-55), 3) := by decide +kernel
theorem dX10_foresee_176 : decode cX10_foresee 176 = .ok (.iconst 0, 1) := by decide +kernel
theorem dX10_foresee_177 : decode cX10_foresee 177 = .ok (.istore 8, 2) := by decide +kernel
theorem dX10_foresee_179 : decode cX10_foresee 179 = .ok (.iconst 0, 1) := by decide +kernel
theorem dX10_foresee_180 : decode cX10_foresee 180 = .ok (.istore 9, 2) := by decide +kernel
theorem dX10_foresee_182 : decode cX10_foresee 182 = .ok (.iload 9, 2) := by decide +kernel
theorem dX10_foresee_184 : decode cX10_foresee 184 = .ok (.aload_n 0, 1) := by decide +kernel
theorem dX10_foresee_185 : decode cX10_foresee 185 = .ok (.getfield 7, 3) := by decide +kernel
theorem dX10_foresee_188 : decode cX10_foresee 188 = .ok (.aload_n 0, 1) := by decide +kernel
theorem dX10_foresee_189 : decode cX10_foresee 189 = .ok (.getfield 13, 3) := by decide +kernel
theorem dX10_foresee_192 : decode cX10_foresee 192 = .ok (.imul, 1) := by decide +kernel
theorem dX10_foresee_193 : decode cX10_foresee 193 = .ok (.if_icmp .ge 41, 3) := by decide +kernel
theorem dX10_foresee_196 : decode cX10_foresee 196 = .ok (.iload 8, 2) := by decide +kernel
theorem dX10_foresee_198 : decode cX10_foresee 198 = .ok (.aload_n 0, 1) := by decide +kernel
theorem dX10_foresee_199 : decode cX10_foresee 199 = .ok (.getfield 19, 3) := by decide +kernel
theorem dX10_foresee_202 : decode cX10_foresee 202 = .ok (.iload 9, 2) := by decide +kernel
theorem dX10_foresee_204 : decode cX10_foresee 204 = .ok (.iaload, 1) := by decide +kernel
theorem dX10_foresee_205 : decode cX10_foresee 205 = .ok (.iconst 1, 1) := by decide +kernel
theorem dX10_foresee_206 : decode cX10_foresee 206 = .ok (.if_icmp .eq 18, 3) := by decide +kernel
theorem dX10_foresee_209 : decode cX10_foresee 209 = .ok (.aload_n 0, 1) := by decide +kernel
theorem dX10_foresee_210 : decode cX10_foresee 210 = .ok (.iload_n 1, 1) := by decide +kernel
theorem dX10_foresee_211 : decode cX10_foresee 211 = .ok (.iload_n 3, 1) := by decide +kernel
theorem dX10_foresee_212 : decode cX10_foresee 212 = .ok (.iload 9, 2) := by decide +kernel
theorem dX10_foresee_214 : decode cX10_foresee 214 = .ok (.invokevirtual 211, 3) := by decide +kernel
theorem dX10_foresee_217 : decode cX10_foresee 217 = .ok (.ifCond .ne 7, 3) := by decide +kernel
theorem dX10_foresee_220 : decode cX10_foresee 220 = .ok (.iconst 1, 1) := by decide +kernel
theorem dX10_foresee_221 : decode cX10_foresee 221 = .ok (.goto 4, 3) := by decide +kernel
theorem dX10_foresee_224 : decode cX10_foresee 224 = .ok (.iconst 0, 1) := by decide +kernel
theorem dX10_foresee_225 : decode cX10_foresee 225 = .ok (.iadd, 1) := by decide +kernel
theorem dX10_foresee_226 : decode cX10_foresee 226 = .ok (.istore 8, 2) := by decide +kernel
theorem dX10_foresee_228 : decode cX10_foresee 228 = .ok (.iinc 9 1, 3) := by decide +kernel
theorem dX10_foresee_231 : decode cX10_foresee 231 = .ok (.goto (-49), 3) := by decide +kernel
theorem dX10_foresee_234 : decode cX10_foresee 234 = .ok (.iload 7, 2) := by decide +kernel
theorem dX10_foresee_236 : decode cX10_foresee 236 = .ok (.iload 5, 2) := by decide +kernel
theorem dX10_foresee_238 : decode cX10_foresee 238 = .ok (.imul, 1) := by decide +kernel
theorem dX10_foresee_239 : decode cX10_foresee 239 = .ok (.iload 8, 2) := by decide +kernel
theorem dX10_foresee_241 : decode cX10_foresee 241 = .ok (.if_icmp .ge 12, 3) := by decide +kernel
theorem dX10_foresee_244 : decode cX10_foresee 244 = .ok (.iload 7, 2) := by decide +kernel
theorem dX10_foresee_246 : decode cX10_foresee 246 = .ok (.iload 5, 2) := by decide +kernel
theorem dX10_foresee_248 : decode cX10_foresee 248 = .ok (.imul, 1) := by decide +kernel
theorem dX10_foresee_249 : decode cX10_foresee 249 = .ok (.i2l, 1) := by decide +kernel
theorem dX10_foresee_250 : decode cX10_foresee 250 = .ok (.goto 6, 3) := by decide +kernel
theorem dX10_foresee_253 : decode cX10_foresee 253 = .ok (.iload 8, 2) := by decide +kernel
theorem dX10_foresee_255 : decode cX10_foresee 255 = .ok (.i2l, 1) := by decide +kernel
theorem dX10_foresee_256 : decode cX10_foresee 256 = .ok (.lstore 9, 2) := by decide +kernel
theorem dX10_foresee_258 : decode cX10_foresee 258 = .ok (.aload_n 0, 1) := by decide +kernel
theorem dX10_foresee_259 : decode cX10_foresee 259 = .ok (.iconst 2, 1) := by decide +kernel
theorem dX10_foresee_260 : decode cX10_foresee 260 = .ok (.iload_n 3, 1) := by decide +kernel
theorem dX10_foresee_261 : decode cX10_foresee 261 = .ok (.imul, 1) := by decide +kernel
theorem dX10_foresee_262 : decode cX10_foresee 262 = .ok (.ldc2_w 113, 3) := by decide +kernel
theorem dX10_foresee_265 : decode cX10_foresee 265 = .ok (.lload 9, 2) := by decide +kernel
theorem dX10_foresee_267 : decode cX10_foresee 267 = .ok (.lmul, 1) := by decide +kernel
theorem dX10_foresee_268 : decode cX10_foresee 268 = .ok (.iload 8, 2) := by decide +kernel
theorem dX10_foresee_270 : decode cX10_foresee 270 = .ok (.i2l, 1) := by decide +kernel
theorem dX10_foresee_271 : decode cX10_foresee 271 = .ok (.ldiv, 1) := by decide +kernel
theorem dX10_foresee_272 : decode cX10_foresee 272 = .ok (.aload_n 0, 1) := by decide +kernel
theorem dX10_foresee_273 : decode cX10_foresee 273 = .ok (.getfield 49, 3) := by decide +kernel
theorem dX10_foresee_276 : decode cX10_foresee 276 = .ok (.iconst 4, 1) := by decide +kernel
theorem dX10_foresee_277 : decode cX10_foresee 277 = .ok (.iload_n 2, 1) := by decide +kernel
theorem dX10_foresee_278 : decode cX10_foresee 278 = .ok (.imul, 1) := by decide +kernel
theorem dX10_foresee_279 : decode cX10_foresee 279 = .ok (.iload_n 3, 1) := by decide +kernel
theorem dX10_foresee_280 : decode cX10_foresee 280 = .ok (.iadd, 1) := by decide +kernel
theorem dX10_foresee_281 : decode cX10_foresee 281 = .ok (.iaload, 1) := by decide +kernel
theorem dX10_foresee_282 : decode cX10_foresee 282 = .ok (.ifCond .le 7, 3) := by decide +kernel
theorem dX10_foresee_285 : decode cX10_foresee 285 = .ok (.iconst 1, 1) := by decide +kernel
theorem dX10_foresee_286 : decode cX10_foresee 286 = .ok (.goto 4, 3) := by decide +kernel
theorem dX10_foresee_289 : decode cX10_foresee 289 = .ok (.iconst 0, 1) := by decide +kernel
theorem dX10_foresee_290 : decode cX10_foresee 290 = .ok (.invokevirtual 266, 3) := by decide +kernel
theorem dX10_foresee_293 : decode cX10_foresee 293 = .ok (.return_, 1) := by decide +kernel
theorem dX10_guess_0 : decode cX10_guess 0 = .ok (.aload_n 0, 1) := by decide +kernel
theorem dX10_guess_1 : decode cX10_guess 1 = .ok (.aload_n 0, 1) := by decide +kernel
theorem dX10_guess_2 : decode cX10_guess 2 = .ok (.getfield 39, 3) := by decide +kernel
theorem dX10_guess_5 : decode cX10_guess 5 = .ok (.iload_n 1, 1) := by decide +kernel
theorem dX10_guess_6 : decode cX10_guess 6 = .ok (.bipush 6, 2) := by decide +kernel
theorem dX10_guess_8 : decode cX10_guess 8 = .ok (.iload_n 2, 1) := by decide +kernel
theorem dX10_guess_9 : decode cX10_guess 9 = .ok (.imul, 1) := by decide +kernel
theorem dX10_guess_10 : decode cX10_guess 10 = .ok (.iadd, 1) := by decide +kernel
theorem dX10_guess_11 : decode cX10_guess 11 = .ok (.iconst 0, 1) := by decide +kernel
theorem dX10_guess_12 : decode cX10_guess 12 = .ok (.iadd, 1) := by decide +kernel
theorem dX10_guess_13 : decode cX10_guess 13 = .ok (.iaload, 1) := by decide +kernel
theorem dX10_guess_14 : decode cX10_guess 14 = .ok (.iload_n 3, 1) := by decide +kernel
theorem dX10_guess_15 : decode cX10_guess 15 = .ok (.bipush 16, 2) := by decide +kernel
theorem dX10_guess_17 : decode cX10_guess 17 = .ok (.idiv, 1) := by decide +kernel
theorem dX10_guess_18 : decode cX10_guess 18 = .ok (.iconst 4, 1) := by decide +kernel
theorem dX10_guess_19 : decode cX10_guess 19 = .ok (.irem, 1) := by decide +kernel
theorem dX10_guess_20 : decode cX10_guess 20 = .ok (.invokevirtual 192, 3) := by decide +kernel
theorem dX10_guess_23 : decode cX10_guess 23 = .ok (.istore 4, 2) := by decide +kernel
theorem dX10_guess_25 : decode cX10_guess 25 = .ok (.iload 4, 2) := by decide +kernel
theorem dX10_guess_27 : decode cX10_guess 27 = .ok (.ifCond .lt 71, 3) := by decide +kernel
theorem dX10_guess_30 : decode cX10_guess 30 = .ok (.aload_n 0, 1) := by decide +kernel
theorem dX10_guess_31 : decode cX10_guess 31 = .ok (.iload_n 1, 1) := by decide +kernel
theorem dX10_guess_32 : decode cX10_guess 32 = .ok (.iload 4, 2) := by decide +kernel
theorem dX10_guess_34 : decode cX10_guess 34 = .ok (.invokevirtual 165, 3) := by decide +kernel
theorem dX10_guess_37 : decode cX10_guess 37 = .ok (.ifCond .eq 61, 3) := by decide +kernel
theorem dX10_guess_40 : decode cX10_guess 40 = .ok (.aload_n 0, 1) := by decide +kernel
theorem dX10_guess_41 : decode cX10_guess 41 = .ok (.getfield 39, 3) := by decide +kernel
theorem dX10_guess_44 : decode cX10_guess 44 = .ok (.iload_n 1, 1) := by decide +kernel
theorem dX10_guess_45 : decode cX10_guess 45 = .ok (.bipush 108, 2) := by decide +kernel
theorem dX10_guess_47 : decode cX10_guess 47 = .ok (.iadd, 1) := by decide +kernel
theorem dX10_guess_48 : decode cX10_guess 48 = .ok (.iload_n 2, 1) := by decide +kernel
theorem dX10_guess_49 : decode cX10_guess 49 = .ok (.iadd, 1) := by decide +kernel
theorem dX10_guess_50 : decode cX10_guess 50 = .ok (.iaload, 1) := by decide +kernel
theorem dX10_guess_51 : decode cX10_guess 51 = .ok (.aload_n 0, 1) := by decide +kernel
theorem dX10_guess_52 : decode cX10_guess 52 = .ok (.getfield 23, 3) := by decide +kernel
theorem dX10_guess_55 : decode cX10_guess 55 = .ok (.iload 4, 2) := by decide +kernel
theorem dX10_guess_57 : decode cX10_guess 57 = .ok (.iaload, 1) := by decide +kernel
theorem dX10_guess_58 : decode cX10_guess 58 = .ok (.ishr, 1) := by decide +kernel
theorem dX10_guess_59 : decode cX10_guess 59 = .ok (.iconst 1, 1) := by decide +kernel
theorem dX10_guess_60 : decode cX10_guess 60 = .ok (.iand, 1) := by decide +kernel
theorem dX10_guess_61 : decode cX10_guess 61 = .ok (.ifCond .ne 37, 3) := by decide +kernel
theorem dX10_guess_64 : decode cX10_guess 64 = .ok (.aload_n 0, 1) := by decide +kernel
theorem dX10_guess_65 : decode cX10_guess 65 = .ok (.iconst 2, 1) := by decide +kernel
theorem dX10_guess_66 : decode cX10_guess 66 = .ok (.iload_n 2, 1) := by decide +kernel
theorem dX10_guess_67 : decode cX10_guess 67 = .ok (.imul, 1) := by decide +kernel
theorem dX10_guess_68 : decode cX10_guess 68 = .ok (.ldc2_w 270, 3) := by decide +kernel
theorem dX10_guess_71 : decode cX10_guess 71 = .ok (.aload_n 0, 1) := by decide +kernel
theorem dX10_guess_72 : decode cX10_guess 72 = .ok (.getfield 26, 3) := by decide +kernel
theorem dX10_guess_75 : decode cX10_guess 75 = .ok (.aload_n 0, 1) := by decide +kernel
theorem dX10_guess_76 : decode cX10_guess 76 = .ok (.getfield 23, 3) := by decide +kernel
theorem dX10_guess_79 : decode cX10_guess 79 = .ok (.iload 4, 2) := by decide +kernel
theorem dX10_guess_81 : decode cX10_guess 81 = .ok (.iaload, 1) := by decide +kernel
theorem dX10_guess_82 : decode cX10_guess 82 = .ok (.iaload, 1) := by decide +kernel
theorem dX10_guess_83 : decode cX10_guess 83 = .ok (.iload_n 3, 1) := by decide +kernel
theorem dX10_guess_84 : decode cX10_guess 84 = .ok (.bipush 64, 2) := by decide +kernel
theorem dX10_guess_86 : decode cX10_guess 86 = .ok (.idiv, 1) := by decide +kernel
theorem dX10_guess_87 : decode cX10_guess 87 = .ok (.if_icmp .ne 7, 3) := by decide +kernel
theorem dX10_guess_90 : decode cX10_guess 90 = .ok (.iconst 1, 1) := by decide +kernel
theorem dX10_guess_91 : decode cX10_guess 91 = .ok (.goto 4, 3) := by decide +kernel
theorem dX10_guess_94 : decode cX10_guess 94 = .ok (.iconst 0, 1) := by decide +kernel
theorem dX10_guess_95 : decode cX10_guess 95 = .ok (.invokevirtual 266, 3) := by decide +kernel
theorem dX10_guess_98 : decode cX10_guess 98 = .ok (.return_, 1) := by decide +kernel
theorem dX10_isPlayer_0 : decode cX10_isPlayer 0 = .ok (.iload_n 1, 1) := by decide +kernel
theorem dX10_isPlayer_1 : decode cX10_isPlayer 1 = .ok (.iconst 0, 1) := by decide +kernel
theorem dX10_isPlayer_2 : decode cX10_isPlayer 2 = .ok (.aload_n 0, 1) := by decide +kernel
theorem dX10_isPlayer_3 : decode cX10_isPlayer 3 = .ok (.getfield 16, 3) := by decide +kernel
theorem dX10_isPlayer_6 : decode cX10_isPlayer 6 = .ok (.iconst 1, 1) := by decide +kernel
theorem dX10_isPlayer_7 : decode cX10_isPlayer 7 = .ok (.isub, 1) := by decide +kernel
theorem dX10_isPlayer_8 : decode cX10_isPlayer 8 = .ok (.invokestatic 137, 3) := by decide +kernel
theorem dX10_isPlayer_11 : decode cX10_isPlayer 11 = .ok (.ireturn, 1) := by decide +kernel
theorem dX10_body_0 : decode cX10_body 0 = .ok (.aload_n 0, 1) := by decide +kernel
theorem dX10_body_1 : decode cX10_body 1 = .ok (.iload_n 1, 1) := by decide +kernel
theorem dX10_body_2 : decode cX10_body 2 = .ok (.invokevirtual 272, 3) := by decide +kernel
theorem dX10_body_5 : decode cX10_body 5 = .ok (.ifCond .eq 13, 3) := by decide +kernel
theorem dX10_body_8 : decode cX10_body 8 = .ok (.iload_n 2, 1) := by decide +kernel
theorem dX10_body_9 : decode cX10_body 9 = .ok (.iconst 0, 1) := by decide +kernel
theorem dX10_body_10 : decode cX10_body 10 = .ok (.bipush 6, 2) := by decide +kernel
theorem dX10_body_12 : decode cX10_body 12 = .ok (.invokestatic 137, 3) := by decide +kernel
theorem dX10_body_15 : decode cX10_body 15 = .ok (.ifCond .ne 5, 3) := by decide +kernel
theorem dX10_body_18 : decode cX10_body 18 = .ok (.iconst (-1), 1) := by decide +kernel
theorem dX10_body_19 : decode cX10_body 19 = .ok (.ireturn, 1) := by decide +kernel
theorem dX10_body_20 : decode cX10_body 20 = .ok (.bipush 112, 2) := by decide +kernel
theorem dX10_body_22 : decode cX10_body 22 = .ok (.aload_n 0, 1) := by decide +kernel
theorem dX10_body_23 : decode cX10_body 23 = .ok (.getfield 110, 3) := by decide +kernel
theorem dX10_body_26 : decode cX10_body 26 = .ok (.imul, 1) := by decide +kernel
theorem dX10_body_27 : decode cX10_body 27 = .ok (.istore_n 3, 1) := by decide +kernel
theorem dX10_body_28 : decode cX10_body 28 = .ok (.iload_n 2, 1) := by decide +kernel
theorem dX10_body_29 : decode cX10_body 29 = .ok (.iconst 5, 1) := by decide +kernel
theorem dX10_body_30 : decode cX10_body 30 = .ok (.if_icmp .ge 19, 3) := by decide +kernel
theorem dX10_body_33 : decode cX10_body 33 = .ok (.aload_n 0, 1) := by decide +kernel
theorem dX10_body_34 : decode cX10_body 34 = .ok (.getfield 39, 3) := by decide +kernel
theorem dX10_body_37 : decode cX10_body 37 = .ok (.iload_n 3, 1) := by decide +kernel
theorem dX10_body_38 : decode cX10_body 38 = .ok (.bipush 6, 2) := by decide +kernel
theorem dX10_body_40 : decode cX10_body 40 = .ok (.iload_n 1, 1) := by decide +kernel
theorem dX10_body_41 : decode cX10_body 41 = .ok (.imul, 1) := by decide +kernel
theorem dX10_body_42 : decode cX10_body 42 = .ok (.iadd, 1) := by decide +kernel
theorem dX10_body_43 : decode cX10_body 43 = .ok (.iload_n 2, 1) := by decide +kernel
theorem dX10_body_44 : decode cX10_body 44 = .ok (.iadd, 1) := by decide +kernel
theorem dX10_body_45 : decode cX10_body 45 = .ok (.iaload, 1) := by decide +kernel
theorem dX10_body_46 : decode cX10_body 46 = .ok (.goto 33, 3) := by decide +kernel
theorem dX10_body_49 : decode cX10_body 49 = .ok (.iload_n 2, 1) := by decide +kernel
theorem dX10_body_50 : decode cX10_body 50 = .ok (.iconst 5, 1) := by decide +kernel
theorem dX10_body_51 : decode cX10_body 51 = .ok (.if_icmp .ne 17, 3) := by decide +kernel
theorem dX10_body_54 : decode cX10_body 54 = .ok (.aload_n 0, 1) := by decide +kernel
theorem dX10_body_55 : decode cX10_body 55 = .ok (.getfield 39, 3) := by decide +kernel
theorem dX10_body_58 : decode cX10_body 58 = .ok (.iload_n 3, 1) := by decide +kernel
theorem dX10_body_59 : decode cX10_body 59 = .ok (.bipush 104, 2) := by decide +kernel
theorem dX10_body_61 : decode cX10_body 61 = .ok (.iadd, 1) := by decide +kernel
theorem dX10_body_62 : decode cX10_body 62 = .ok (.iload_n 1, 1) := by decide +kernel
theorem dX10_body_63 : decode cX10_body 63 = .ok (.iadd, 1) := by decide +kernel
theorem dX10_body_64 : decode cX10_body 64 = .ok (.iaload, 1) := by decide +kernel
theorem dX10_body_65 : decode cX10_body 65 = .ok (.goto 14, 3) := by decide +kernel
theorem dX10_body_68 : decode cX10_body 68 = .ok (.aload_n 0, 1) := by decide +kernel
theorem dX10_body_69 : decode cX10_body 69 = .ok (.getfield 39, 3) := by decide +kernel
theorem dX10_body_72 : decode cX10_body 72 = .ok (.iload_n 3, 1) := by decide +kernel
theorem dX10_body_73 : decode cX10_body 73 = .ok (.bipush 108, 2) := by decide +kernel
theorem dX10_body_75 : decode cX10_body 75 = .ok (.iadd, 1) := by decide +kernel
theorem dX10_body_76 : decode cX10_body 76 = .ok (.iload_n 1, 1) := by decide +kernel
theorem dX10_body_77 : decode cX10_body 77 = .ok (.iadd, 1) := by decide +kernel
theorem dX10_body_78 : decode cX10_body 78 = .ok (.iaload, 1) := by decide +kernel
theorem dX10_body_79 : decode cX10_body 79 = .ok (.ireturn, 1) := by decide +kernel
theorem dX10_thing_0 : decode cX10_thing 0 = .ok (.iload_n 1, 1) := by decide +kernel
theorem dX10_thing_1 : decode cX10_thing 1 = .ok (.iconst 0, 1) := by decide +kernel
theorem dX10_thing_2 : decode cX10_thing 2 = .ok (.aload_n 0, 1) := by decide +kernel
theorem dX10_thing_3 : decode cX10_thing 3 = .ok (.getfield 107, 3) := by decide +kernel
theorem dX10_thing_6 : decode cX10_thing 6 = .ok (.iconst 1, 1) := by decide +kernel
theorem dX10_thing_7 : decode cX10_thing 7 = .ok (.isub, 1) := by decide +kernel
theorem dX10_thing_8 : decode cX10_thing 8 = .ok (.invokestatic 137, 3) := by decide +kernel
theorem dX10_thing_11 : decode cX10_thing 11 = .ok (.ifCond .eq 12, 3) := by decide +kernel
theorem dX10_thing_14 : decode cX10_thing 14 = .ok (.iload_n 2, 1) := by decide +kernel
theorem dX10_thing_15 : decode cX10_thing 15 = .ok (.iconst 0, 1) := by decide +kernel
theorem dX10_thing_16 : decode cX10_thing 16 = .ok (.iconst 3, 1) := by decide +kernel
theorem dX10_thing_17 : decode cX10_thing 17 = .ok (.invokestatic 137, 3) := by decide +kernel
theorem dX10_thing_20 : decode cX10_thing 20 = .ok (.ifCond .ne 5, 3) := by decide +kernel
theorem dX10_thing_23 : decode cX10_thing 23 = .ok (.iconst (-1), 1) := by decide +kernel
theorem dX10_thing_24 : decode cX10_thing 24 = .ok (.ireturn, 1) := by decide +kernel
theorem dX10_thing_25 : decode cX10_thing 25 = .ok (.bipush 112, 2) := by decide +kernel
theorem dX10_thing_27 : decode cX10_thing 27 = .ok (.aload_n 0, 1) := by decide +kernel
theorem dX10_thing_28 : decode cX10_thing 28 = .ok (.getfield 110, 3) := by decide +kernel
theorem dX10_thing_31 : decode cX10_thing 31 = .ok (.imul, 1) := by decide +kernel
theorem dX10_thing_32 : decode cX10_thing 32 = .ok (.bipush 6, 2) := by decide +kernel
theorem dX10_thing_34 : decode cX10_thing 34 = .ok (.iload_n 1, 1) := by decide +kernel
theorem dX10_thing_35 : decode cX10_thing 35 = .ok (.imul, 1) := by decide +kernel
theorem dX10_thing_36 : decode cX10_thing 36 = .ok (.iadd, 1) := by decide +kernel
theorem dX10_thing_37 : decode cX10_thing 37 = .ok (.istore_n 3, 1) := by decide +kernel
theorem dX10_thing_38 : decode cX10_thing 38 = .ok (.iload_n 2, 1) := by decide +kernel
theorem dX10_thing_39 : decode cX10_thing 39 = .ok (.ifCond .ne 12, 3) := by decide +kernel
theorem dX10_thing_42 : decode cX10_thing 42 = .ok (.aload_n 0, 1) := by decide +kernel
theorem dX10_thing_43 : decode cX10_thing 43 = .ok (.getfield 29, 3) := by decide +kernel
theorem dX10_thing_46 : decode cX10_thing 46 = .ok (.iload_n 1, 1) := by decide +kernel
theorem dX10_thing_47 : decode cX10_thing 47 = .ok (.iaload, 1) := by decide +kernel
theorem dX10_thing_48 : decode cX10_thing 48 = .ok (.goto 43, 3) := by decide +kernel
theorem dX10_thing_51 : decode cX10_thing 51 = .ok (.iload_n 2, 1) := by decide +kernel
theorem dX10_thing_52 : decode cX10_thing 52 = .ok (.iconst 1, 1) := by decide +kernel
theorem dX10_thing_53 : decode cX10_thing 53 = .ok (.if_icmp .ne 14, 3) := by decide +kernel
theorem dX10_thing_56 : decode cX10_thing 56 = .ok (.aload_n 0, 1) := by decide +kernel
theorem dX10_thing_57 : decode cX10_thing 57 = .ok (.getfield 39, 3) := by decide +kernel
theorem dX10_thing_60 : decode cX10_thing 60 = .ok (.iload_n 3, 1) := by decide +kernel
theorem dX10_thing_61 : decode cX10_thing 61 = .ok (.iconst 0, 1) := by decide +kernel
theorem dX10_thing_62 : decode cX10_thing 62 = .ok (.iadd, 1) := by decide +kernel
theorem dX10_thing_63 : decode cX10_thing 63 = .ok (.iaload, 1) := by decide +kernel
theorem dX10_thing_64 : decode cX10_thing 64 = .ok (.goto 27, 3) := by decide +kernel
theorem dX10_thing_67 : decode cX10_thing 67 = .ok (.iload_n 2, 1) := by decide +kernel
theorem dX10_thing_68 : decode cX10_thing 68 = .ok (.iconst 2, 1) := by decide +kernel
theorem dX10_thing_69 : decode cX10_thing 69 = .ok (.if_icmp .ne 14, 3) := by decide +kernel
theorem dX10_thing_72 : decode cX10_thing 72 = .ok (.aload_n 0, 1) := by decide +kernel
theorem dX10_thing_73 : decode cX10_thing 73 = .ok (.getfield 39, 3) := by decide +kernel
theorem dX10_thing_76 : decode cX10_thing 76 = .ok (.iload_n 3, 1) := by decide +kernel
theorem dX10_thing_77 : decode cX10_thing 77 = .ok (.iconst 1, 1) := by decide +kernel
theorem dX10_thing_78 : decode cX10_thing 78 = .ok (.iadd, 1) := by decide +kernel
theorem dX10_thing_79 : decode cX10_thing 79 = .ok (.iaload, 1) := by decide +kernel
theorem dX10_thing_80 : decode cX10_thing 80 = .ok (.goto 11, 3) := by decide +kernel
theorem dX10_thing_83 : decode cX10_thing 83 = .ok (.aload_n 0, 1) := by decide +kernel
theorem dX10_thing_84 : decode cX10_thing 84 = .ok (.getfield 39, 3) := by decide +kernel
theorem dX10_thing_87 : decode cX10_thing 87 = .ok (.iload_n 3, 1) := by decide +kernel
theorem dX10_thing_88 : decode cX10_thing 88 = .ok (.iconst 5, 1) := by decide +kernel
theorem dX10_thing_89 : decode cX10_thing 89 = .ok (.iadd, 1) := by decide +kernel
theorem dX10_thing_90 : decode cX10_thing 90 = .ok (.iaload, 1) := by decide +kernel
theorem dX10_thing_91 : decode cX10_thing 91 = .ok (.ireturn, 1) := by decide +kernel
theorem dX10_open_0 : decode cX10_open 0 = .ok (.iload_n 1, 1) := by decide +kernel
theorem dX10_open_1 : decode cX10_open 1 = .ok (.iconst 0, 1) := by decide +kernel
theorem dX10_open_2 : decode cX10_open 2 = .ok (.aload_n 0, 1) := by decide +kernel
theorem dX10_open_3 : decode cX10_open 3 = .ok (.getfield 104, 3) := by decide +kernel
theorem dX10_open_6 : decode cX10_open 6 = .ok (.iconst 1, 1) := by decide +kernel
theorem dX10_open_7 : decode cX10_open 7 = .ok (.isub, 1) := by decide +kernel
theorem dX10_open_8 : decode cX10_open 8 = .ok (.invokestatic 137, 3) := by decide +kernel
theorem dX10_open_11 : decode cX10_open 11 = .ok (.ifCond .eq 23, 3) := by decide +kernel
theorem dX10_open_14 : decode cX10_open 14 = .ok (.aload_n 0, 1) := by decide +kernel
theorem dX10_open_15 : decode cX10_open 15 = .ok (.getfield 39, 3) := by decide +kernel
theorem dX10_open_18 : decode cX10_open 18 = .ok (.bipush 112, 2) := by decide +kernel
theorem dX10_open_20 : decode cX10_open 20 = .ok (.aload_n 0, 1) := by decide +kernel
theorem dX10_open_21 : decode cX10_open 21 = .ok (.getfield 110, 3) := by decide +kernel
theorem dX10_open_24 : decode cX10_open 24 = .ok (.imul, 1) := by decide +kernel
theorem dX10_open_25 : decode cX10_open 25 = .ok (.bipush 96, 2) := by decide +kernel
theorem dX10_open_27 : decode cX10_open 27 = .ok (.iadd, 1) := by decide +kernel
theorem dX10_open_28 : decode cX10_open 28 = .ok (.iload_n 1, 1) := by decide +kernel
theorem dX10_open_29 : decode cX10_open 29 = .ok (.iadd, 1) := by decide +kernel
theorem dX10_open_30 : decode cX10_open 30 = .ok (.iaload, 1) := by decide +kernel
theorem dX10_open_31 : decode cX10_open 31 = .ok (.goto 4, 3) := by decide +kernel
theorem dX10_open_34 : decode cX10_open 34 = .ok (.iconst (-1), 1) := by decide +kernel
theorem dX10_open_35 : decode cX10_open 35 = .ok (.ireturn, 1) := by decide +kernel
theorem dX10_seesNow_0 : decode cX10_seesNow 0 = .ok (.bipush 112, 2) := by decide +kernel
theorem dX10_seesNow_2 : decode cX10_seesNow 2 = .ok (.aload_n 0, 1) := by decide +kernel
theorem dX10_seesNow_3 : decode cX10_seesNow 3 = .ok (.getfield 110, 3) := by decide +kernel
theorem dX10_seesNow_6 : decode cX10_seesNow 6 = .ok (.imul, 1) := by decide +kernel
theorem dX10_seesNow_7 : decode cX10_seesNow 7 = .ok (.istore_n 3, 1) := by decide +kernel
theorem dX10_seesNow_8 : decode cX10_seesNow 8 = .ok (.aload_n 0, 1) := by decide +kernel
theorem dX10_seesNow_9 : decode cX10_seesNow 9 = .ok (.iload_n 3, 1) := by decide +kernel
theorem dX10_seesNow_10 : decode cX10_seesNow 10 = .ok (.iload_n 1, 1) := by decide +kernel
theorem dX10_seesNow_11 : decode cX10_seesNow 11 = .ok (.invokevirtual 161, 3) := by decide +kernel
theorem dX10_seesNow_14 : decode cX10_seesNow 14 = .ok (.ifCond .eq 17, 3) := by decide +kernel
theorem dX10_seesNow_17 : decode cX10_seesNow 17 = .ok (.aload_n 0, 1) := by decide +kernel
theorem dX10_seesNow_18 : decode cX10_seesNow 18 = .ok (.iload_n 3, 1) := by decide +kernel
theorem dX10_seesNow_19 : decode cX10_seesNow 19 = .ok (.iload_n 1, 1) := by decide +kernel
theorem dX10_seesNow_20 : decode cX10_seesNow 20 = .ok (.iload_n 2, 1) := by decide +kernel
theorem dX10_seesNow_21 : decode cX10_seesNow 21 = .ok (.invokevirtual 211, 3) := by decide +kernel
theorem dX10_seesNow_24 : decode cX10_seesNow 24 = .ok (.ifCond .eq 7, 3) := by decide +kernel
theorem dX10_seesNow_27 : decode cX10_seesNow 27 = .ok (.iconst 1, 1) := by decide +kernel
theorem dX10_seesNow_28 : decode cX10_seesNow 28 = .ok (.goto 4, 3) := by decide +kernel
theorem dX10_seesNow_31 : decode cX10_seesNow 31 = .ok (.iconst 0, 1) := by decide +kernel
theorem dX10_seesNow_32 : decode cX10_seesNow 32 = .ok (.ireturn, 1) := by decide +kernel
theorem dX10_sees_0 : decode cX10_sees 0 = .ok (.aload_n 0, 1) := by decide +kernel
theorem dX10_sees_1 : decode cX10_sees 1 = .ok (.iload_n 1, 1) := by decide +kernel
theorem dX10_sees_2 : decode cX10_sees 2 = .ok (.invokevirtual 272, 3) := by decide +kernel
theorem dX10_sees_5 : decode cX10_sees 5 = .ok (.ifCond .eq 11, 3) := by decide +kernel
theorem dX10_sees_8 : decode cX10_sees 8 = .ok (.aload_n 0, 1) := by decide +kernel
theorem dX10_sees_9 : decode cX10_sees 9 = .ok (.iload_n 2, 1) := by decide +kernel
theorem dX10_sees_10 : decode cX10_sees 10 = .ok (.invokevirtual 141, 3) := by decide +kernel
theorem dX10_sees_13 : decode cX10_sees 13 = .ok (.ifCond .ne 7, 3) := by decide +kernel
theorem dX10_sees_16 : decode cX10_sees 16 = .ok (.iconst (-1), 1) := by decide +kernel
theorem dX10_sees_17 : decode cX10_sees 17 = .ok (.goto 17, 3) := by decide +kernel
theorem dX10_sees_20 : decode cX10_sees 20 = .ok (.aload_n 0, 1) := by decide +kernel
theorem dX10_sees_21 : decode cX10_sees 21 = .ok (.iload_n 1, 1) := by decide +kernel
theorem dX10_sees_22 : decode cX10_sees 22 = .ok (.iload_n 2, 1) := by decide +kernel
theorem dX10_sees_23 : decode cX10_sees 23 = .ok (.invokevirtual 275, 3) := by decide +kernel
theorem dX10_sees_26 : decode cX10_sees 26 = .ok (.ifCond .eq 7, 3) := by decide +kernel
theorem dX10_sees_29 : decode cX10_sees 29 = .ok (.iconst 1, 1) := by decide +kernel
theorem dX10_sees_30 : decode cX10_sees 30 = .ok (.goto 4, 3) := by decide +kernel
theorem dX10_sees_33 : decode cX10_sees 33 = .ok (.iconst 0, 1) := by decide +kernel
theorem dX10_sees_34 : decode cX10_sees 34 = .ok (.ireturn, 1) := by decide +kernel
theorem dX10_toldOf_0 : decode cX10_toldOf 0 = .ok (.aload_n 0, 1) := by decide +kernel
theorem dX10_toldOf_1 : decode cX10_toldOf 1 = .ok (.iload_n 1, 1) := by decide +kernel
theorem dX10_toldOf_2 : decode cX10_toldOf 2 = .ok (.iload_n 2, 1) := by decide +kernel
theorem dX10_toldOf_3 : decode cX10_toldOf 3 = .ok (.invokevirtual 275, 3) := by decide +kernel
theorem dX10_toldOf_6 : decode cX10_toldOf 6 = .ok (.ifCond .ne 5, 3) := by decide +kernel
theorem dX10_toldOf_9 : decode cX10_toldOf 9 = .ok (.iconst (-1), 1) := by decide +kernel
theorem dX10_toldOf_10 : decode cX10_toldOf 10 = .ok (.ireturn, 1) := by decide +kernel
theorem dX10_toldOf_11 : decode cX10_toldOf 11 = .ok (.bipush 112, 2) := by decide +kernel
theorem dX10_toldOf_13 : decode cX10_toldOf 13 = .ok (.aload_n 0, 1) := by decide +kernel
theorem dX10_toldOf_14 : decode cX10_toldOf 14 = .ok (.getfield 110, 3) := by decide +kernel
theorem dX10_toldOf_17 : decode cX10_toldOf 17 = .ok (.imul, 1) := by decide +kernel
theorem dX10_toldOf_18 : decode cX10_toldOf 18 = .ok (.istore_n 3, 1) := by decide +kernel
theorem dX10_toldOf_19 : decode cX10_toldOf 19 = .ok (.iconst 0, 1) := by decide +kernel
theorem dX10_toldOf_20 : decode cX10_toldOf 20 = .ok (.istore 4, 2) := by decide +kernel
theorem dX10_toldOf_22 : decode cX10_toldOf 22 = .ok (.iconst 0, 1) := by decide +kernel
theorem dX10_toldOf_23 : decode cX10_toldOf 23 = .ok (.istore 5, 2) := by decide +kernel
theorem dX10_toldOf_25 : decode cX10_toldOf 25 = .ok (.iload 5, 2) := by decide +kernel
theorem dX10_toldOf_27 : decode cX10_toldOf 27 = .ok (.aload_n 0, 1) := by decide +kernel
theorem dX10_toldOf_28 : decode cX10_toldOf 28 = .ok (.getfield 107, 3) := by decide +kernel
theorem dX10_toldOf_31 : decode cX10_toldOf 31 = .ok (.if_icmp .ge 30, 3) := by decide +kernel
theorem dX10_toldOf_34 : decode cX10_toldOf 34 = .ok (.iload 4, 2) := by decide +kernel
theorem dX10_toldOf_36 : decode cX10_toldOf 36 = .ok (.aload_n 0, 1) := by decide +kernel
theorem dX10_toldOf_37 : decode cX10_toldOf 37 = .ok (.iload_n 3, 1) := by decide +kernel
theorem dX10_toldOf_38 : decode cX10_toldOf 38 = .ok (.iload 5, 2) := by decide +kernel
theorem dX10_toldOf_40 : decode cX10_toldOf 40 = .ok (.iload_n 2, 1) := by decide +kernel
theorem dX10_toldOf_41 : decode cX10_toldOf 41 = .ok (.invokevirtual 229, 3) := by decide +kernel
theorem dX10_toldOf_44 : decode cX10_toldOf 44 = .ok (.ifCond .eq 7, 3) := by decide +kernel
theorem dX10_toldOf_47 : decode cX10_toldOf 47 = .ok (.iconst 1, 1) := by decide +kernel
theorem dX10_toldOf_48 : decode cX10_toldOf 48 = .ok (.goto 4, 3) := by decide +kernel
theorem dX10_toldOf_51 : decode cX10_toldOf 51 = .ok (.iconst 0, 1) := by decide +kernel
theorem dX10_toldOf_52 : decode cX10_toldOf 52 = .ok (.iadd, 1) := by decide +kernel
theorem dX10_toldOf_53 : decode cX10_toldOf 53 = .ok (.istore 4, 2) := by decide +kernel
theorem dX10_toldOf_55 : decode cX10_toldOf 55 = .ok (.iinc 5 1, 3) := by decide +kernel
theorem dX10_toldOf_58 : decode cX10_toldOf 58 = .ok (.goto (-33), 3) := by decide +kernel
theorem dX10_toldOf_61 : decode cX10_toldOf 61 = .ok (.aload_n 0, 1) := by decide +kernel
theorem dX10_toldOf_62 : decode cX10_toldOf 62 = .ok (.iload_n 3, 1) := by decide +kernel
theorem dX10_toldOf_63 : decode cX10_toldOf 63 = .ok (.iload_n 2, 1) := by decide +kernel
theorem dX10_toldOf_64 : decode cX10_toldOf 64 = .ok (.invokevirtual 226, 3) := by decide +kernel
theorem dX10_toldOf_67 : decode cX10_toldOf 67 = .ok (.bipush 8, 2) := by decide +kernel
theorem dX10_toldOf_69 : decode cX10_toldOf 69 = .ok (.iload 4, 2) := by decide +kernel
theorem dX10_toldOf_71 : decode cX10_toldOf 71 = .ok (.imul, 1) := by decide +kernel
theorem dX10_toldOf_72 : decode cX10_toldOf 72 = .ok (.iadd, 1) := by decide +kernel
theorem dX10_toldOf_73 : decode cX10_toldOf 73 = .ok (.ireturn, 1) := by decide +kernel
theorem dX10_told_0 : decode cX10_told 0 = .ok (.aload_n 0, 1) := by decide +kernel
theorem dX10_told_1 : decode cX10_told 1 = .ok (.iload_n 1, 1) := by decide +kernel
theorem dX10_told_2 : decode cX10_told 2 = .ok (.invokevirtual 272, 3) := by decide +kernel
theorem dX10_told_5 : decode cX10_told 5 = .ok (.ifCond .eq 11, 3) := by decide +kernel
theorem dX10_told_8 : decode cX10_told 8 = .ok (.aload_n 0, 1) := by decide +kernel
theorem dX10_told_9 : decode cX10_told 9 = .ok (.iload_n 2, 1) := by decide +kernel
theorem dX10_told_10 : decode cX10_told 10 = .ok (.invokevirtual 141, 3) := by decide +kernel
theorem dX10_told_13 : decode cX10_told 13 = .ok (.ifCond .ne 7, 3) := by decide +kernel
theorem dX10_told_16 : decode cX10_told 16 = .ok (.iconst (-1), 1) := by decide +kernel
theorem dX10_told_17 : decode cX10_told 17 = .ok (.goto 9, 3) := by decide +kernel
theorem dX10_told_20 : decode cX10_told 20 = .ok (.aload_n 0, 1) := by decide +kernel
theorem dX10_told_21 : decode cX10_told 21 = .ok (.iload_n 1, 1) := by decide +kernel
theorem dX10_told_22 : decode cX10_told 22 = .ok (.iload_n 2, 1) := by decide +kernel
theorem dX10_told_23 : decode cX10_told 23 = .ok (.invokevirtual 278, 3) := by decide +kernel
theorem dX10_told_26 : decode cX10_told 26 = .ok (.ireturn, 1) := by decide +kernel
theorem dX10_isNear_0 : decode cX10_isNear 0 = .ok (.iload_n 1, 1) := by decide +kernel
theorem dX10_isNear_1 : decode cX10_isNear 1 = .ok (.ifCond .lt 25, 3) := by decide +kernel
theorem dX10_isNear_4 : decode cX10_isNear 4 = .ok (.iload_n 1, 1) := by decide +kernel
theorem dX10_isNear_5 : decode cX10_isNear 5 = .ok (.aload_n 0, 1) := by decide +kernel
theorem dX10_isNear_6 : decode cX10_isNear 6 = .ok (.getfield 110, 3) := by decide +kernel
theorem dX10_isNear_9 : decode cX10_isNear 9 = .ok (.bipush 8, 2) := by decide +kernel
theorem dX10_isNear_11 : decode cX10_isNear 11 = .ok (.isub, 1) := by decide +kernel
theorem dX10_isNear_12 : decode cX10_isNear 12 = .ok (.aload_n 0, 1) := by decide +kernel
theorem dX10_isNear_13 : decode cX10_isNear 13 = .ok (.getfield 110, 3) := by decide +kernel
theorem dX10_isNear_16 : decode cX10_isNear 16 = .ok (.invokestatic 137, 3) := by decide +kernel
theorem dX10_isNear_19 : decode cX10_isNear 19 = .ok (.ifCond .eq 7, 3) := by decide +kernel
theorem dX10_isNear_22 : decode cX10_isNear 22 = .ok (.iconst 1, 1) := by decide +kernel
theorem dX10_isNear_23 : decode cX10_isNear 23 = .ok (.goto 4, 3) := by decide +kernel
theorem dX10_isNear_26 : decode cX10_isNear 26 = .ok (.iconst 0, 1) := by decide +kernel
theorem dX10_isNear_27 : decode cX10_isNear 27 = .ok (.ireturn, 1) := by decide +kernel
theorem dX10_letter_0 : decode cX10_letter 0 = .ok (.aload_n 0, 1) := by decide +kernel
theorem dX10_letter_1 : decode cX10_letter 1 = .ok (.iload_n 1, 1) := by decide +kernel
theorem dX10_letter_2 : decode cX10_letter 2 = .ok (.invokevirtual 272, 3) := by decide +kernel
theorem dX10_letter_5 : decode cX10_letter 5 = .ok (.ifCond .eq 23, 3) := by decide +kernel
theorem dX10_letter_8 : decode cX10_letter 8 = .ok (.aload_n 0, 1) := by decide +kernel
theorem dX10_letter_9 : decode cX10_letter 9 = .ok (.iload_n 2, 1) := by decide +kernel
theorem dX10_letter_10 : decode cX10_letter 10 = .ok (.invokevirtual 281, 3) := by decide +kernel
theorem dX10_letter_13 : decode cX10_letter 13 = .ok (.ifCond .eq 15, 3) := by decide +kernel
theorem dX10_letter_16 : decode cX10_letter 16 = .ok (.aload_n 0, 1) := by decide +kernel
theorem dX10_letter_17 : decode cX10_letter 17 = .ok (.bipush 112, 2) := by decide +kernel
theorem dX10_letter_19 : decode cX10_letter 19 = .ok (.iload_n 2, 1) := by decide +kernel
theorem dX10_letter_20 : decode cX10_letter 20 = .ok (.imul, 1) := by decide +kernel
theorem dX10_letter_21 : decode cX10_letter 21 = .ok (.iload_n 1, 1) := by decide +kernel
theorem dX10_letter_22 : decode cX10_letter 22 = .ok (.invokevirtual 284, 3) := by decide +kernel
theorem dX10_letter_25 : decode cX10_letter 25 = .ok (.goto 4, 3) := by decide +kernel
theorem dX10_letter_28 : decode cX10_letter 28 = .ok (.iconst (-1), 1) := by decide +kernel
theorem dX10_letter_29 : decode cX10_letter 29 = .ok (.ireturn, 1) := by decide +kernel
theorem dX10_digest_0 : decode cX10_digest 0 = .ok (.aload_n 0, 1) := by decide +kernel
theorem dX10_digest_1 : decode cX10_digest 1 = .ok (.iload_n 1, 1) := by decide +kernel
theorem dX10_digest_2 : decode cX10_digest 2 = .ok (.invokevirtual 281, 3) := by decide +kernel
theorem dX10_digest_5 : decode cX10_digest 5 = .ok (.ifCond .eq 14, 3) := by decide +kernel
theorem dX10_digest_8 : decode cX10_digest 8 = .ok (.aload_n 0, 1) := by decide +kernel
theorem dX10_digest_9 : decode cX10_digest 9 = .ok (.bipush 112, 2) := by decide +kernel
theorem dX10_digest_11 : decode cX10_digest 11 = .ok (.iload_n 1, 1) := by decide +kernel
theorem dX10_digest_12 : decode cX10_digest 12 = .ok (.imul, 1) := by decide +kernel
theorem dX10_digest_13 : decode cX10_digest 13 = .ok (.invokevirtual 287, 3) := by decide +kernel
theorem dX10_digest_16 : decode cX10_digest 16 = .ok (.goto 4, 3) := by decide +kernel
theorem dX10_digest_19 : decode cX10_digest 19 = .ok (.iconst (-1), 1) := by decide +kernel
theorem dX10_digest_20 : decode cX10_digest 20 = .ok (.ireturn, 1) := by decide +kernel
theorem dX10_replay_0 : decode cX10_replay 0 = .ok (.iload_n 1, 1) := by decide +kernel
theorem dX10_replay_1 : decode cX10_replay 1 = .ok (.iconst 0, 1) := by decide +kernel
theorem dX10_replay_2 : decode cX10_replay 2 = .ok (.aload_n 0, 1) := by decide +kernel
theorem dX10_replay_3 : decode cX10_replay 3 = .ok (.getfield 110, 3) := by decide +kernel
theorem dX10_replay_6 : decode cX10_replay 6 = .ok (.invokestatic 137, 3) := by decide +kernel
theorem dX10_replay_9 : decode cX10_replay 9 = .ok (.ifCond .eq 14, 3) := by decide +kernel
theorem dX10_replay_12 : decode cX10_replay 12 = .ok (.aload_n 0, 1) := by decide +kernel
theorem dX10_replay_13 : decode cX10_replay 13 = .ok (.bipush 112, 2) := by decide +kernel
theorem dX10_replay_15 : decode cX10_replay 15 = .ok (.iload_n 1, 1) := by decide +kernel
theorem dX10_replay_16 : decode cX10_replay 16 = .ok (.imul, 1) := by decide +kernel
theorem dX10_replay_17 : decode cX10_replay 17 = .ok (.invokevirtual 287, 3) := by decide +kernel
theorem dX10_replay_20 : decode cX10_replay 20 = .ok (.goto 4, 3) := by decide +kernel
theorem dX10_replay_23 : decode cX10_replay 23 = .ok (.iconst (-1), 1) := by decide +kernel
theorem dX10_replay_24 : decode cX10_replay 24 = .ok (.ireturn, 1) := by decide +kernel
theorem dX10_fall_0 : decode cX10_fall 0 = .ok (.aload_n 0, 1) := by decide +kernel
theorem dX10_fall_1 : decode cX10_fall 1 = .ok (.bipush 112, 2) := by decide +kernel
theorem dX10_fall_3 : decode cX10_fall 3 = .ok (.aload_n 0, 1) := by decide +kernel
theorem dX10_fall_4 : decode cX10_fall 4 = .ok (.getfield 110, 3) := by decide +kernel
theorem dX10_fall_7 : decode cX10_fall 7 = .ok (.imul, 1) := by decide +kernel
theorem dX10_fall_8 : decode cX10_fall 8 = .ok (.invokevirtual 287, 3) := by decide +kernel
theorem dX10_fall_11 : decode cX10_fall 11 = .ok (.istore_n 1, 1) := by decide +kernel
theorem dX10_fall_12 : decode cX10_fall 12 = .ok (.iconst 0, 1) := by decide +kernel
theorem dX10_fall_13 : decode cX10_fall 13 = .ok (.istore_n 2, 1) := by decide +kernel
theorem dX10_fall_14 : decode cX10_fall 14 = .ok (.iload_n 2, 1) := by decide +kernel
theorem dX10_fall_15 : decode cX10_fall 15 = .ok (.aload_n 0, 1) := by decide +kernel
theorem dX10_fall_16 : decode cX10_fall 16 = .ok (.getfield 110, 3) := by decide +kernel
theorem dX10_fall_19 : decode cX10_fall 19 = .ok (.if_icmp .ge 14, 3) := by decide +kernel
theorem dX10_fall_22 : decode cX10_fall 22 = .ok (.aload_n 0, 1) := by decide +kernel
theorem dX10_fall_23 : decode cX10_fall 23 = .ok (.iload_n 2, 1) := by decide +kernel
theorem dX10_fall_24 : decode cX10_fall 24 = .ok (.invokevirtual 240, 3) := by decide +kernel
theorem dX10_fall_27 : decode cX10_fall 27 = .ok (.iinc 2 1, 3) := by decide +kernel
theorem dX10_fall_30 : decode cX10_fall 30 = .ok (.goto (-16), 3) := by decide +kernel
theorem dX10_fall_33 : decode cX10_fall 33 = .ok (.aload_n 0, 1) := by decide +kernel
theorem dX10_fall_34 : decode cX10_fall 34 = .ok (.bipush 112, 2) := by decide +kernel
theorem dX10_fall_36 : decode cX10_fall 36 = .ok (.aload_n 0, 1) := by decide +kernel
theorem dX10_fall_37 : decode cX10_fall 37 = .ok (.getfield 110, 3) := by decide +kernel
theorem dX10_fall_40 : decode cX10_fall 40 = .ok (.imul, 1) := by decide +kernel
theorem dX10_fall_41 : decode cX10_fall 41 = .ok (.invokevirtual 287, 3) := by decide +kernel
theorem dX10_fall_44 : decode cX10_fall 44 = .ok (.iload_n 1, 1) := by decide +kernel
theorem dX10_fall_45 : decode cX10_fall 45 = .ok (.if_icmp .ne 7, 3) := by decide +kernel
theorem dX10_fall_48 : decode cX10_fall 48 = .ok (.iconst 1, 1) := by decide +kernel
theorem dX10_fall_49 : decode cX10_fall 49 = .ok (.goto 4, 3) := by decide +kernel
theorem dX10_fall_52 : decode cX10_fall 52 = .ok (.iconst 0, 1) := by decide +kernel
theorem dX10_fall_53 : decode cX10_fall 53 = .ok (.ireturn, 1) := by decide +kernel
theorem dX10_act_0 : decode cX10_act 0 = .ok (.iload_n 1, 1) := by decide +kernel
theorem dX10_act_1 : decode cX10_act 1 = .ok (.iconst 0, 1) := by decide +kernel
theorem dX10_act_2 : decode cX10_act 2 = .ok (.sipush 499, 3) := by decide +kernel
theorem dX10_act_5 : decode cX10_act 5 = .ok (.invokestatic 137, 3) := by decide +kernel
theorem dX10_act_8 : decode cX10_act 8 = .ok (.ifCond .eq 24, 3) := by decide +kernel
theorem dX10_act_11 : decode cX10_act 11 = .ok (.aload_n 0, 1) := by decide +kernel
theorem dX10_act_12 : decode cX10_act 12 = .ok (.iload_n 2, 1) := by decide +kernel
theorem dX10_act_13 : decode cX10_act 13 = .ok (.invokevirtual 272, 3) := by decide +kernel
theorem dX10_act_16 : decode cX10_act 16 = .ok (.ifCond .eq 16, 3) := by decide +kernel
theorem dX10_act_19 : decode cX10_act 19 = .ok (.aload_n 0, 1) := by decide +kernel
theorem dX10_act_20 : decode cX10_act 20 = .ok (.getfield 42, 3) := by decide +kernel
theorem dX10_act_23 : decode cX10_act 23 = .ok (.iconst 4, 1) := by decide +kernel
theorem dX10_act_24 : decode cX10_act 24 = .ok (.iload_n 1, 1) := by decide +kernel
theorem dX10_act_25 : decode cX10_act 25 = .ok (.imul, 1) := by decide +kernel
theorem dX10_act_26 : decode cX10_act 26 = .ok (.iload_n 2, 1) := by decide +kernel
theorem dX10_act_27 : decode cX10_act 27 = .ok (.iadd, 1) := by decide +kernel
theorem dX10_act_28 : decode cX10_act 28 = .ok (.iaload, 1) := by decide +kernel
theorem dX10_act_29 : decode cX10_act 29 = .ok (.goto 4, 3) := by decide +kernel
theorem dX10_act_32 : decode cX10_act 32 = .ok (.iconst (-1), 1) := by decide +kernel
theorem dX10_act_33 : decode cX10_act 33 = .ok (.ireturn, 1) := by decide +kernel
theorem dX10_hit_0 : decode cX10_hit 0 = .ok (.iload_n 1, 1) := by decide +kernel
theorem dX10_hit_1 : decode cX10_hit 1 = .ok (.iconst 0, 1) := by decide +kernel
theorem dX10_hit_2 : decode cX10_hit 2 = .ok (.aload_n 0, 1) := by decide +kernel
theorem dX10_hit_3 : decode cX10_hit 3 = .ok (.getfield 110, 3) := by decide +kernel
theorem dX10_hit_6 : decode cX10_hit 6 = .ok (.iconst 1, 1) := by decide +kernel
theorem dX10_hit_7 : decode cX10_hit 7 = .ok (.isub, 1) := by decide +kernel
theorem dX10_hit_8 : decode cX10_hit 8 = .ok (.invokestatic 137, 3) := by decide +kernel
theorem dX10_hit_11 : decode cX10_hit 11 = .ok (.ifCond .eq 24, 3) := by decide +kernel
theorem dX10_hit_14 : decode cX10_hit 14 = .ok (.aload_n 0, 1) := by decide +kernel
theorem dX10_hit_15 : decode cX10_hit 15 = .ok (.iload_n 2, 1) := by decide +kernel
theorem dX10_hit_16 : decode cX10_hit 16 = .ok (.invokevirtual 272, 3) := by decide +kernel
theorem dX10_hit_19 : decode cX10_hit 19 = .ok (.ifCond .eq 16, 3) := by decide +kernel
theorem dX10_hit_22 : decode cX10_hit 22 = .ok (.aload_n 0, 1) := by decide +kernel
theorem dX10_hit_23 : decode cX10_hit 23 = .ok (.getfield 49, 3) := by decide +kernel
theorem dX10_hit_26 : decode cX10_hit 26 = .ok (.iconst 4, 1) := by decide +kernel
theorem dX10_hit_27 : decode cX10_hit 27 = .ok (.iload_n 1, 1) := by decide +kernel
theorem dX10_hit_28 : decode cX10_hit 28 = .ok (.imul, 1) := by decide +kernel
theorem dX10_hit_29 : decode cX10_hit 29 = .ok (.iload_n 2, 1) := by decide +kernel
theorem dX10_hit_30 : decode cX10_hit 30 = .ok (.iadd, 1) := by decide +kernel
theorem dX10_hit_31 : decode cX10_hit 31 = .ok (.iaload, 1) := by decide +kernel
theorem dX10_hit_32 : decode cX10_hit 32 = .ok (.goto 4, 3) := by decide +kernel
theorem dX10_hit_35 : decode cX10_hit 35 = .ok (.iconst (-1), 1) := by decide +kernel
theorem dX10_hit_36 : decode cX10_hit 36 = .ok (.ireturn, 1) := by decide +kernel
theorem dX10_taken_0 : decode cX10_taken 0 = .ok (.iload_n 1, 1) := by decide +kernel
theorem dX10_taken_1 : decode cX10_taken 1 = .ok (.ifCond .lt 39, 3) := by decide +kernel
theorem dX10_taken_4 : decode cX10_taken 4 = .ok (.iload_n 1, 1) := by decide +kernel
theorem dX10_taken_5 : decode cX10_taken 5 = .ok (.aload_n 0, 1) := by decide +kernel
theorem dX10_taken_6 : decode cX10_taken 6 = .ok (.getfield 130, 3) := by decide +kernel
theorem dX10_taken_9 : decode cX10_taken 9 = .ok (.if_icmp .ge 31, 3) := by decide +kernel
theorem dX10_taken_12 : decode cX10_taken 12 = .ok (.iload_n 1, 1) := by decide +kernel
theorem dX10_taken_13 : decode cX10_taken 13 = .ok (.bipush 64, 2) := by decide +kernel
theorem dX10_taken_15 : decode cX10_taken 15 = .ok (.if_icmp .ge 25, 3) := by decide +kernel
theorem dX10_taken_18 : decode cX10_taken 18 = .ok (.iload_n 2, 1) := by decide +kernel
theorem dX10_taken_19 : decode cX10_taken 19 = .ok (.iconst 0, 1) := by decide +kernel
theorem dX10_taken_20 : decode cX10_taken 20 = .ok (.iconst 3, 1) := by decide +kernel
theorem dX10_taken_21 : decode cX10_taken 21 = .ok (.invokestatic 137, 3) := by decide +kernel
theorem dX10_taken_24 : decode cX10_taken 24 = .ok (.ifCond .eq 16, 3) := by decide +kernel
theorem dX10_taken_27 : decode cX10_taken 27 = .ok (.aload_n 0, 1) := by decide +kernel
theorem dX10_taken_28 : decode cX10_taken 28 = .ok (.getfield 55, 3) := by decide +kernel
theorem dX10_taken_31 : decode cX10_taken 31 = .ok (.iconst 4, 1) := by decide +kernel
theorem dX10_taken_32 : decode cX10_taken 32 = .ok (.iload_n 1, 1) := by decide +kernel
theorem dX10_taken_33 : decode cX10_taken 33 = .ok (.imul, 1) := by decide +kernel
theorem dX10_taken_34 : decode cX10_taken 34 = .ok (.iload_n 2, 1) := by decide +kernel
theorem dX10_taken_35 : decode cX10_taken 35 = .ok (.iadd, 1) := by decide +kernel
theorem dX10_taken_36 : decode cX10_taken 36 = .ok (.iaload, 1) := by decide +kernel
theorem dX10_taken_37 : decode cX10_taken 37 = .ok (.goto 4, 3) := by decide +kernel
theorem dX10_taken_40 : decode cX10_taken 40 = .ok (.iconst (-1), 1) := by decide +kernel
theorem dX10_taken_41 : decode cX10_taken 41 = .ok (.ireturn, 1) := by decide +kernel
theorem dX10_back_0 : decode cX10_back 0 = .ok (.iload_n 1, 1) := by decide +kernel
theorem dX10_back_1 : decode cX10_back 1 = .ok (.ifCond .ne 10, 3) := by decide +kernel
theorem dX10_back_4 : decode cX10_back 4 = .ok (.aload_n 0, 1) := by decide +kernel
theorem dX10_back_5 : decode cX10_back 5 = .ok (.getfield 121, 3) := by decide +kernel
theorem dX10_back_8 : decode cX10_back 8 = .ok (.goto 40, 3) := by decide +kernel
theorem dX10_back_11 : decode cX10_back 11 = .ok (.iload_n 1, 1) := by decide +kernel
theorem dX10_back_12 : decode cX10_back 12 = .ok (.iconst 1, 1) := by decide +kernel
theorem dX10_back_13 : decode cX10_back 13 = .ok (.if_icmp .ne 10, 3) := by decide +kernel
theorem dX10_back_16 : decode cX10_back 16 = .ok (.aload_n 0, 1) := by decide +kernel
theorem dX10_back_17 : decode cX10_back 17 = .ok (.getfield 124, 3) := by decide +kernel
theorem dX10_back_20 : decode cX10_back 20 = .ok (.goto 28, 3) := by decide +kernel
theorem dX10_back_23 : decode cX10_back 23 = .ok (.iload_n 1, 1) := by decide +kernel
theorem dX10_back_24 : decode cX10_back 24 = .ok (.iconst 2, 1) := by decide +kernel
theorem dX10_back_25 : decode cX10_back 25 = .ok (.if_icmp .ne 10, 3) := by decide +kernel
theorem dX10_back_28 : decode cX10_back 28 = .ok (.aload_n 0, 1) := by decide +kernel
theorem dX10_back_29 : decode cX10_back 29 = .ok (.getfield 127, 3) := by decide +kernel
theorem dX10_back_32 : decode cX10_back 32 = .ok (.goto 16, 3) := by decide +kernel
theorem dX10_back_35 : decode cX10_back 35 = .ok (.iload_n 1, 1) := by decide +kernel
theorem dX10_back_36 : decode cX10_back 36 = .ok (.iconst 3, 1) := by decide +kernel
theorem dX10_back_37 : decode cX10_back 37 = .ok (.if_icmp .ne 10, 3) := by decide +kernel
theorem dX10_back_40 : decode cX10_back 40 = .ok (.aload_n 0, 1) := by decide +kernel
theorem dX10_back_41 : decode cX10_back 41 = .ok (.getfield 130, 3) := by decide +kernel
theorem dX10_back_44 : decode cX10_back 44 = .ok (.goto 4, 3) := by decide +kernel
theorem dX10_back_47 : decode cX10_back 47 = .ok (.iconst (-1), 1) := by decide +kernel
theorem dX10_back_48 : decode cX10_back 48 = .ok (.ireturn, 1) := by decide +kernel
theorem dX10_watch_0 : decode cX10_watch 0 = .ok (.aload_n 0, 1) := by decide +kernel
theorem dX10_watch_1 : decode cX10_watch 1 = .ok (.iload_n 1, 1) := by decide +kernel
theorem dX10_watch_2 : decode cX10_watch 2 = .ok (.invokevirtual 272, 3) := by decide +kernel
theorem dX10_watch_5 : decode cX10_watch 5 = .ok (.ifCond .eq 21, 3) := by decide +kernel
theorem dX10_watch_8 : decode cX10_watch 8 = .ok (.iload_n 2, 1) := by decide +kernel
theorem dX10_watch_9 : decode cX10_watch 9 = .ok (.iconst 0, 1) := by decide +kernel
theorem dX10_watch_10 : decode cX10_watch 10 = .ok (.iconst 1, 1) := by decide +kernel
theorem dX10_watch_11 : decode cX10_watch 11 = .ok (.invokestatic 137, 3) := by decide +kernel
theorem dX10_watch_14 : decode cX10_watch 14 = .ok (.ifCond .eq 12, 3) := by decide +kernel
theorem dX10_watch_17 : decode cX10_watch 17 = .ok (.iload_n 3, 1) := by decide +kernel
theorem dX10_watch_18 : decode cX10_watch 18 = .ok (.iconst 0, 1) := by decide +kernel
theorem dX10_watch_19 : decode cX10_watch 19 = .ok (.iconst 3, 1) := by decide +kernel
theorem dX10_watch_20 : decode cX10_watch 20 = .ok (.invokestatic 137, 3) := by decide +kernel
theorem dX10_watch_23 : decode cX10_watch 23 = .ok (.ifCond .ne 5, 3) := by decide +kernel
theorem dX10_watch_26 : decode cX10_watch 26 = .ok (.iconst (-1), 1) := by decide +kernel
theorem dX10_watch_27 : decode cX10_watch 27 = .ok (.ireturn, 1) := by decide +kernel
theorem dX10_watch_28 : decode cX10_watch 28 = .ok (.iconst 2, 1) := by decide +kernel
theorem dX10_watch_29 : decode cX10_watch 29 = .ok (.iload_n 1, 1) := by decide +kernel
theorem dX10_watch_30 : decode cX10_watch 30 = .ok (.imul, 1) := by decide +kernel
theorem dX10_watch_31 : decode cX10_watch 31 = .ok (.iload_n 2, 1) := by decide +kernel
theorem dX10_watch_32 : decode cX10_watch 32 = .ok (.iadd, 1) := by decide +kernel
theorem dX10_watch_33 : decode cX10_watch 33 = .ok (.istore 4, 2) := by decide +kernel
theorem dX10_watch_35 : decode cX10_watch 35 = .ok (.iload_n 3, 1) := by decide +kernel
theorem dX10_watch_36 : decode cX10_watch 36 = .ok (.ifCond .ne 13, 3) := by decide +kernel
theorem dX10_watch_39 : decode cX10_watch 39 = .ok (.aload_n 0, 1) := by decide +kernel
theorem dX10_watch_40 : decode cX10_watch 40 = .ok (.getfield 61, 3) := by decide +kernel
theorem dX10_watch_43 : decode cX10_watch 43 = .ok (.iload 4, 2) := by decide +kernel
theorem dX10_watch_45 : decode cX10_watch 45 = .ok (.iaload, 1) := by decide +kernel
theorem dX10_watch_46 : decode cX10_watch 46 = .ok (.goto 40, 3) := by decide +kernel
theorem dX10_watch_49 : decode cX10_watch 49 = .ok (.iload_n 3, 1) := by decide +kernel
theorem dX10_watch_50 : decode cX10_watch 50 = .ok (.iconst 1, 1) := by decide +kernel
theorem dX10_watch_51 : decode cX10_watch 51 = .ok (.if_icmp .ne 13, 3) := by decide +kernel
theorem dX10_watch_54 : decode cX10_watch 54 = .ok (.aload_n 0, 1) := by decide +kernel
theorem dX10_watch_55 : decode cX10_watch 55 = .ok (.getfield 64, 3) := by decide +kernel
theorem dX10_watch_58 : decode cX10_watch 58 = .ok (.iload 4, 2) := by decide +kernel
theorem dX10_watch_60 : decode cX10_watch 60 = .ok (.iaload, 1) := by decide +kernel
theorem dX10_watch_61 : decode cX10_watch 61 = .ok (.goto 25, 3) := by decide +kernel
theorem dX10_watch_64 : decode cX10_watch 64 = .ok (.iload_n 3, 1) := by decide +kernel
theorem dX10_watch_65 : decode cX10_watch 65 = .ok (.iconst 2, 1) := by decide +kernel
theorem dX10_watch_66 : decode cX10_watch 66 = .ok (.if_icmp .ne 13, 3) := by decide +kernel
theorem dX10_watch_69 : decode cX10_watch 69 = .ok (.aload_n 0, 1) := by decide +kernel
theorem dX10_watch_70 : decode cX10_watch 70 = .ok (.iload 4, 2) := by decide +kernel
theorem dX10_watch_72 : decode cX10_watch 72 = .ok (.invokevirtual 253, 3) := by decide +kernel
theorem dX10_watch_75 : decode cX10_watch 75 = .ok (.l2i, 1) := by decide +kernel
theorem dX10_watch_76 : decode cX10_watch 76 = .ok (.goto 10, 3) := by decide +kernel
theorem dX10_watch_79 : decode cX10_watch 79 = .ok (.aload_n 0, 1) := by decide +kernel
theorem dX10_watch_80 : decode cX10_watch 80 = .ok (.getfield 67, 3) := by decide +kernel
theorem dX10_watch_83 : decode cX10_watch 83 = .ok (.iload 4, 2) := by decide +kernel
theorem dX10_watch_85 : decode cX10_watch 85 = .ok (.iaload, 1) := by decide +kernel
theorem dX10_watch_86 : decode cX10_watch 86 = .ok (.ireturn, 1) := by decide +kernel
theorem dX10_fair_0 : decode cX10_fair 0 = .ok (.aload_n 0, 1) := by decide +kernel
theorem dX10_fair_1 : decode cX10_fair 1 = .ok (.iload_n 1, 1) := by decide +kernel
theorem dX10_fair_2 : decode cX10_fair 2 = .ok (.invokevirtual 272, 3) := by decide +kernel
theorem dX10_fair_5 : decode cX10_fair 5 = .ok (.ifCond .eq 12, 3) := by decide +kernel
theorem dX10_fair_8 : decode cX10_fair 8 = .ok (.iload_n 2, 1) := by decide +kernel
theorem dX10_fair_9 : decode cX10_fair 9 = .ok (.iconst 0, 1) := by decide +kernel
theorem dX10_fair_10 : decode cX10_fair 10 = .ok (.iconst 1, 1) := by decide +kernel
theorem dX10_fair_11 : decode cX10_fair 11 = .ok (.invokestatic 137, 3) := by decide +kernel
theorem dX10_fair_14 : decode cX10_fair 14 = .ok (.ifCond .ne 5, 3) := by decide +kernel
theorem dX10_fair_17 : decode cX10_fair 17 = .ok (.iconst (-1), 1) := by decide +kernel
theorem dX10_fair_18 : decode cX10_fair 18 = .ok (.ireturn, 1) := by decide +kernel
theorem dX10_fair_19 : decode cX10_fair 19 = .ok (.iconst 0, 1) := by decide +kernel
theorem dX10_fair_20 : decode cX10_fair 20 = .ok (.istore_n 3, 1) := by decide +kernel
theorem dX10_fair_21 : decode cX10_fair 21 = .ok (.iconst 0, 1) := by decide +kernel
theorem dX10_fair_22 : decode cX10_fair 22 = .ok (.istore 4, 2) := by decide +kernel
theorem dX10_fair_24 : decode cX10_fair 24 = .ok (.iload 4, 2) := by decide +kernel
theorem dX10_fair_26 : decode cX10_fair 26 = .ok (.aload_n 0, 1) := by decide +kernel
theorem dX10_fair_27 : decode cX10_fair 27 = .ok (.getfield 110, 3) := by decide +kernel
theorem dX10_fair_30 : decode cX10_fair 30 = .ok (.aload_n 0, 1) := by decide +kernel
theorem dX10_fair_31 : decode cX10_fair 31 = .ok (.getfield 32, 3) := by decide +kernel
theorem dX10_fair_34 : decode cX10_fair 34 = .ok (.isub, 1) := by decide +kernel
theorem dX10_fair_35 : decode cX10_fair 35 = .ok (.if_icmp .ge 55, 3) := by decide +kernel
theorem dX10_fair_38 : decode cX10_fair 38 = .ok (.iload_n 3, 1) := by decide +kernel
theorem dX10_fair_39 : decode cX10_fair 39 = .ok (.aload_n 0, 1) := by decide +kernel
theorem dX10_fair_40 : decode cX10_fair 40 = .ok (.getfield 49, 3) := by decide +kernel
theorem dX10_fair_43 : decode cX10_fair 43 = .ok (.iconst 4, 1) := by decide +kernel
theorem dX10_fair_44 : decode cX10_fair 44 = .ok (.iload 4, 2) := by decide +kernel
theorem dX10_fair_46 : decode cX10_fair 46 = .ok (.imul, 1) := by decide +kernel
theorem dX10_fair_47 : decode cX10_fair 47 = .ok (.iload_n 1, 1) := by decide +kernel
theorem dX10_fair_48 : decode cX10_fair 48 = .ok (.iadd, 1) := by decide +kernel
theorem dX10_fair_49 : decode cX10_fair 49 = .ok (.iaload, 1) := by decide +kernel
theorem dX10_fair_50 : decode cX10_fair 50 = .ok (.ifCond .le 31, 3) := by decide +kernel
theorem dX10_fair_53 : decode cX10_fair 53 = .ok (.aload_n 0, 1) := by decide +kernel
theorem dX10_fair_54 : decode cX10_fair 54 = .ok (.getfield 45, 3) := by decide +kernel
theorem dX10_fair_57 : decode cX10_fair 57 = .ok (.iconst 4, 1) := by decide +kernel
theorem dX10_fair_58 : decode cX10_fair 58 = .ok (.iload 4, 2) := by decide +kernel
theorem dX10_fair_60 : decode cX10_fair 60 = .ok (.imul, 1) := by decide +kernel
theorem dX10_fair_61 : decode cX10_fair 61 = .ok (.iload_n 1, 1) := by decide +kernel
theorem dX10_fair_62 : decode cX10_fair 62 = .ok (.iadd, 1) := by decide +kernel
theorem dX10_fair_63 : decode cX10_fair 63 = .ok (.baload, 1) := by decide +kernel
theorem dX10_fair_64 : decode cX10_fair 64 = .ok (.iload_n 2, 1) := by decide +kernel
theorem dX10_fair_65 : decode cX10_fair 65 = .ok (.iconst 1, 1) := by decide +kernel
theorem dX10_fair_66 : decode cX10_fair 66 = .ok (.if_icmp .ne 7, 3) := by decide +kernel
theorem dX10_fair_69 : decode cX10_fair 69 = .ok (.iconst 1, 1) := by decide +kernel
theorem dX10_fair_70 : decode cX10_fair 70 = .ok (.goto 4, 3) := by decide +kernel
theorem dX10_fair_73 : decode cX10_fair 73 = .ok (.iconst 0, 1) := by decide +kernel
theorem dX10_fair_74 : decode cX10_fair 74 = .ok (.if_icmp .ne 7, 3) := by decide +kernel
theorem dX10_fair_77 : decode cX10_fair 77 = .ok (.iconst 1, 1) := by decide +kernel
theorem dX10_fair_78 : decode cX10_fair 78 = .ok (.goto 4, 3) := by decide +kernel
theorem dX10_fair_81 : decode cX10_fair 81 = .ok (.iconst 0, 1) := by decide +kernel
theorem dX10_fair_82 : decode cX10_fair 82 = .ok (.iadd, 1) := by decide +kernel
theorem dX10_fair_83 : decode cX10_fair 83 = .ok (.istore_n 3, 1) := by decide +kernel
theorem dX10_fair_84 : decode cX10_fair 84 = .ok (.iinc 4 1, 3) := by decide +kernel
theorem dX10_fair_87 : decode cX10_fair 87 = .ok (.goto (-63), 3) := by decide +kernel
theorem dX10_fair_90 : decode cX10_fair 90 = .ok (.iload_n 3, 1) := by decide +kernel
theorem dX10_fair_91 : decode cX10_fair 91 = .ok (.ireturn, 1) := by decide +kernel
theorem dX10_isTape_0 : decode cX10_isTape 0 = .ok (.iload_n 0, 1) := by decide +kernel
theorem dX10_isTape_1 : decode cX10_isTape 1 = .ok (.iconst 0, 1) := by decide +kernel
theorem dX10_isTape_2 : decode cX10_isTape 2 = .ok (.iconst 5, 1) := by decide +kernel
theorem dX10_isTape_3 : decode cX10_isTape 3 = .ok (.invokestatic 137, 3) := by decide +kernel
theorem dX10_isTape_6 : decode cX10_isTape 6 = .ok (.ireturn, 1) := by decide +kernel
theorem dX10_tape_0 : decode cX10_tape 0 = .ok (.iload_n 1, 1) := by decide +kernel
theorem dX10_tape_1 : decode cX10_tape 1 = .ok (.invokestatic 290, 3) := by decide +kernel
theorem dX10_tape_4 : decode cX10_tape 4 = .ok (.ifCond .eq 18, 3) := by decide +kernel
theorem dX10_tape_7 : decode cX10_tape 7 = .ok (.iload_n 2, 1) := by decide +kernel
theorem dX10_tape_8 : decode cX10_tape 8 = .ok (.iconst 1, 1) := by decide +kernel
theorem dX10_tape_9 : decode cX10_tape 9 = .ok (.iconst 4, 1) := by decide +kernel
theorem dX10_tape_10 : decode cX10_tape 10 = .ok (.invokestatic 137, 3) := by decide +kernel
theorem dX10_tape_13 : decode cX10_tape 13 = .ok (.ifCond .eq 9, 3) := by decide +kernel
theorem dX10_tape_16 : decode cX10_tape 16 = .ok (.iload_n 3, 1) := by decide +kernel
theorem dX10_tape_17 : decode cX10_tape 17 = .ok (.bipush 80, 2) := by decide +kernel
theorem dX10_tape_19 : decode cX10_tape 19 = .ok (.if_icmp .le 5, 3) := by decide +kernel
theorem dX10_tape_22 : decode cX10_tape 22 = .ok (.iconst (-1), 1) := by decide +kernel
theorem dX10_tape_23 : decode cX10_tape 23 = .ok (.ireturn, 1) := by decide +kernel
theorem dX10_tape_24 : decode cX10_tape 24 = .ok (.iload_n 3, 1) := by decide +kernel
theorem dX10_tape_25 : decode cX10_tape 25 = .ok (.ifCond .ge 10, 3) := by decide +kernel
theorem dX10_tape_28 : decode cX10_tape 28 = .ok (.aload_n 0, 1) := by decide +kernel
theorem dX10_tape_29 : decode cX10_tape 29 = .ok (.bipush (-14), 2) := by decide +kernel
theorem dX10_tape_31 : decode cX10_tape 31 = .ok (.invokevirtual 293, 3) := by decide +kernel
theorem dX10_tape_34 : decode cX10_tape 34 = .ok (.ireturn, 1) := by decide +kernel
theorem dX10_tape_35 : decode cX10_tape 35 = .ok (.aload_n 0, 1) := by decide +kernel
theorem dX10_tape_36 : decode cX10_tape 36 = .ok (.getfield 80, 3) := by decide +kernel
theorem dX10_tape_39 : decode cX10_tape 39 = .ok (.iload_n 1, 1) := by decide +kernel
theorem dX10_tape_40 : decode cX10_tape 40 = .ok (.iload_n 2, 1) := by decide +kernel
theorem dX10_tape_41 : decode cX10_tape 41 = .ok (.iastore, 1) := by decide +kernel
theorem dX10_tape_42 : decode cX10_tape 42 = .ok (.aload_n 0, 1) := by decide +kernel
theorem dX10_tape_43 : decode cX10_tape 43 = .ok (.getfield 83, 3) := by decide +kernel
theorem dX10_tape_46 : decode cX10_tape 46 = .ok (.iload_n 1, 1) := by decide +kernel
theorem dX10_tape_47 : decode cX10_tape 47 = .ok (.iload_n 3, 1) := by decide +kernel
theorem dX10_tape_48 : decode cX10_tape 48 = .ok (.iastore, 1) := by decide +kernel
theorem dX10_tape_49 : decode cX10_tape 49 = .ok (.iconst 0, 1) := by decide +kernel
theorem dX10_tape_50 : decode cX10_tape 50 = .ok (.istore 4, 2) := by decide +kernel
theorem dX10_tape_52 : decode cX10_tape 52 = .ok (.iload 4, 2) := by decide +kernel
theorem dX10_tape_54 : decode cX10_tape 54 = .ok (.iload_n 3, 1) := by decide +kernel
theorem dX10_tape_55 : decode cX10_tape 55 = .ok (.if_icmp .ge 22, 3) := by decide +kernel
theorem dX10_tape_58 : decode cX10_tape 58 = .ok (.aload_n 0, 1) := by decide +kernel
theorem dX10_tape_59 : decode cX10_tape 59 = .ok (.getfield 89, 3) := by decide +kernel
theorem dX10_tape_62 : decode cX10_tape 62 = .ok (.bipush 100, 2) := by decide +kernel
theorem dX10_tape_64 : decode cX10_tape 64 = .ok (.iload_n 1, 1) := by decide +kernel
theorem dX10_tape_65 : decode cX10_tape 65 = .ok (.imul, 1) := by decide +kernel
theorem dX10_tape_66 : decode cX10_tape 66 = .ok (.iload 4, 2) := by decide +kernel
theorem dX10_tape_68 : decode cX10_tape 68 = .ok (.iadd, 1) := by decide +kernel
theorem dX10_tape_69 : decode cX10_tape 69 = .ok (.lconst 0, 1) := by decide +kernel
theorem dX10_tape_70 : decode cX10_tape 70 = .ok (.lastore, 1) := by decide +kernel
theorem dX10_tape_71 : decode cX10_tape 71 = .ok (.iinc 4 1, 3) := by decide +kernel
theorem dX10_tape_74 : decode cX10_tape 74 = .ok (.goto (-22), 3) := by decide +kernel
theorem dX10_tape_77 : decode cX10_tape 77 = .ok (.iload_n 3, 1) := by decide +kernel
theorem dX10_tape_78 : decode cX10_tape 78 = .ok (.ireturn, 1) := by decide +kernel
theorem dX10_view_0 : decode cX10_view 0 = .ok (.iload_n 1, 1) := by decide +kernel
theorem dX10_view_1 : decode cX10_view 1 = .ok (.invokestatic 290, 3) := by decide +kernel
theorem dX10_view_4 : decode cX10_view 4 = .ok (.ifCond .eq 11, 3) := by decide +kernel
theorem dX10_view_7 : decode cX10_view 7 = .ok (.aload_n 0, 1) := by decide +kernel
theorem dX10_view_8 : decode cX10_view 8 = .ok (.iload_n 2, 1) := by decide +kernel
theorem dX10_view_9 : decode cX10_view 9 = .ok (.invokevirtual 272, 3) := by decide +kernel
theorem dX10_view_12 : decode cX10_view 12 = .ok (.ifCond .ne 5, 3) := by decide +kernel
theorem dX10_view_15 : decode cX10_view 15 = .ok (.iconst (-1), 1) := by decide +kernel
theorem dX10_view_16 : decode cX10_view 16 = .ok (.ireturn, 1) := by decide +kernel
theorem dX10_view_17 : decode cX10_view 17 = .ok (.aload_n 0, 1) := by decide +kernel
theorem dX10_view_18 : decode cX10_view 18 = .ok (.getfield 80, 3) := by decide +kernel
theorem dX10_view_21 : decode cX10_view 21 = .ok (.iload_n 1, 1) := by decide +kernel
theorem dX10_view_22 : decode cX10_view 22 = .ok (.iconst 5, 1) := by decide +kernel
theorem dX10_view_23 : decode cX10_view 23 = .ok (.iastore, 1) := by decide +kernel
theorem dX10_view_24 : decode cX10_view 24 = .ok (.aload_n 0, 1) := by decide +kernel
theorem dX10_view_25 : decode cX10_view 25 = .ok (.getfield 83, 3) := by decide +kernel
theorem dX10_view_28 : decode cX10_view 28 = .ok (.iload_n 1, 1) := by decide +kernel
theorem dX10_view_29 : decode cX10_view 29 = .ok (.iconst 0, 1) := by decide +kernel
theorem dX10_view_30 : decode cX10_view 30 = .ok (.iastore, 1) := by decide +kernel
theorem dX10_view_31 : decode cX10_view 31 = .ok (.aload_n 0, 1) := by decide +kernel
theorem dX10_view_32 : decode cX10_view 32 = .ok (.getfield 86, 3) := by decide +kernel
theorem dX10_view_35 : decode cX10_view 35 = .ok (.iload_n 1, 1) := by decide +kernel
theorem dX10_view_36 : decode cX10_view 36 = .ok (.aload_n 0, 1) := by decide +kernel
theorem dX10_view_37 : decode cX10_view 37 = .ok (.getfield 7, 3) := by decide +kernel
theorem dX10_view_40 : decode cX10_view 40 = .ok (.aload_n 0, 1) := by decide +kernel
theorem dX10_view_41 : decode cX10_view 41 = .ok (.getfield 13, 3) := by decide +kernel
theorem dX10_view_44 : decode cX10_view 44 = .ok (.imul, 1) := by decide +kernel
theorem dX10_view_45 : decode cX10_view 45 = .ok (.iastore, 1) := by decide +kernel
theorem dX10_view_46 : decode cX10_view 46 = .ok (.iconst 0, 1) := by decide +kernel
theorem dX10_view_47 : decode cX10_view 47 = .ok (.istore_n 3, 1) := by decide +kernel
theorem dX10_view_48 : decode cX10_view 48 = .ok (.iload_n 3, 1) := by decide +kernel
theorem dX10_view_49 : decode cX10_view 49 = .ok (.aload_n 0, 1) := by decide +kernel
theorem dX10_view_50 : decode cX10_view 50 = .ok (.getfield 7, 3) := by decide +kernel
theorem dX10_view_53 : decode cX10_view 53 = .ok (.aload_n 0, 1) := by decide +kernel
theorem dX10_view_54 : decode cX10_view 54 = .ok (.getfield 13, 3) := by decide +kernel
theorem dX10_view_57 : decode cX10_view 57 = .ok (.imul, 1) := by decide +kernel
theorem dX10_view_58 : decode cX10_view 58 = .ok (.if_icmp .ge 57, 3) := by decide +kernel
theorem dX10_view_61 : decode cX10_view 61 = .ok (.aload_n 0, 1) := by decide +kernel
theorem dX10_view_62 : decode cX10_view 62 = .ok (.getfield 89, 3) := by decide +kernel
theorem dX10_view_65 : decode cX10_view 65 = .ok (.bipush 100, 2) := by decide +kernel
theorem dX10_view_67 : decode cX10_view 67 = .ok (.iload_n 1, 1) := by decide +kernel
theorem dX10_view_68 : decode cX10_view 68 = .ok (.imul, 1) := by decide +kernel
theorem dX10_view_69 : decode cX10_view 69 = .ok (.iload_n 3, 1) := by decide +kernel
theorem dX10_view_70 : decode cX10_view 70 = .ok (.iadd, 1) := by decide +kernel
theorem dX10_view_71 : decode cX10_view 71 = .ok (.aload_n 0, 1) := by decide +kernel
theorem dX10_view_72 : decode cX10_view 72 = .ok (.iload_n 2, 1) := by decide +kernel
theorem dX10_view_73 : decode cX10_view 73 = .ok (.iload_n 3, 1) := by decide +kernel
theorem dX10_view_74 : decode cX10_view 74 = .ok (.invokevirtual 278, 3) := by decide +kernel
theorem dX10_view_77 : decode cX10_view 77 = .ok (.i2l, 1) := by decide +kernel
theorem dX10_view_78 : decode cX10_view 78 = .ok (.lastore, 1) := by decide +kernel
theorem dX10_view_79 : decode cX10_view 79 = .ok (.aload_n 0, 1) := by decide +kernel
theorem dX10_view_80 : decode cX10_view 80 = .ok (.getfield 83, 3) := by decide +kernel
theorem dX10_view_83 : decode cX10_view 83 = .ok (.iload_n 1, 1) := by decide +kernel
theorem dX10_view_84 : decode cX10_view 84 = .ok (.dup2, 1) := by decide +kernel
theorem dX10_view_85 : decode cX10_view 85 = .ok (.iaload, 1) := by decide +kernel
theorem dX10_view_86 : decode cX10_view 86 = .ok (.aload_n 0, 1) := by decide +kernel
theorem dX10_view_87 : decode cX10_view 87 = .ok (.getfield 89, 3) := by decide +kernel
theorem dX10_view_90 : decode cX10_view 90 = .ok (.bipush 100, 2) := by decide +kernel
theorem dX10_view_92 : decode cX10_view 92 = .ok (.iload_n 1, 1) := by decide +kernel
theorem dX10_view_93 : decode cX10_view 93 = .ok (.imul, 1) := by decide +kernel
theorem dX10_view_94 : decode cX10_view 94 = .ok (.iload_n 3, 1) := by decide +kernel
theorem dX10_view_95 : decode cX10_view 95 = .ok (.iadd, 1) := by decide +kernel
theorem dX10_view_96 : decode cX10_view 96 = .ok (.laload, 1) := by decide +kernel
theorem dX10_view_97 : decode cX10_view 97 = .ok (.lconst 0, 1) := by decide +kernel
theorem dX10_view_98 : decode cX10_view 98 = .ok (.lcmp, 1) := by decide +kernel
theorem dX10_view_99 : decode cX10_view 99 = .ok (.ifCond .lt 7, 3) := by decide +kernel
theorem dX10_view_102 : decode cX10_view 102 = .ok (.iconst 1, 1) := by decide +kernel
theorem dX10_view_103 : decode cX10_view 103 = .ok (.goto 4, 3) := by decide +kernel
theorem dX10_view_106 : decode cX10_view 106 = .ok (.iconst 0, 1) := by decide +kernel
theorem dX10_view_107 : decode cX10_view 107 = .ok (.iadd, 1) := by decide +kernel
theorem dX10_view_108 : decode cX10_view 108 = .ok (.iastore, 1) := by decide +kernel
theorem dX10_view_109 : decode cX10_view 109 = .ok (.iinc 3 1, 3) := by decide +kernel
theorem dX10_view_112 : decode cX10_view 112 = .ok (.goto (-64), 3) := by decide +kernel
theorem dX10_view_115 : decode cX10_view 115 = .ok (.aload_n 0, 1) := by decide +kernel
theorem dX10_view_116 : decode cX10_view 116 = .ok (.getfield 83, 3) := by decide +kernel
theorem dX10_view_119 : decode cX10_view 119 = .ok (.iload_n 1, 1) := by decide +kernel
theorem dX10_view_120 : decode cX10_view 120 = .ok (.iaload, 1) := by decide +kernel
theorem dX10_view_121 : decode cX10_view 121 = .ok (.ireturn, 1) := by decide +kernel
theorem dX10_clear_0 : decode cX10_clear 0 = .ok (.iload_n 1, 1) := by decide +kernel
theorem dX10_clear_1 : decode cX10_clear 1 = .ok (.invokestatic 290, 3) := by decide +kernel
theorem dX10_clear_4 : decode cX10_clear 4 = .ok (.ifCond .ne 5, 3) := by decide +kernel
theorem dX10_clear_7 : decode cX10_clear 7 = .ok (.iconst (-1), 1) := by decide +kernel
theorem dX10_clear_8 : decode cX10_clear 8 = .ok (.ireturn, 1) := by decide +kernel
theorem dX10_clear_9 : decode cX10_clear 9 = .ok (.aload_n 0, 1) := by decide +kernel
theorem dX10_clear_10 : decode cX10_clear 10 = .ok (.getfield 80, 3) := by decide +kernel
theorem dX10_clear_13 : decode cX10_clear 13 = .ok (.iload_n 1, 1) := by decide +kernel
theorem dX10_clear_14 : decode cX10_clear 14 = .ok (.iaload, 1) := by decide +kernel
theorem dX10_clear_15 : decode cX10_clear 15 = .ok (.istore_n 2, 1) := by decide +kernel
theorem dX10_clear_16 : decode cX10_clear 16 = .ok (.aload_n 0, 1) := by decide +kernel
theorem dX10_clear_17 : decode cX10_clear 17 = .ok (.getfield 80, 3) := by decide +kernel
theorem dX10_clear_20 : decode cX10_clear 20 = .ok (.iload_n 1, 1) := by decide +kernel
theorem dX10_clear_21 : decode cX10_clear 21 = .ok (.iconst 0, 1) := by decide +kernel
theorem dX10_clear_22 : decode cX10_clear 22 = .ok (.iastore, 1) := by decide +kernel
theorem dX10_clear_23 : decode cX10_clear 23 = .ok (.iload_n 2, 1) := by decide +kernel
theorem dX10_clear_24 : decode cX10_clear 24 = .ok (.ireturn, 1) := by decide +kernel
theorem dX10_narrow_0 : decode cX10_narrow 0 = .ok (.iload_n 0, 1) := by decide +kernel
theorem dX10_narrow_1 : decode cX10_narrow 1 = .ok (.iconst 1, 1) := by decide +kernel
theorem dX10_narrow_2 : decode cX10_narrow 2 = .ok (.if_icmp .ne 10, 3) := by decide +kernel
theorem dX10_narrow_5 : decode cX10_narrow 5 = .ok (.lload_n 1, 1) := by decide +kernel
theorem dX10_narrow_6 : decode cX10_narrow 6 = .ok (.l2i, 1) := by decide +kernel
theorem dX10_narrow_7 : decode cX10_narrow 7 = .ok (.i2b, 1) := by decide +kernel
theorem dX10_narrow_8 : decode cX10_narrow 8 = .ok (.i2l, 1) := by decide +kernel
theorem dX10_narrow_9 : decode cX10_narrow 9 = .ok (.goto 27, 3) := by decide +kernel
theorem dX10_narrow_12 : decode cX10_narrow 12 = .ok (.iload_n 0, 1) := by decide +kernel
theorem dX10_narrow_13 : decode cX10_narrow 13 = .ok (.iconst 2, 1) := by decide +kernel
theorem dX10_narrow_14 : decode cX10_narrow 14 = .ok (.if_icmp .ne 10, 3) := by decide +kernel
theorem dX10_narrow_17 : decode cX10_narrow 17 = .ok (.lload_n 1, 1) := by decide +kernel
theorem dX10_narrow_18 : decode cX10_narrow 18 = .ok (.l2i, 1) := by decide +kernel
theorem dX10_narrow_19 : decode cX10_narrow 19 = .ok (.i2s, 1) := by decide +kernel
theorem dX10_narrow_20 : decode cX10_narrow 20 = .ok (.i2l, 1) := by decide +kernel
theorem dX10_narrow_21 : decode cX10_narrow 21 = .ok (.goto 15, 3) := by decide +kernel
theorem dX10_narrow_24 : decode cX10_narrow 24 = .ok (.iload_n 0, 1) := by decide +kernel
theorem dX10_narrow_25 : decode cX10_narrow 25 = .ok (.iconst 3, 1) := by decide +kernel
theorem dX10_narrow_26 : decode cX10_narrow 26 = .ok (.if_icmp .ne 9, 3) := by decide +kernel
theorem dX10_narrow_29 : decode cX10_narrow 29 = .ok (.lload_n 1, 1) := by decide +kernel
theorem dX10_narrow_30 : decode cX10_narrow 30 = .ok (.l2i, 1) := by decide +kernel
theorem dX10_narrow_31 : decode cX10_narrow 31 = .ok (.i2l, 1) := by decide +kernel
theorem dX10_narrow_32 : decode cX10_narrow 32 = .ok (.goto 4, 3) := by decide +kernel
theorem dX10_narrow_35 : decode cX10_narrow 35 = .ok (.lload_n 1, 1) := by decide +kernel
theorem dX10_narrow_36 : decode cX10_narrow 36 = .ok (.lreturn, 1) := by decide +kernel
theorem dX10_put_0 : decode cX10_put 0 = .ok (.iload_n 1, 1) := by decide +kernel
theorem dX10_put_1 : decode cX10_put 1 = .ok (.invokestatic 290, 3) := by decide +kernel
theorem dX10_put_4 : decode cX10_put 4 = .ok (.ifCond .ne 5, 3) := by decide +kernel
theorem dX10_put_7 : decode cX10_put 7 = .ok (.iconst (-1), 1) := by decide +kernel
theorem dX10_put_8 : decode cX10_put 8 = .ok (.ireturn, 1) := by decide +kernel
theorem dX10_put_9 : decode cX10_put 9 = .ok (.aload_n 0, 1) := by decide +kernel
theorem dX10_put_10 : decode cX10_put 10 = .ok (.getfield 80, 3) := by decide +kernel
theorem dX10_put_13 : decode cX10_put 13 = .ok (.iload_n 1, 1) := by decide +kernel
theorem dX10_put_14 : decode cX10_put 14 = .ok (.iaload, 1) := by decide +kernel
theorem dX10_put_15 : decode cX10_put 15 = .ok (.ifCond .ne 10, 3) := by decide +kernel
theorem dX10_put_18 : decode cX10_put 18 = .ok (.aload_n 0, 1) := by decide +kernel
theorem dX10_put_19 : decode cX10_put 19 = .ok (.bipush (-11), 2) := by decide +kernel
theorem dX10_put_21 : decode cX10_put 21 = .ok (.invokevirtual 293, 3) := by decide +kernel
theorem dX10_put_24 : decode cX10_put 24 = .ok (.ireturn, 1) := by decide +kernel
theorem dX10_put_25 : decode cX10_put 25 = .ok (.aload_n 0, 1) := by decide +kernel
theorem dX10_put_26 : decode cX10_put 26 = .ok (.getfield 80, 3) := by decide +kernel
theorem dX10_put_29 : decode cX10_put 29 = .ok (.iload_n 1, 1) := by decide +kernel
theorem dX10_put_30 : decode cX10_put 30 = .ok (.iaload, 1) := by decide +kernel
theorem dX10_put_31 : decode cX10_put 31 = .ok (.iconst 5, 1) := by decide +kernel
theorem dX10_put_32 : decode cX10_put 32 = .ok (.if_icmp .ne 10, 3) := by decide +kernel
theorem dX10_put_35 : decode cX10_put 35 = .ok (.aload_n 0, 1) := by decide +kernel
theorem dX10_put_36 : decode cX10_put 36 = .ok (.bipush (-12), 2) := by decide +kernel
theorem dX10_put_38 : decode cX10_put 38 = .ok (.invokevirtual 293, 3) := by decide +kernel
theorem dX10_put_41 : decode cX10_put 41 = .ok (.ireturn, 1) := by decide +kernel
theorem dX10_put_42 : decode cX10_put 42 = .ok (.iload_n 2, 1) := by decide +kernel
theorem dX10_put_43 : decode cX10_put 43 = .ok (.iconst 0, 1) := by decide +kernel
theorem dX10_put_44 : decode cX10_put 44 = .ok (.aload_n 0, 1) := by decide +kernel
theorem dX10_put_45 : decode cX10_put 45 = .ok (.getfield 83, 3) := by decide +kernel
theorem dX10_put_48 : decode cX10_put 48 = .ok (.iload_n 1, 1) := by decide +kernel
theorem dX10_put_49 : decode cX10_put 49 = .ok (.iaload, 1) := by decide +kernel
theorem dX10_put_50 : decode cX10_put 50 = .ok (.iconst 1, 1) := by decide +kernel
theorem dX10_put_51 : decode cX10_put 51 = .ok (.isub, 1) := by decide +kernel
theorem dX10_put_52 : decode cX10_put 52 = .ok (.invokestatic 137, 3) := by decide +kernel
theorem dX10_put_55 : decode cX10_put 55 = .ok (.ifCond .ne 10, 3) := by decide +kernel
theorem dX10_put_58 : decode cX10_put 58 = .ok (.aload_n 0, 1) := by decide +kernel
theorem dX10_put_59 : decode cX10_put 59 = .ok (.bipush (-13), 2) := by decide +kernel
theorem dX10_put_61 : decode cX10_put 61 = .ok (.invokevirtual 293, 3) := by decide +kernel
theorem dX10_put_64 : decode cX10_put 64 = .ok (.ireturn, 1) := by decide +kernel
theorem dX10_put_65 : decode cX10_put 65 = .ok (.aload_n 0, 1) := by decide +kernel
theorem dX10_put_66 : decode cX10_put 66 = .ok (.getfield 89, 3) := by decide +kernel
theorem dX10_put_69 : decode cX10_put 69 = .ok (.bipush 100, 2) := by decide +kernel
theorem dX10_put_71 : decode cX10_put 71 = .ok (.iload_n 1, 1) := by decide +kernel
theorem dX10_put_72 : decode cX10_put 72 = .ok (.imul, 1) := by decide +kernel
theorem dX10_put_73 : decode cX10_put 73 = .ok (.iload_n 2, 1) := by decide +kernel
theorem dX10_put_74 : decode cX10_put 74 = .ok (.iadd, 1) := by decide +kernel
theorem dX10_put_75 : decode cX10_put 75 = .ok (.aload_n 0, 1) := by decide +kernel
theorem dX10_put_76 : decode cX10_put 76 = .ok (.getfield 80, 3) := by decide +kernel
theorem dX10_put_79 : decode cX10_put 79 = .ok (.iload_n 1, 1) := by decide +kernel
theorem dX10_put_80 : decode cX10_put 80 = .ok (.iaload, 1) := by decide +kernel
theorem dX10_put_81 : decode cX10_put 81 = .ok (.lload_n 3, 1) := by decide +kernel
theorem dX10_put_82 : decode cX10_put 82 = .ok (.invokestatic 296, 3) := by decide +kernel
theorem dX10_put_85 : decode cX10_put 85 = .ok (.lastore, 1) := by decide +kernel
theorem dX10_put_86 : decode cX10_put 86 = .ok (.iconst 1, 1) := by decide +kernel
theorem dX10_put_87 : decode cX10_put 87 = .ok (.ireturn, 1) := by decide +kernel
theorem dX10_at_0 : decode cX10_at 0 = .ok (.aload_n 0, 1) := by decide +kernel
theorem dX10_at_1 : decode cX10_at 1 = .ok (.iload_n 1, 1) := by decide +kernel
theorem dX10_at_2 : decode cX10_at 2 = .ok (.invokestatic 290, 3) := by decide +kernel
theorem dX10_at_5 : decode cX10_at 5 = .ok (.ifCond .ne 7, 3) := by decide +kernel
theorem dX10_at_8 : decode cX10_at 8 = .ok (.iconst 1, 1) := by decide +kernel
theorem dX10_at_9 : decode cX10_at 9 = .ok (.goto 43, 3) := by decide +kernel
theorem dX10_at_12 : decode cX10_at 12 = .ok (.aload_n 0, 1) := by decide +kernel
theorem dX10_at_13 : decode cX10_at 13 = .ok (.getfield 80, 3) := by decide +kernel
theorem dX10_at_16 : decode cX10_at 16 = .ok (.iload_n 1, 1) := by decide +kernel
theorem dX10_at_17 : decode cX10_at 17 = .ok (.iaload, 1) := by decide +kernel
theorem dX10_at_18 : decode cX10_at 18 = .ok (.ifCond .eq 29, 3) := by decide +kernel
theorem dX10_at_21 : decode cX10_at 21 = .ok (.aload_n 0, 1) := by decide +kernel
theorem dX10_at_22 : decode cX10_at 22 = .ok (.getfield 80, 3) := by decide +kernel
theorem dX10_at_25 : decode cX10_at 25 = .ok (.iload_n 1, 1) := by decide +kernel
theorem dX10_at_26 : decode cX10_at 26 = .ok (.iaload, 1) := by decide +kernel
theorem dX10_at_27 : decode cX10_at 27 = .ok (.iconst 5, 1) := by decide +kernel
theorem dX10_at_28 : decode cX10_at 28 = .ok (.if_icmp .eq 19, 3) := by decide +kernel
theorem dX10_at_31 : decode cX10_at 31 = .ok (.iload_n 2, 1) := by decide +kernel
theorem dX10_at_32 : decode cX10_at 32 = .ok (.iconst 0, 1) := by decide +kernel
theorem dX10_at_33 : decode cX10_at 33 = .ok (.aload_n 0, 1) := by decide +kernel
theorem dX10_at_34 : decode cX10_at 34 = .ok (.getfield 83, 3) := by decide +kernel
theorem dX10_at_37 : decode cX10_at 37 = .ok (.iload_n 1, 1) := by decide +kernel
theorem dX10_at_38 : decode cX10_at 38 = .ok (.iaload, 1) := by decide +kernel
theorem dX10_at_39 : decode cX10_at 39 = .ok (.iconst 1, 1) := by decide +kernel
theorem dX10_at_40 : decode cX10_at 40 = .ok (.isub, 1) := by decide +kernel
theorem dX10_at_41 : decode cX10_at 41 = .ok (.invokestatic 137, 3) := by decide +kernel
theorem dX10_at_44 : decode cX10_at 44 = .ok (.ifCond .ne 7, 3) := by decide +kernel
theorem dX10_at_47 : decode cX10_at 47 = .ok (.iconst 2, 1) := by decide +kernel
theorem dX10_at_48 : decode cX10_at 48 = .ok (.goto 4, 3) := by decide +kernel
theorem dX10_at_51 : decode cX10_at 51 = .ok (.iconst 0, 1) := by decide +kernel
theorem dX10_at_52 : decode cX10_at 52 = .ok (.putfield 98, 3) := by decide +kernel
theorem dX10_at_55 : decode cX10_at 55 = .ok (.aload_n 0, 1) := by decide +kernel
theorem dX10_at_56 : decode cX10_at 56 = .ok (.getfield 98, 3) := by decide +kernel
theorem dX10_at_59 : decode cX10_at 59 = .ok (.ifCond .le 7, 3) := by decide +kernel
theorem dX10_at_62 : decode cX10_at 62 = .ok (.lconst 0, 1) := by decide +kernel
theorem dX10_at_63 : decode cX10_at 63 = .ok (.goto 14, 3) := by decide +kernel
theorem dX10_at_66 : decode cX10_at 66 = .ok (.aload_n 0, 1) := by decide +kernel
theorem dX10_at_67 : decode cX10_at 67 = .ok (.getfield 89, 3) := by decide +kernel
theorem dX10_at_70 : decode cX10_at 70 = .ok (.bipush 100, 2) := by decide +kernel
theorem dX10_at_72 : decode cX10_at 72 = .ok (.iload_n 1, 1) := by decide +kernel
theorem dX10_at_73 : decode cX10_at 73 = .ok (.imul, 1) := by decide +kernel
theorem dX10_at_74 : decode cX10_at 74 = .ok (.iload_n 2, 1) := by decide +kernel
theorem dX10_at_75 : decode cX10_at 75 = .ok (.iadd, 1) := by decide +kernel
theorem dX10_at_76 : decode cX10_at 76 = .ok (.laload, 1) := by decide +kernel
theorem dX10_at_77 : decode cX10_at 77 = .ok (.lreturn, 1) := by decide +kernel
theorem dX10_copy_0 : decode cX10_copy 0 = .ok (.iload_n 1, 1) := by decide +kernel
theorem dX10_copy_1 : decode cX10_copy 1 = .ok (.invokestatic 290, 3) := by decide +kernel
theorem dX10_copy_4 : decode cX10_copy 4 = .ok (.ifCond .eq 10, 3) := by decide +kernel
theorem dX10_copy_7 : decode cX10_copy 7 = .ok (.iload_n 3, 1) := by decide +kernel
theorem dX10_copy_8 : decode cX10_copy 8 = .ok (.invokestatic 290, 3) := by decide +kernel
theorem dX10_copy_11 : decode cX10_copy 11 = .ok (.ifCond .ne 5, 3) := by decide +kernel
theorem dX10_copy_14 : decode cX10_copy 14 = .ok (.iconst (-1), 1) := by decide +kernel
theorem dX10_copy_15 : decode cX10_copy 15 = .ok (.ireturn, 1) := by decide +kernel
theorem dX10_copy_16 : decode cX10_copy 16 = .ok (.aload_n 0, 1) := by decide +kernel
theorem dX10_copy_17 : decode cX10_copy 17 = .ok (.getfield 80, 3) := by decide +kernel
theorem dX10_copy_20 : decode cX10_copy 20 = .ok (.iload_n 1, 1) := by decide +kernel
theorem dX10_copy_21 : decode cX10_copy 21 = .ok (.iaload, 1) := by decide +kernel
theorem dX10_copy_22 : decode cX10_copy 22 = .ok (.ifCond .eq 12, 3) := by decide +kernel
