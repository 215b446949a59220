theorem dX9_play_82 : decode cX9_play 82 = .ok (.iload 4, 2) := by decide +kernel
theorem dX9_play_84 : decode cX9_play 84 = .ok (.aload 6, 2) := by decide +kernel
theorem dX9_play_86 : decode cX9_play 86 = .ok (.getfield 389, 3) := by decide +kernel
theorem dX9_play_89 : decode cX9_play 89 = .ok (.iload 8, 2) := by decide +kernel
theorem dX9_play_91 : decode cX9_play 91 = .ok (.laload, 1) := by decide +kernel
theorem dX9_play_92 : decode cX9_play 92 = .ok (.invokevirtual 171, 3) := by decide +kernel
theorem dX9_play_95 : decode cX9_play 95 = .ok (.ifCond .ge 6, 3) := by decide +kernel
theorem dX9_play_98 : decode cX9_play 98 = .ok (.iload 7, 2) := by decide +kernel
theorem dX9_play_100 : decode cX9_play 100 = .ok (.ireturn, 1) := by decide +kernel
theorem dX9_play_101 : decode cX9_play 101 = .ok (.iinc 7 1, 3) := by decide +kernel
theorem dX9_play_104 : decode cX9_play 104 = .ok (.goto (-52), 3) := by decide +kernel
theorem dX9_play_107 : decode cX9_play 107 = .ok (.iload_n 3, 1) := by decide +kernel
theorem dX9_play_108 : decode cX9_play 108 = .ok (.ireturn, 1) := by decide +kernel
theorem dX9_kept_0 : decode cX9_kept 0 = .ok (.aload_n 0, 1) := by decide +kernel
theorem dX9_kept_1 : decode cX9_kept 1 = .ok (.iload_n 1, 1) := by decide +kernel
theorem dX9_kept_2 : decode cX9_kept 2 = .ok (.iconst 5, 1) := by decide +kernel
theorem dX9_kept_3 : decode cX9_kept 3 = .ok (.iconst 5, 1) := by decide +kernel
theorem dX9_kept_4 : decode cX9_kept 4 = .ok (.invokevirtual 382, 3) := by decide +kernel
theorem dX9_kept_7 : decode cX9_kept 7 = .ok (.istore_n 3, 1) := by decide +kernel
theorem dX9_kept_8 : decode cX9_kept 8 = .ok (.iload_n 3, 1) := by decide +kernel
theorem dX9_kept_9 : decode cX9_kept 9 = .ok (.ifCond .ge 5, 3) := by decide +kernel
theorem dX9_kept_12 : decode cX9_kept 12 = .ok (.iload_n 3, 1) := by decide +kernel
theorem dX9_kept_13 : decode cX9_kept 13 = .ok (.ireturn, 1) := by decide +kernel
theorem dX9_kept_14 : decode cX9_kept 14 = .ok (.aload_n 0, 1) := by decide +kernel
theorem dX9_kept_15 : decode cX9_kept 15 = .ok (.getfield 60, 3) := by decide +kernel
theorem dX9_kept_18 : decode cX9_kept 18 = .ok (.iload_n 1, 1) := by decide +kernel
theorem dX9_kept_19 : decode cX9_kept 19 = .ok (.aaload, 1) := by decide +kernel
theorem dX9_kept_20 : decode cX9_kept 20 = .ok (.astore 4, 2) := by decide +kernel
theorem dX9_kept_22 : decode cX9_kept 22 = .ok (.aload 4, 2) := by decide +kernel
theorem dX9_kept_24 : decode cX9_kept 24 = .ok (.iload_n 2, 1) := by decide +kernel
theorem dX9_kept_25 : decode cX9_kept 25 = .ok (.invokevirtual 386, 3) := by decide +kernel
theorem dX9_kept_28 : decode cX9_kept 28 = .ok (.ifCond .ne 10, 3) := by decide +kernel
theorem dX9_kept_31 : decode cX9_kept 31 = .ok (.aload_n 0, 1) := by decide +kernel
theorem dX9_kept_32 : decode cX9_kept 32 = .ok (.bipush (-13), 2) := by decide +kernel
theorem dX9_kept_34 : decode cX9_kept 34 = .ok (.invokevirtual 369, 3) := by decide +kernel
theorem dX9_kept_37 : decode cX9_kept 37 = .ok (.ireturn, 1) := by decide +kernel
theorem dX9_kept_38 : decode cX9_kept 38 = .ok (.aload 4, 2) := by decide +kernel
theorem dX9_kept_40 : decode cX9_kept 40 = .ok (.getfield 421, 3) := by decide +kernel
theorem dX9_kept_43 : decode cX9_kept 43 = .ok (.iload_n 2, 1) := by decide +kernel
theorem dX9_kept_44 : decode cX9_kept 44 = .ok (.iaload, 1) := by decide +kernel
theorem dX9_kept_45 : decode cX9_kept 45 = .ok (.ireturn, 1) := by decide +kernel
theorem dX9_toss_0 : decode cX9_toss 0 = .ok (.aload_n 0, 1) := by decide +kernel
theorem dX9_toss_1 : decode cX9_toss 1 = .ok (.iload_n 1, 1) := by decide +kernel
theorem dX9_toss_2 : decode cX9_toss 2 = .ok (.iconst 5, 1) := by decide +kernel
theorem dX9_toss_3 : decode cX9_toss 3 = .ok (.iconst 5, 1) := by decide +kernel
theorem dX9_toss_4 : decode cX9_toss 4 = .ok (.invokevirtual 382, 3) := by decide +kernel
theorem dX9_toss_7 : decode cX9_toss 7 = .ok (.istore_n 2, 1) := by decide +kernel
theorem dX9_toss_8 : decode cX9_toss 8 = .ok (.iload_n 2, 1) := by decide +kernel
theorem dX9_toss_9 : decode cX9_toss 9 = .ok (.ifCond .ge 5, 3) := by decide +kernel
theorem dX9_toss_12 : decode cX9_toss 12 = .ok (.iload_n 2, 1) := by decide +kernel
theorem dX9_toss_13 : decode cX9_toss 13 = .ok (.ireturn, 1) := by decide +kernel
theorem dX9_toss_14 : decode cX9_toss 14 = .ok (.aload_n 0, 1) := by decide +kernel
theorem dX9_toss_15 : decode cX9_toss 15 = .ok (.getfield 60, 3) := by decide +kernel
theorem dX9_toss_18 : decode cX9_toss 18 = .ok (.iload_n 1, 1) := by decide +kernel
theorem dX9_toss_19 : decode cX9_toss 19 = .ok (.aaload, 1) := by decide +kernel
theorem dX9_toss_20 : decode cX9_toss 20 = .ok (.astore_n 3, 1) := by decide +kernel
theorem dX9_toss_21 : decode cX9_toss 21 = .ok (.aload_n 3, 1) := by decide +kernel
theorem dX9_toss_22 : decode cX9_toss 22 = .ok (.invokevirtual 424, 3) := by decide +kernel
theorem dX9_toss_25 : decode cX9_toss 25 = .ok (.goto 10, 3) := by decide +kernel
theorem dX9_toss_28 : decode cX9_toss 28 = .ok (.astore 4, 2) := by decide +kernel
theorem dX9_toss_30 : decode cX9_toss 30 = .ok (.aload_n 3, 1) := by decide +kernel
theorem dX9_toss_31 : decode cX9_toss 31 = .ok (.getfield 379, 3) := by decide +kernel
theorem dX9_toss_34 : decode cX9_toss 34 = .ok (.ireturn, 1) := by decide +kernel
theorem dX9_toss_35 : decode cX9_toss 35 = .ok (.aload_n 0, 1) := by decide +kernel
theorem dX9_toss_36 : decode cX9_toss 36 = .ok (.bipush (-15), 2) := by decide +kernel
theorem dX9_toss_38 : decode cX9_toss 38 = .ok (.invokevirtual 369, 3) := by decide +kernel
theorem dX9_toss_41 : decode cX9_toss 41 = .ok (.ireturn, 1) := by decide +kernel
theorem dX10_init_0 : decode cX10_init 0 = .ok (.aload_n 0, 1) := by decide +kernel
theorem dX10_init_1 : decode cX10_init 1 = .ok (.invokespecial 1, 3) := by decide +kernel
theorem dX10_init_4 : decode cX10_init 4 = .ok (.aload_n 0, 1) := by decide +kernel
theorem dX10_init_5 : decode cX10_init 5 = .ok (.bipush 7, 2) := by decide +kernel
theorem dX10_init_7 : decode cX10_init 7 = .ok (.putfield 7, 3) := by decide +kernel
theorem dX10_init_10 : decode cX10_init 10 = .ok (.aload_n 0, 1) := by decide +kernel
theorem dX10_init_11 : decode cX10_init 11 = .ok (.bipush 7, 2) := by decide +kernel
theorem dX10_init_13 : decode cX10_init 13 = .ok (.putfield 13, 3) := by decide +kernel
theorem dX10_init_16 : decode cX10_init 16 = .ok (.aload_n 0, 1) := by decide +kernel
theorem dX10_init_17 : decode cX10_init 17 = .ok (.iconst 2, 1) := by decide +kernel
theorem dX10_init_18 : decode cX10_init 18 = .ok (.putfield 16, 3) := by decide +kernel
theorem dX10_init_21 : decode cX10_init 21 = .ok (.aload_n 0, 1) := by decide +kernel
theorem dX10_init_22 : decode cX10_init 22 = .ok (.bipush 100, 2) := by decide +kernel
theorem dX10_init_24 : decode cX10_init 24 = .ok (.newarray .int, 2) := by decide +kernel
theorem dX10_init_26 : decode cX10_init 26 = .ok (.putfield 19, 3) := by decide +kernel
theorem dX10_init_29 : decode cX10_init 29 = .ok (.aload_n 0, 1) := by decide +kernel
theorem dX10_init_30 : decode cX10_init 30 = .ok (.bipush 100, 2) := by decide +kernel
theorem dX10_init_32 : decode cX10_init 32 = .ok (.newarray .int, 2) := by decide +kernel
theorem dX10_init_34 : decode cX10_init 34 = .ok (.putfield 23, 3) := by decide +kernel
theorem dX10_init_37 : decode cX10_init 37 = .ok (.aload_n 0, 1) := by decide +kernel
theorem dX10_init_38 : decode cX10_init 38 = .ok (.bipush 8, 2) := by decide +kernel
theorem dX10_init_40 : decode cX10_init 40 = .ok (.newarray .int, 2) := by decide +kernel
theorem dX10_init_42 : decode cX10_init 42 = .ok (.putfield 26, 3) := by decide +kernel
theorem dX10_init_45 : decode cX10_init 45 = .ok (.aload_n 0, 1) := by decide +kernel
theorem dX10_init_46 : decode cX10_init 46 = .ok (.bipush 16, 2) := by decide +kernel
theorem dX10_init_48 : decode cX10_init 48 = .ok (.newarray .int, 2) := by decide +kernel
theorem dX10_init_50 : decode cX10_init 50 = .ok (.putfield 29, 3) := by decide +kernel
theorem dX10_init_53 : decode cX10_init 53 = .ok (.aload_n 0, 1) := by decide +kernel
theorem dX10_init_54 : decode cX10_init 54 = .ok (.iconst 4, 1) := by decide +kernel
theorem dX10_init_55 : decode cX10_init 55 = .ok (.putfield 32, 3) := by decide +kernel
theorem dX10_init_58 : decode cX10_init 58 = .ok (.aload_n 0, 1) := by decide +kernel
theorem dX10_init_59 : decode cX10_init 59 = .ok (.sipush 1048, 3) := by decide +kernel
theorem dX10_init_62 : decode cX10_init 62 = .ok (.putfield 35, 3) := by decide +kernel
theorem dX10_init_65 : decode cX10_init 65 = .ok (.aload_n 0, 1) := by decide +kernel
theorem dX10_init_66 : decode cX10_init 66 = .ok (.ldc 38, 2) := by decide +kernel
theorem dX10_init_68 : decode cX10_init 68 = .ok (.newarray .int, 2) := by decide +kernel
theorem dX10_init_70 : decode cX10_init 70 = .ok (.putfield 39, 3) := by decide +kernel
theorem dX10_init_73 : decode cX10_init 73 = .ok (.aload_n 0, 1) := by decide +kernel
theorem dX10_init_74 : decode cX10_init 74 = .ok (.sipush 2000, 3) := by decide +kernel
theorem dX10_init_77 : decode cX10_init 77 = .ok (.newarray .int, 2) := by decide +kernel
theorem dX10_init_79 : decode cX10_init 79 = .ok (.putfield 42, 3) := by decide +kernel
theorem dX10_init_82 : decode cX10_init 82 = .ok (.aload_n 0, 1) := by decide +kernel
theorem dX10_init_83 : decode cX10_init 83 = .ok (.sipush 2000, 3) := by decide +kernel
theorem dX10_init_86 : decode cX10_init 86 = .ok (.newarray .boolean, 2) := by decide +kernel
theorem dX10_init_88 : decode cX10_init 88 = .ok (.putfield 45, 3) := by decide +kernel
theorem dX10_init_91 : decode cX10_init 91 = .ok (.aload_n 0, 1) := by decide +kernel
theorem dX10_init_92 : decode cX10_init 92 = .ok (.sipush 2000, 3) := by decide +kernel
theorem dX10_init_95 : decode cX10_init 95 = .ok (.newarray .int, 2) := by decide +kernel
theorem dX10_init_97 : decode cX10_init 97 = .ok (.putfield 49, 3) := by decide +kernel
theorem dX10_init_100 : decode cX10_init 100 = .ok (.aload_n 0, 1) := by decide +kernel
theorem dX10_init_101 : decode cX10_init 101 = .ok (.iconst 4, 1) := by decide +kernel
theorem dX10_init_102 : decode cX10_init 102 = .ok (.newarray .int, 2) := by decide +kernel
theorem dX10_init_104 : decode cX10_init 104 = .ok (.putfield 52, 3) := by decide +kernel
theorem dX10_init_107 : decode cX10_init 107 = .ok (.aload_n 0, 1) := by decide +kernel
theorem dX10_init_108 : decode cX10_init 108 = .ok (.sipush 256, 3) := by decide +kernel
theorem dX10_init_111 : decode cX10_init 111 = .ok (.newarray .int, 2) := by decide +kernel
theorem dX10_init_113 : decode cX10_init 113 = .ok (.putfield 55, 3) := by decide +kernel
theorem dX10_init_116 : decode cX10_init 116 = .ok (.aload_n 0, 1) := by decide +kernel
theorem dX10_init_117 : decode cX10_init 117 = .ok (.sipush 2000, 3) := by decide +kernel
theorem dX10_init_120 : decode cX10_init 120 = .ok (.newarray .int, 2) := by decide +kernel
theorem dX10_init_122 : decode cX10_init 122 = .ok (.putfield 58, 3) := by decide +kernel
theorem dX10_init_125 : decode cX10_init 125 = .ok (.aload_n 0, 1) := by decide +kernel
theorem dX10_init_126 : decode cX10_init 126 = .ok (.bipush 8, 2) := by decide +kernel
theorem dX10_init_128 : decode cX10_init 128 = .ok (.newarray .int, 2) := by decide +kernel
theorem dX10_init_130 : decode cX10_init 130 = .ok (.putfield 61, 3) := by decide +kernel
theorem dX10_init_133 : decode cX10_init 133 = .ok (.aload_n 0, 1) := by decide +kernel
theorem dX10_init_134 : decode cX10_init 134 = .ok (.bipush 8, 2) := by decide +kernel
theorem dX10_init_136 : decode cX10_init 136 = .ok (.newarray .int, 2) := by decide +kernel
theorem dX10_init_138 : decode cX10_init 138 = .ok (.putfield 64, 3) := by decide +kernel
theorem dX10_init_141 : decode cX10_init 141 = .ok (.aload_n 0, 1) := by decide +kernel
theorem dX10_init_142 : decode cX10_init 142 = .ok (.bipush 8, 2) := by decide +kernel
theorem dX10_init_144 : decode cX10_init 144 = .ok (.newarray .int, 2) := by decide +kernel
theorem dX10_init_146 : decode cX10_init 146 = .ok (.putfield 67, 3) := by decide +kernel
theorem dX10_init_149 : decode cX10_init 149 = .ok (.aload_n 0, 1) := by decide +kernel
theorem dX10_init_150 : decode cX10_init 150 = .ok (.sipush 520, 3) := by decide +kernel
theorem dX10_init_153 : decode cX10_init 153 = .ok (.newarray .long, 2) := by decide +kernel
theorem dX10_init_155 : decode cX10_init 155 = .ok (.putfield 70, 3) := by decide +kernel
theorem dX10_init_158 : decode cX10_init 158 = .ok (.aload_n 0, 1) := by decide +kernel
theorem dX10_init_159 : decode cX10_init 159 = .ok (.iconst 4, 1) := by decide +kernel
theorem dX10_init_160 : decode cX10_init 160 = .ok (.newarray .int, 2) := by decide +kernel
theorem dX10_init_162 : decode cX10_init 162 = .ok (.putfield 74, 3) := by decide +kernel
theorem dX10_init_165 : decode cX10_init 165 = .ok (.aload_n 0, 1) := by decide +kernel
theorem dX10_init_166 : decode cX10_init 166 = .ok (.iconst 4, 1) := by decide +kernel
theorem dX10_init_167 : decode cX10_init 167 = .ok (.newarray .int, 2) := by decide +kernel
theorem dX10_init_169 : decode cX10_init 169 = .ok (.putfield 77, 3) := by decide +kernel
theorem dX10_init_172 : decode cX10_init 172 = .ok (.aload_n 0, 1) := by decide +kernel
theorem dX10_init_173 : decode cX10_init 173 = .ok (.bipush 6, 2) := by decide +kernel
theorem dX10_init_175 : decode cX10_init 175 = .ok (.newarray .int, 2) := by decide +kernel
theorem dX10_init_177 : decode cX10_init 177 = .ok (.putfield 80, 3) := by decide +kernel
theorem dX10_init_180 : decode cX10_init 180 = .ok (.aload_n 0, 1) := by decide +kernel
theorem dX10_init_181 : decode cX10_init 181 = .ok (.bipush 6, 2) := by decide +kernel
theorem dX10_init_183 : decode cX10_init 183 = .ok (.newarray .int, 2) := by decide +kernel
theorem dX10_init_185 : decode cX10_init 185 = .ok (.putfield 83, 3) := by decide +kernel
theorem dX10_init_188 : decode cX10_init 188 = .ok (.aload_n 0, 1) := by decide +kernel
theorem dX10_init_189 : decode cX10_init 189 = .ok (.bipush 6, 2) := by decide +kernel
theorem dX10_init_191 : decode cX10_init 191 = .ok (.newarray .int, 2) := by decide +kernel
theorem dX10_init_193 : decode cX10_init 193 = .ok (.putfield 86, 3) := by decide +kernel
theorem dX10_init_196 : decode cX10_init 196 = .ok (.aload_n 0, 1) := by decide +kernel
theorem dX10_init_197 : decode cX10_init 197 = .ok (.sipush 600, 3) := by decide +kernel
theorem dX10_init_200 : decode cX10_init 200 = .ok (.newarray .long, 2) := by decide +kernel
theorem dX10_init_202 : decode cX10_init 202 = .ok (.putfield 89, 3) := by decide +kernel
theorem dX10_init_205 : decode cX10_init 205 = .ok (.aload_n 0, 1) := by decide +kernel
theorem dX10_init_206 : decode cX10_init 206 = .ok (.bipush 100, 2) := by decide +kernel
theorem dX10_init_208 : decode cX10_init 208 = .ok (.newarray .long, 2) := by decide +kernel
theorem dX10_init_210 : decode cX10_init 210 = .ok (.putfield 92, 3) := by decide +kernel
theorem dX10_init_213 : decode cX10_init 213 = .ok (.aload_n 0, 1) := by decide +kernel
theorem dX10_init_214 : decode cX10_init 214 = .ok (.invokevirtual 95, 3) := by decide +kernel
theorem dX10_init_217 : decode cX10_init 217 = .ok (.return_, 1) := by decide +kernel
theorem dX10_thrown_0 : decode cX10_thrown 0 = .ok (.aload_n 0, 1) := by decide +kernel
theorem dX10_thrown_1 : decode cX10_thrown 1 = .ok (.getfield 98, 3) := by decide +kernel
theorem dX10_thrown_4 : decode cX10_thrown 4 = .ok (.ireturn, 1) := by decide +kernel
theorem dX10_in_0 : decode cX10_in 0 = .ok (.iload_n 0, 1) := by decide +kernel
theorem dX10_in_1 : decode cX10_in 1 = .ok (.iload_n 1, 1) := by decide +kernel
theorem dX10_in_2 : decode cX10_in 2 = .ok (.if_icmp .lt 12, 3) := by decide +kernel
theorem dX10_in_5 : decode cX10_in 5 = .ok (.iload_n 0, 1) := by decide +kernel
theorem dX10_in_6 : decode cX10_in 6 = .ok (.iload_n 2, 1) := by decide +kernel
theorem dX10_in_7 : decode cX10_in 7 = .ok (.if_icmp .gt 7, 3) := by decide +kernel
theorem dX10_in_10 : decode cX10_in 10 = .ok (.iconst 1, 1) := by decide +kernel
theorem dX10_in_11 : decode cX10_in 11 = .ok (.goto 4, 3) := by decide +kernel
theorem dX10_in_14 : decode cX10_in 14 = .ok (.iconst 0, 1) := by decide +kernel
theorem dX10_in_15 : decode cX10_in 15 = .ok (.ireturn, 1) := by decide +kernel
theorem dX10_host_0 : decode cX10_host 0 = .ok (.aload_n 0, 1) := by decide +kernel
theorem dX10_host_1 : decode cX10_host 1 = .ok (.dup, 1) := by decide +kernel
theorem dX10_host_2 : decode cX10_host 2 = .ok (.getfield 101, 3) := by decide +kernel
theorem dX10_host_5 : decode cX10_host 5 = .ok (.iconst 1, 1) := by decide +kernel
theorem dX10_host_6 : decode cX10_host 6 = .ok (.iadd, 1) := by decide +kernel
theorem dX10_host_7 : decode cX10_host 7 = .ok (.putfield 101, 3) := by decide +kernel
theorem dX10_host_10 : decode cX10_host 10 = .ok (.iload_n 1, 1) := by decide +kernel
theorem dX10_host_11 : decode cX10_host 11 = .ok (.ireturn, 1) := by decide +kernel
theorem dX10_floorOf_0 : decode cX10_floorOf 0 = .ok (.iload_n 0, 1) := by decide +kernel
theorem dX10_floorOf_1 : decode cX10_floorOf 1 = .ok (.iload_n 1, 1) := by decide +kernel
theorem dX10_floorOf_2 : decode cX10_floorOf 2 = .ok (.idiv, 1) := by decide +kernel
theorem dX10_floorOf_3 : decode cX10_floorOf 3 = .ok (.istore_n 2, 1) := by decide +kernel
theorem dX10_floorOf_4 : decode cX10_floorOf 4 = .ok (.iload_n 0, 1) := by decide +kernel
theorem dX10_floorOf_5 : decode cX10_floorOf 5 = .ok (.iload_n 1, 1) := by decide +kernel
theorem dX10_floorOf_6 : decode cX10_floorOf 6 = .ok (.irem, 1) := by decide +kernel
theorem dX10_floorOf_7 : decode cX10_floorOf 7 = .ok (.ifCond .eq 13, 3) := by decide +kernel
theorem dX10_floorOf_10 : decode cX10_floorOf 10 = .ok (.iload_n 0, 1) := by decide +kernel
theorem dX10_floorOf_11 : decode cX10_floorOf 11 = .ok (.ifCond .ge 9, 3) := by decide +kernel
theorem dX10_floorOf_14 : decode cX10_floorOf 14 = .ok (.iload_n 2, 1) := by decide +kernel
theorem dX10_floorOf_15 : decode cX10_floorOf 15 = .ok (.iconst 1, 1) := by decide +kernel
theorem dX10_floorOf_16 : decode cX10_floorOf 16 = .ok (.isub, 1) := by decide +kernel
theorem dX10_floorOf_17 : decode cX10_floorOf 17 = .ok (.goto 4, 3) := by decide +kernel
theorem dX10_floorOf_20 : decode cX10_floorOf 20 = .ok (.iload_n 2, 1) := by decide +kernel
theorem dX10_floorOf_21 : decode cX10_floorOf 21 = .ok (.ireturn, 1) := by decide +kernel
theorem dX10_fresh_0 : decode cX10_fresh 0 = .ok (.iconst 0, 1) := by decide +kernel
theorem dX10_fresh_1 : decode cX10_fresh 1 = .ok (.istore_n 1, 1) := by decide +kernel
theorem dX10_fresh_2 : decode cX10_fresh 2 = .ok (.iload_n 1, 1) := by decide +kernel
theorem dX10_fresh_3 : decode cX10_fresh 3 = .ok (.bipush 100, 2) := by decide +kernel
theorem dX10_fresh_5 : decode cX10_fresh 5 = .ok (.if_icmp .ge 16, 3) := by decide +kernel
theorem dX10_fresh_8 : decode cX10_fresh 8 = .ok (.aload_n 0, 1) := by decide +kernel
theorem dX10_fresh_9 : decode cX10_fresh 9 = .ok (.getfield 19, 3) := by decide +kernel
theorem dX10_fresh_12 : decode cX10_fresh 12 = .ok (.iload_n 1, 1) := by decide +kernel
theorem dX10_fresh_13 : decode cX10_fresh 13 = .ok (.iconst 0, 1) := by decide +kernel
theorem dX10_fresh_14 : decode cX10_fresh 14 = .ok (.iastore, 1) := by decide +kernel
theorem dX10_fresh_15 : decode cX10_fresh 15 = .ok (.iinc 1 1, 3) := by decide +kernel
theorem dX10_fresh_18 : decode cX10_fresh 18 = .ok (.goto (-16), 3) := by decide +kernel
theorem dX10_fresh_21 : decode cX10_fresh 21 = .ok (.aload_n 0, 1) := by decide +kernel
theorem dX10_fresh_22 : decode cX10_fresh 22 = .ok (.iconst 0, 1) := by decide +kernel
theorem dX10_fresh_23 : decode cX10_fresh 23 = .ok (.putfield 104, 3) := by decide +kernel
theorem dX10_fresh_26 : decode cX10_fresh 26 = .ok (.aload_n 0, 1) := by decide +kernel
theorem dX10_fresh_27 : decode cX10_fresh 27 = .ok (.iconst 0, 1) := by decide +kernel
theorem dX10_fresh_28 : decode cX10_fresh 28 = .ok (.putfield 107, 3) := by decide +kernel
theorem dX10_fresh_31 : decode cX10_fresh 31 = .ok (.aload_n 0, 1) := by decide +kernel
theorem dX10_fresh_32 : decode cX10_fresh 32 = .ok (.iconst 0, 1) := by decide +kernel
theorem dX10_fresh_33 : decode cX10_fresh 33 = .ok (.putfield 110, 3) := by decide +kernel
theorem dX10_fresh_36 : decode cX10_fresh 36 = .ok (.aload_n 0, 1) := by decide +kernel
theorem dX10_fresh_37 : decode cX10_fresh 37 = .ok (.iconst 4, 1) := by decide +kernel
theorem dX10_fresh_38 : decode cX10_fresh 38 = .ok (.putfield 32, 3) := by decide +kernel
theorem dX10_fresh_41 : decode cX10_fresh 41 = .ok (.aload_n 0, 1) := by decide +kernel
theorem dX10_fresh_42 : decode cX10_fresh 42 = .ok (.sipush 1048, 3) := by decide +kernel
theorem dX10_fresh_45 : decode cX10_fresh 45 = .ok (.putfield 35, 3) := by decide +kernel
theorem dX10_fresh_48 : decode cX10_fresh 48 = .ok (.iconst 0, 1) := by decide +kernel
theorem dX10_fresh_49 : decode cX10_fresh 49 = .ok (.istore_n 1, 1) := by decide +kernel
theorem dX10_fresh_50 : decode cX10_fresh 50 = .ok (.iload_n 1, 1) := by decide +kernel
theorem dX10_fresh_51 : decode cX10_fresh 51 = .ok (.sipush 2000, 3) := by decide +kernel
theorem dX10_fresh_54 : decode cX10_fresh 54 = .ok (.if_icmp .ge 32, 3) := by decide +kernel
theorem dX10_fresh_57 : decode cX10_fresh 57 = .ok (.aload_n 0, 1) := by decide +kernel
theorem dX10_fresh_58 : decode cX10_fresh 58 = .ok (.getfield 42, 3) := by decide +kernel
theorem dX10_fresh_61 : decode cX10_fresh 61 = .ok (.iload_n 1, 1) := by decide +kernel
theorem dX10_fresh_62 : decode cX10_fresh 62 = .ok (.sipush 4096, 3) := by decide +kernel
theorem dX10_fresh_65 : decode cX10_fresh 65 = .ok (.iastore, 1) := by decide +kernel
theorem dX10_fresh_66 : decode cX10_fresh 66 = .ok (.aload_n 0, 1) := by decide +kernel
theorem dX10_fresh_67 : decode cX10_fresh 67 = .ok (.getfield 45, 3) := by decide +kernel
theorem dX10_fresh_70 : decode cX10_fresh 70 = .ok (.iload_n 1, 1) := by decide +kernel
theorem dX10_fresh_71 : decode cX10_fresh 71 = .ok (.iconst 0, 1) := by decide +kernel
theorem dX10_fresh_72 : decode cX10_fresh 72 = .ok (.bastore, 1) := by decide +kernel
theorem dX10_fresh_73 : decode cX10_fresh 73 = .ok (.aload_n 0, 1) := by decide +kernel
theorem dX10_fresh_74 : decode cX10_fresh 74 = .ok (.getfield 49, 3) := by decide +kernel
theorem dX10_fresh_77 : decode cX10_fresh 77 = .ok (.iload_n 1, 1) := by decide +kernel
theorem dX10_fresh_78 : decode cX10_fresh 78 = .ok (.iconst 0, 1) := by decide +kernel
theorem dX10_fresh_79 : decode cX10_fresh 79 = .ok (.iastore, 1) := by decide +kernel
theorem dX10_fresh_80 : decode cX10_fresh 80 = .ok (.iinc 1 1, 3) := by decide +kernel
theorem dX10_fresh_83 : decode cX10_fresh 83 = .ok (.goto (-33), 3) := by decide +kernel
theorem dX10_fresh_86 : decode cX10_fresh 86 = .ok (.iconst 0, 1) := by decide +kernel
theorem dX10_fresh_87 : decode cX10_fresh 87 = .ok (.istore_n 1, 1) := by decide +kernel
theorem dX10_fresh_88 : decode cX10_fresh 88 = .ok (.iload_n 1, 1) := by decide +kernel
theorem dX10_fresh_89 : decode cX10_fresh 89 = .ok (.bipush 112, 2) := by decide +kernel
theorem dX10_fresh_91 : decode cX10_fresh 91 = .ok (.if_icmp .ge 16, 3) := by decide +kernel
theorem dX10_fresh_94 : decode cX10_fresh 94 = .ok (.aload_n 0, 1) := by decide +kernel
theorem dX10_fresh_95 : decode cX10_fresh 95 = .ok (.getfield 39, 3) := by decide +kernel
theorem dX10_fresh_98 : decode cX10_fresh 98 = .ok (.iload_n 1, 1) := by decide +kernel
theorem dX10_fresh_99 : decode cX10_fresh 99 = .ok (.iconst 0, 1) := by decide +kernel
theorem dX10_fresh_100 : decode cX10_fresh 100 = .ok (.iastore, 1) := by decide +kernel
theorem dX10_fresh_101 : decode cX10_fresh 101 = .ok (.iinc 1 1, 3) := by decide +kernel
theorem dX10_fresh_104 : decode cX10_fresh 104 = .ok (.goto (-16), 3) := by decide +kernel
theorem dX10_fresh_107 : decode cX10_fresh 107 = .ok (.iconst 0, 1) := by decide +kernel
theorem dX10_fresh_108 : decode cX10_fresh 108 = .ok (.istore_n 1, 1) := by decide +kernel
theorem dX10_fresh_109 : decode cX10_fresh 109 = .ok (.iload_n 1, 1) := by decide +kernel
theorem dX10_fresh_110 : decode cX10_fresh 110 = .ok (.iconst 4, 1) := by decide +kernel
theorem dX10_fresh_111 : decode cX10_fresh 111 = .ok (.if_icmp .ge 30, 3) := by decide +kernel
theorem dX10_fresh_114 : decode cX10_fresh 114 = .ok (.aload_n 0, 1) := by decide +kernel
theorem dX10_fresh_115 : decode cX10_fresh 115 = .ok (.getfield 52, 3) := by decide +kernel
theorem dX10_fresh_118 : decode cX10_fresh 118 = .ok (.iload_n 1, 1) := by decide +kernel
theorem dX10_fresh_119 : decode cX10_fresh 119 = .ok (.iconst 0, 1) := by decide +kernel
theorem dX10_fresh_120 : decode cX10_fresh 120 = .ok (.iastore, 1) := by decide +kernel
theorem dX10_fresh_121 : decode cX10_fresh 121 = .ok (.aload_n 0, 1) := by decide +kernel
theorem dX10_fresh_122 : decode cX10_fresh 122 = .ok (.getfield 74, 3) := by decide +kernel
theorem dX10_fresh_125 : decode cX10_fresh 125 = .ok (.iload_n 1, 1) := by decide +kernel
theorem dX10_fresh_126 : decode cX10_fresh 126 = .ok (.iconst (-1), 1) := by decide +kernel
theorem dX10_fresh_127 : decode cX10_fresh 127 = .ok (.iastore, 1) := by decide +kernel
theorem dX10_fresh_128 : decode cX10_fresh 128 = .ok (.aload_n 0, 1) := by decide +kernel
theorem dX10_fresh_129 : decode cX10_fresh 129 = .ok (.getfield 77, 3) := by decide +kernel
theorem dX10_fresh_132 : decode cX10_fresh 132 = .ok (.iload_n 1, 1) := by decide +kernel
theorem dX10_fresh_133 : decode cX10_fresh 133 = .ok (.iconst (-1), 1) := by decide +kernel
theorem dX10_fresh_134 : decode cX10_fresh 134 = .ok (.iastore, 1) := by decide +kernel
theorem dX10_fresh_135 : decode cX10_fresh 135 = .ok (.iinc 1 1, 3) := by decide +kernel
theorem dX10_fresh_138 : decode cX10_fresh 138 = .ok (.goto (-29), 3) := by decide +kernel
theorem dX10_fresh_141 : decode cX10_fresh 141 = .ok (.iconst 0, 1) := by decide +kernel
theorem dX10_fresh_142 : decode cX10_fresh 142 = .ok (.istore_n 1, 1) := by decide +kernel
theorem dX10_fresh_143 : decode cX10_fresh 143 = .ok (.iload_n 1, 1) := by decide +kernel
theorem dX10_fresh_144 : decode cX10_fresh 144 = .ok (.bipush 8, 2) := by decide +kernel
theorem dX10_fresh_146 : decode cX10_fresh 146 = .ok (.if_icmp .ge 66, 3) := by decide +kernel
theorem dX10_fresh_149 : decode cX10_fresh 149 = .ok (.aload_n 0, 1) := by decide +kernel
theorem dX10_fresh_150 : decode cX10_fresh 150 = .ok (.getfield 61, 3) := by decide +kernel
theorem dX10_fresh_153 : decode cX10_fresh 153 = .ok (.iload_n 1, 1) := by decide +kernel
theorem dX10_fresh_154 : decode cX10_fresh 154 = .ok (.iconst 0, 1) := by decide +kernel
theorem dX10_fresh_155 : decode cX10_fresh 155 = .ok (.iastore, 1) := by decide +kernel
theorem dX10_fresh_156 : decode cX10_fresh 156 = .ok (.aload_n 0, 1) := by decide +kernel
theorem dX10_fresh_157 : decode cX10_fresh 157 = .ok (.getfield 64, 3) := by decide +kernel
theorem dX10_fresh_160 : decode cX10_fresh 160 = .ok (.iload_n 1, 1) := by decide +kernel
theorem dX10_fresh_161 : decode cX10_fresh 161 = .ok (.iconst 0, 1) := by decide +kernel
theorem dX10_fresh_162 : decode cX10_fresh 162 = .ok (.iastore, 1) := by decide +kernel
theorem dX10_fresh_163 : decode cX10_fresh 163 = .ok (.aload_n 0, 1) := by decide +kernel
theorem dX10_fresh_164 : decode cX10_fresh 164 = .ok (.getfield 67, 3) := by decide +kernel
theorem dX10_fresh_167 : decode cX10_fresh 167 = .ok (.iload_n 1, 1) := by decide +kernel
theorem dX10_fresh_168 : decode cX10_fresh 168 = .ok (.iconst 0, 1) := by decide +kernel
theorem dX10_fresh_169 : decode cX10_fresh 169 = .ok (.iastore, 1) := by decide +kernel
theorem dX10_fresh_170 : decode cX10_fresh 170 = .ok (.iconst 0, 1) := by decide +kernel
theorem dX10_fresh_171 : decode cX10_fresh 171 = .ok (.istore_n 2, 1) := by decide +kernel
theorem dX10_fresh_172 : decode cX10_fresh 172 = .ok (.iload_n 2, 1) := by decide +kernel
theorem dX10_fresh_173 : decode cX10_fresh 173 = .ok (.bipush 65, 2) := by decide +kernel
theorem dX10_fresh_175 : decode cX10_fresh 175 = .ok (.if_icmp .ge 31, 3) := by decide +kernel
theorem dX10_fresh_178 : decode cX10_fresh 178 = .ok (.aload_n 0, 1) := by decide +kernel
theorem dX10_fresh_179 : decode cX10_fresh 179 = .ok (.getfield 70, 3) := by decide +kernel
theorem dX10_fresh_182 : decode cX10_fresh 182 = .ok (.bipush 65, 2) := by decide +kernel
theorem dX10_fresh_184 : decode cX10_fresh 184 = .ok (.iload_n 1, 1) := by decide +kernel
theorem dX10_fresh_185 : decode cX10_fresh 185 = .ok (.imul, 1) := by decide +kernel
theorem dX10_fresh_186 : decode cX10_fresh 186 = .ok (.iload_n 2, 1) := by decide +kernel
theorem dX10_fresh_187 : decode cX10_fresh 187 = .ok (.iadd, 1) := by decide +kernel
theorem dX10_fresh_188 : decode cX10_fresh 188 = .ok (.iload_n 2, 1) := by decide +kernel
theorem dX10_fresh_189 : decode cX10_fresh 189 = .ok (.ifCond .ne 9, 3) := by decide +kernel
theorem dX10_fresh_192 : decode cX10_fresh 192 = .ok (.ldc2_w 113, 3) := by decide +kernel
theorem dX10_fresh_195 : decode cX10_fresh 195 = .ok (.goto 4, 3) := by decide +kernel
theorem dX10_fresh_198 : decode cX10_fresh 198 = .ok (.lconst 0, 1) := by decide +kernel
theorem dX10_fresh_199 : decode cX10_fresh 199 = .ok (.lastore, 1) := by decide +kernel
theorem dX10_fresh_200 : decode cX10_fresh 200 = .ok (.iinc 2 1, 3) := by decide +kernel
theorem dX10_fresh_203 : decode cX10_fresh 203 = .ok (.goto (-31), 3) := by decide +kernel
theorem dX10_fresh_206 : decode cX10_fresh 206 = .ok (.iinc 1 1, 3) := by decide +kernel
theorem dX10_fresh_209 : decode cX10_fresh 209 = .ok (.goto (-66), 3) := by decide +kernel
theorem dX10_fresh_212 : decode cX10_fresh 212 = .ok (.aload_n 0, 1) := by decide +kernel
theorem dX10_fresh_213 : decode cX10_fresh 213 = .ok (.iconst 0, 1) := by decide +kernel
theorem dX10_fresh_214 : decode cX10_fresh 214 = .ok (.putfield 115, 3) := by decide +kernel
theorem dX10_fresh_217 : decode cX10_fresh 217 = .ok (.aload_n 0, 1) := by decide +kernel
theorem dX10_fresh_218 : decode cX10_fresh 218 = .ok (.iconst 0, 1) := by decide +kernel
theorem dX10_fresh_219 : decode cX10_fresh 219 = .ok (.putfield 118, 3) := by decide +kernel
theorem dX10_fresh_222 : decode cX10_fresh 222 = .ok (.aload_n 0, 1) := by decide +kernel
theorem dX10_fresh_223 : decode cX10_fresh 223 = .ok (.iconst 0, 1) := by decide +kernel
theorem dX10_fresh_224 : decode cX10_fresh 224 = .ok (.putfield 101, 3) := by decide +kernel
theorem dX10_fresh_227 : decode cX10_fresh 227 = .ok (.aload_n 0, 1) := by decide +kernel
theorem dX10_fresh_228 : decode cX10_fresh 228 = .ok (.iconst 0, 1) := by decide +kernel
theorem dX10_fresh_229 : decode cX10_fresh 229 = .ok (.putfield 121, 3) := by decide +kernel
theorem dX10_fresh_232 : decode cX10_fresh 232 = .ok (.aload_n 0, 1) := by decide +kernel
theorem dX10_fresh_233 : decode cX10_fresh 233 = .ok (.iconst 0, 1) := by decide +kernel
theorem dX10_fresh_234 : decode cX10_fresh 234 = .ok (.putfield 124, 3) := by decide +kernel
theorem dX10_fresh_237 : decode cX10_fresh 237 = .ok (.aload_n 0, 1) := by decide +kernel
theorem dX10_fresh_238 : decode cX10_fresh 238 = .ok (.iconst 0, 1) := by decide +kernel
theorem dX10_fresh_239 : decode cX10_fresh 239 = .ok (.putfield 127, 3) := by decide +kernel
theorem dX10_fresh_242 : decode cX10_fresh 242 = .ok (.aload_n 0, 1) := by decide +kernel
theorem dX10_fresh_243 : decode cX10_fresh 243 = .ok (.iconst 0, 1) := by decide +kernel
theorem dX10_fresh_244 : decode cX10_fresh 244 = .ok (.putfield 130, 3) := by decide +kernel
theorem dX10_fresh_247 : decode cX10_fresh 247 = .ok (.iconst 0, 1) := by decide +kernel
theorem dX10_fresh_248 : decode cX10_fresh 248 = .ok (.istore_n 1, 1) := by decide +kernel
theorem dX10_fresh_249 : decode cX10_fresh 249 = .ok (.iload_n 1, 1) := by decide +kernel
theorem dX10_fresh_250 : decode cX10_fresh 250 = .ok (.aload_n 0, 1) := by decide +kernel
theorem dX10_fresh_251 : decode cX10_fresh 251 = .ok (.getfield 16, 3) := by decide +kernel
theorem dX10_fresh_254 : decode cX10_fresh 254 = .ok (.if_icmp .ge 66, 3) := by decide +kernel
theorem dX10_fresh_257 : decode cX10_fresh 257 = .ok (.aload_n 0, 1) := by decide +kernel
theorem dX10_fresh_258 : decode cX10_fresh 258 = .ok (.iconst 0, 1) := by decide +kernel
theorem dX10_fresh_259 : decode cX10_fresh 259 = .ok (.iload_n 1, 1) := by decide +kernel
theorem dX10_fresh_260 : decode cX10_fresh 260 = .ok (.ifCond .ne 7, 3) := by decide +kernel
theorem dX10_fresh_263 : decode cX10_fresh 263 = .ok (.iconst 0, 1) := by decide +kernel
theorem dX10_fresh_264 : decode cX10_fresh 264 = .ok (.goto 47, 3) := by decide +kernel
theorem dX10_fresh_267 : decode cX10_fresh 267 = .ok (.iload_n 1, 1) := by decide +kernel
theorem dX10_fresh_268 : decode cX10_fresh 268 = .ok (.iconst 1, 1) := by decide +kernel
theorem dX10_fresh_269 : decode cX10_fresh 269 = .ok (.if_icmp .ne 17, 3) := by decide +kernel
theorem dX10_fresh_272 : decode cX10_fresh 272 = .ok (.aload_n 0, 1) := by decide +kernel
theorem dX10_fresh_273 : decode cX10_fresh 273 = .ok (.getfield 7, 3) := by decide +kernel
theorem dX10_fresh_276 : decode cX10_fresh 276 = .ok (.aload_n 0, 1) := by decide +kernel
theorem dX10_fresh_277 : decode cX10_fresh 277 = .ok (.getfield 13, 3) := by decide +kernel
theorem dX10_fresh_280 : decode cX10_fresh 280 = .ok (.imul, 1) := by decide +kernel
theorem dX10_fresh_281 : decode cX10_fresh 281 = .ok (.iconst 1, 1) := by decide +kernel
theorem dX10_fresh_282 : decode cX10_fresh 282 = .ok (.isub, 1) := by decide +kernel
theorem dX10_fresh_283 : decode cX10_fresh 283 = .ok (.goto 28, 3) := by decide +kernel
theorem dX10_fresh_286 : decode cX10_fresh 286 = .ok (.iload_n 1, 1) := by decide +kernel
theorem dX10_fresh_287 : decode cX10_fresh 287 = .ok (.iconst 2, 1) := by decide +kernel
theorem dX10_fresh_288 : decode cX10_fresh 288 = .ok (.if_icmp .ne 12, 3) := by decide +kernel
theorem dX10_fresh_291 : decode cX10_fresh 291 = .ok (.aload_n 0, 1) := by decide +kernel
theorem dX10_fresh_292 : decode cX10_fresh 292 = .ok (.getfield 7, 3) := by decide +kernel
theorem dX10_fresh_295 : decode cX10_fresh 295 = .ok (.iconst 1, 1) := by decide +kernel
theorem dX10_fresh_296 : decode cX10_fresh 296 = .ok (.isub, 1) := by decide +kernel
theorem dX10_fresh_297 : decode cX10_fresh 297 = .ok (.goto 14, 3) := by decide +kernel
theorem dX10_fresh_300 : decode cX10_fresh 300 = .ok (.aload_n 0, 1) := by decide +kernel
theorem dX10_fresh_301 : decode cX10_fresh 301 = .ok (.getfield 13, 3) := by decide +kernel
theorem dX10_fresh_304 : decode cX10_fresh 304 = .ok (.iconst 1, 1) := by decide +kernel
theorem dX10_fresh_305 : decode cX10_fresh 305 = .ok (.isub, 1) := by decide +kernel
theorem dX10_fresh_306 : decode cX10_fresh 306 = .ok (.aload_n 0, 1) := by decide +kernel
theorem dX10_fresh_307 : decode cX10_fresh 307 = .ok (.getfield 7, 3) := by decide +kernel
theorem dX10_fresh_310 : decode cX10_fresh 310 = .ok (.imul, 1) := by decide +kernel
theorem dX10_fresh_311 : decode cX10_fresh 311 = .ok (.invokevirtual 133, 3) := by decide +kernel
theorem dX10_fresh_314 : decode cX10_fresh 314 = .ok (.iinc 1 1, 3) := by decide +kernel
theorem dX10_fresh_317 : decode cX10_fresh 317 = .ok (.goto (-68), 3) := by decide +kernel
theorem dX10_fresh_320 : decode cX10_fresh 320 = .ok (.return_, 1) := by decide +kernel
theorem dX10_addThing_0 : decode cX10_addThing 0 = .ok (.bipush 6, 2) := by decide +kernel
theorem dX10_addThing_2 : decode cX10_addThing 2 = .ok (.aload_n 0, 1) := by decide +kernel
theorem dX10_addThing_3 : decode cX10_addThing 3 = .ok (.getfield 107, 3) := by decide +kernel
theorem dX10_addThing_6 : decode cX10_addThing 6 = .ok (.imul, 1) := by decide +kernel
theorem dX10_addThing_7 : decode cX10_addThing 7 = .ok (.istore_n 3, 1) := by decide +kernel
theorem dX10_addThing_8 : decode cX10_addThing 8 = .ok (.aload_n 0, 1) := by decide +kernel
theorem dX10_addThing_9 : decode cX10_addThing 9 = .ok (.getfield 29, 3) := by decide +kernel
theorem dX10_addThing_12 : decode cX10_addThing 12 = .ok (.aload_n 0, 1) := by decide +kernel
theorem dX10_addThing_13 : decode cX10_addThing 13 = .ok (.getfield 107, 3) := by decide +kernel
theorem dX10_addThing_16 : decode cX10_addThing 16 = .ok (.iload_n 1, 1) := by decide +kernel
theorem dX10_addThing_17 : decode cX10_addThing 17 = .ok (.iastore, 1) := by decide +kernel
theorem dX10_addThing_18 : decode cX10_addThing 18 = .ok (.aload_n 0, 1) := by decide +kernel
theorem dX10_addThing_19 : decode cX10_addThing 19 = .ok (.getfield 39, 3) := by decide +kernel
theorem dX10_addThing_22 : decode cX10_addThing 22 = .ok (.iload_n 3, 1) := by decide +kernel
theorem dX10_addThing_23 : decode cX10_addThing 23 = .ok (.iconst 0, 1) := by decide +kernel
theorem dX10_addThing_24 : decode cX10_addThing 24 = .ok (.iadd, 1) := by decide +kernel
theorem dX10_addThing_25 : decode cX10_addThing 25 = .ok (.iload_n 2, 1) := by decide +kernel
theorem dX10_addThing_26 : decode cX10_addThing 26 = .ok (.iastore, 1) := by decide +kernel
theorem dX10_addThing_27 : decode cX10_addThing 27 = .ok (.aload_n 0, 1) := by decide +kernel
theorem dX10_addThing_28 : decode cX10_addThing 28 = .ok (.getfield 39, 3) := by decide +kernel
theorem dX10_addThing_31 : decode cX10_addThing 31 = .ok (.iload_n 3, 1) := by decide +kernel
theorem dX10_addThing_32 : decode cX10_addThing 32 = .ok (.iconst 1, 1) := by decide +kernel
theorem dX10_addThing_33 : decode cX10_addThing 33 = .ok (.iadd, 1) := by decide +kernel
theorem dX10_addThing_34 : decode cX10_addThing 34 = .ok (.iload_n 1, 1) := by decide +kernel
theorem dX10_addThing_35 : decode cX10_addThing 35 = .ok (.ifCond .ne 7, 3) := by decide +kernel
theorem dX10_addThing_38 : decode cX10_addThing 38 = .ok (.iconst 5, 1) := by decide +kernel
theorem dX10_addThing_39 : decode cX10_addThing 39 = .ok (.goto 22, 3) := by decide +kernel
theorem dX10_addThing_42 : decode cX10_addThing 42 = .ok (.iload_n 1, 1) := by decide +kernel
theorem dX10_addThing_43 : decode cX10_addThing 43 = .ok (.iconst 1, 1) := by decide +kernel
theorem dX10_addThing_44 : decode cX10_addThing 44 = .ok (.if_icmp .ne 7, 3) := by decide +kernel
theorem dX10_addThing_47 : decode cX10_addThing 47 = .ok (.iconst 2, 1) := by decide +kernel
theorem dX10_addThing_48 : decode cX10_addThing 48 = .ok (.goto 13, 3) := by decide +kernel
theorem dX10_addThing_51 : decode cX10_addThing 51 = .ok (.iload_n 1, 1) := by decide +kernel
theorem dX10_addThing_52 : decode cX10_addThing 52 = .ok (.iconst 2, 1) := by decide +kernel
theorem dX10_addThing_53 : decode cX10_addThing 53 = .ok (.if_icmp .ne 7, 3) := by decide +kernel
theorem dX10_addThing_56 : decode cX10_addThing 56 = .ok (.iconst 3, 1) := by decide +kernel
theorem dX10_addThing_57 : decode cX10_addThing 57 = .ok (.goto 4, 3) := by decide +kernel
theorem dX10_addThing_60 : decode cX10_addThing 60 = .ok (.iconst 0, 1) := by decide +kernel
theorem dX10_addThing_61 : decode cX10_addThing 61 = .ok (.iastore, 1) := by decide +kernel
theorem dX10_addThing_62 : decode cX10_addThing 62 = .ok (.aload_n 0, 1) := by decide +kernel
theorem dX10_addThing_63 : decode cX10_addThing 63 = .ok (.getfield 39, 3) := by decide +kernel
theorem dX10_addThing_66 : decode cX10_addThing 66 = .ok (.iload_n 3, 1) := by decide +kernel
theorem dX10_addThing_67 : decode cX10_addThing 67 = .ok (.iconst 2, 1) := by decide +kernel
theorem dX10_addThing_68 : decode cX10_addThing 68 = .ok (.iadd, 1) := by decide +kernel
theorem dX10_addThing_69 : decode cX10_addThing 69 = .ok (.iload_n 1, 1) := by decide +kernel
theorem dX10_addThing_70 : decode cX10_addThing 70 = .ok (.ifCond .ne 7, 3) := by decide +kernel
theorem dX10_addThing_73 : decode cX10_addThing 73 = .ok (.iconst 1, 1) := by decide +kernel
theorem dX10_addThing_74 : decode cX10_addThing 74 = .ok (.goto 4, 3) := by decide +kernel
theorem dX10_addThing_77 : decode cX10_addThing 77 = .ok (.iconst 0, 1) := by decide +kernel
theorem dX10_addThing_78 : decode cX10_addThing 78 = .ok (.iastore, 1) := by decide +kernel
theorem dX10_addThing_79 : decode cX10_addThing 79 = .ok (.aload_n 0, 1) := by decide +kernel
theorem dX10_addThing_80 : decode cX10_addThing 80 = .ok (.getfield 39, 3) := by decide +kernel
theorem dX10_addThing_83 : decode cX10_addThing 83 = .ok (.iload_n 3, 1) := by decide +kernel
theorem dX10_addThing_84 : decode cX10_addThing 84 = .ok (.iconst 3, 1) := by decide +kernel
theorem dX10_addThing_85 : decode cX10_addThing 85 = .ok (.iadd, 1) := by decide +kernel
theorem dX10_addThing_86 : decode cX10_addThing 86 = .ok (.iconst 0, 1) := by decide +kernel
theorem dX10_addThing_87 : decode cX10_addThing 87 = .ok (.iastore, 1) := by decide +kernel
theorem dX10_addThing_88 : decode cX10_addThing 88 = .ok (.aload_n 0, 1) := by decide +kernel
theorem dX10_addThing_89 : decode cX10_addThing 89 = .ok (.getfield 39, 3) := by decide +kernel
theorem dX10_addThing_92 : decode cX10_addThing 92 = .ok (.iload_n 3, 1) := by decide +kernel
theorem dX10_addThing_93 : decode cX10_addThing 93 = .ok (.iconst 4, 1) := by decide +kernel
theorem dX10_addThing_94 : decode cX10_addThing 94 = .ok (.iadd, 1) := by decide +kernel
theorem dX10_addThing_95 : decode cX10_addThing 95 = .ok (.iconst (-1), 1) := by decide +kernel
theorem dX10_addThing_96 : decode cX10_addThing 96 = .ok (.iastore, 1) := by decide +kernel
theorem dX10_addThing_97 : decode cX10_addThing 97 = .ok (.aload_n 0, 1) := by decide +kernel
theorem dX10_addThing_98 : decode cX10_addThing 98 = .ok (.getfield 39, 3) := by decide +kernel
theorem dX10_addThing_101 : decode cX10_addThing 101 = .ok (.iload_n 3, 1) := by decide +kernel
theorem dX10_addThing_102 : decode cX10_addThing 102 = .ok (.iconst 5, 1) := by decide +kernel
theorem dX10_addThing_103 : decode cX10_addThing 103 = .ok (.iadd, 1) := by decide +kernel
theorem dX10_addThing_104 : decode cX10_addThing 104 = .ok (.iconst (-1), 1) := by decide +kernel
theorem dX10_addThing_105 : decode cX10_addThing 105 = .ok (.iastore, 1) := by decide +kernel
theorem dX10_addThing_106 : decode cX10_addThing 106 = .ok (.aload_n 0, 1) := by decide +kernel
theorem dX10_addThing_107 : decode cX10_addThing 107 = .ok (.dup, 1) := by decide +kernel
theorem dX10_addThing_108 : decode cX10_addThing 108 = .ok (.getfield 107, 3) := by decide +kernel
theorem dX10_addThing_111 : decode cX10_addThing 111 = .ok (.iconst 1, 1) := by decide +kernel
theorem dX10_addThing_112 : decode cX10_addThing 112 = .ok (.iadd, 1) := by decide +kernel
theorem dX10_addThing_113 : decode cX10_addThing 113 = .ok (.putfield 107, 3) := by decide +kernel
theorem dX10_addThing_116 : decode cX10_addThing 116 = .ok (.return_, 1) := by decide +kernel
theorem dX10_begin_0 : decode cX10_begin 0 = .ok (.iload_n 1, 1) := by decide +kernel
theorem dX10_begin_1 : decode cX10_begin 1 = .ok (.iconst 3, 1) := by decide +kernel
theorem dX10_begin_2 : decode cX10_begin 2 = .ok (.bipush 10, 2) := by decide +kernel
theorem dX10_begin_4 : decode cX10_begin 4 = .ok (.invokestatic 137, 3) := by decide +kernel
theorem dX10_begin_7 : decode cX10_begin 7 = .ok (.ifCond .eq 22, 3) := by decide +kernel
theorem dX10_begin_10 : decode cX10_begin 10 = .ok (.iload_n 2, 1) := by decide +kernel
theorem dX10_begin_11 : decode cX10_begin 11 = .ok (.iconst 3, 1) := by decide +kernel
theorem dX10_begin_12 : decode cX10_begin 12 = .ok (.bipush 10, 2) := by decide +kernel
theorem dX10_begin_14 : decode cX10_begin 14 = .ok (.invokestatic 137, 3) := by decide +kernel
theorem dX10_begin_17 : decode cX10_begin 17 = .ok (.ifCond .eq 12, 3) := by decide +kernel
theorem dX10_begin_20 : decode cX10_begin 20 = .ok (.iload_n 3, 1) := by decide +kernel
theorem dX10_begin_21 : decode cX10_begin 21 = .ok (.iconst 1, 1) := by decide +kernel
theorem dX10_begin_22 : decode cX10_begin 22 = .ok (.iconst 4, 1) := by decide +kernel
theorem dX10_begin_23 : decode cX10_begin 23 = .ok (.invokestatic 137, 3) := by decide +kernel
theorem dX10_begin_26 : decode cX10_begin 26 = .ok (.ifCond .ne 5, 3) := by decide +kernel
theorem dX10_begin_29 : decode cX10_begin 29 = .ok (.iconst (-1), 1) := by decide +kernel
theorem dX10_begin_30 : decode cX10_begin 30 = .ok (.ireturn, 1) := by decide +kernel
theorem dX10_begin_31 : decode cX10_begin 31 = .ok (.aload_n 0, 1) := by decide +kernel
theorem dX10_begin_32 : decode cX10_begin 32 = .ok (.iload_n 1, 1) := by decide +kernel
theorem dX10_begin_33 : decode cX10_begin 33 = .ok (.putfield 7, 3) := by decide +kernel
theorem dX10_begin_36 : decode cX10_begin 36 = .ok (.aload_n 0, 1) := by decide +kernel
theorem dX10_begin_37 : decode cX10_begin 37 = .ok (.iload_n 2, 1) := by decide +kernel
theorem dX10_begin_38 : decode cX10_begin 38 = .ok (.putfield 13, 3) := by decide +kernel
theorem dX10_begin_41 : decode cX10_begin 41 = .ok (.aload_n 0, 1) := by decide +kernel
theorem dX10_begin_42 : decode cX10_begin 42 = .ok (.iload_n 3, 1) := by decide +kernel
theorem dX10_begin_43 : decode cX10_begin 43 = .ok (.putfield 16, 3) := by decide +kernel
theorem dX10_begin_46 : decode cX10_begin 46 = .ok (.aload_n 0, 1) := by decide +kernel
theorem dX10_begin_47 : decode cX10_begin 47 = .ok (.invokevirtual 95, 3) := by decide +kernel
theorem dX10_begin_50 : decode cX10_begin 50 = .ok (.iload_n 1, 1) := by decide +kernel
theorem dX10_begin_51 : decode cX10_begin 51 = .ok (.iload_n 2, 1) := by decide +kernel
theorem dX10_begin_52 : decode cX10_begin 52 = .ok (.imul, 1) := by decide +kernel
theorem dX10_begin_53 : decode cX10_begin 53 = .ok (.ireturn, 1) := by decide +kernel
theorem dX10_isCell_0 : decode cX10_isCell 0 = .ok (.iload_n 1, 1) := by decide +kernel
theorem dX10_isCell_1 : decode cX10_isCell 1 = .ok (.iconst 0, 1) := by decide +kernel
theorem dX10_isCell_2 : decode cX10_isCell 2 = .ok (.aload_n 0, 1) := by decide +kernel
theorem dX10_isCell_3 : decode cX10_isCell 3 = .ok (.getfield 7, 3) := by decide +kernel
theorem dX10_isCell_6 : decode cX10_isCell 6 = .ok (.aload_n 0, 1) := by decide +kernel
theorem dX10_isCell_7 : decode cX10_isCell 7 = .ok (.getfield 13, 3) := by decide +kernel
theorem dX10_isCell_10 : decode cX10_isCell 10 = .ok (.imul, 1) := by decide +kernel
theorem dX10_isCell_11 : decode cX10_isCell 11 = .ok (.iconst 1, 1) := by decide +kernel
theorem dX10_isCell_12 : decode cX10_isCell 12 = .ok (.isub, 1) := by decide +kernel
theorem dX10_isCell_13 : decode cX10_isCell 13 = .ok (.invokestatic 137, 3) := by decide +kernel
theorem dX10_isCell_16 : decode cX10_isCell 16 = .ok (.ireturn, 1) := by decide +kernel
theorem dX10_isStarted_0 : decode cX10_isStarted 0 = .ok (.aload_n 0, 1) := by decide +kernel
theorem dX10_isStarted_1 : decode cX10_isStarted 1 = .ok (.getfield 110, 3) := by decide +kernel
theorem dX10_isStarted_4 : decode cX10_isStarted 4 = .ok (.ifCond .le 7, 3) := by decide +kernel
theorem dX10_isStarted_7 : decode cX10_isStarted 7 = .ok (.iconst 1, 1) := by decide +kernel
theorem dX10_isStarted_8 : decode cX10_isStarted 8 = .ok (.goto 4, 3) := by decide +kernel
theorem dX10_isStarted_11 : decode cX10_isStarted 11 = .ok (.iconst 0, 1) := by decide +kernel
theorem dX10_isStarted_12 : decode cX10_isStarted 12 = .ok (.istore_n 1, 1) := by decide +kernel
theorem dX10_isStarted_13 : decode cX10_isStarted 13 = .ok (.iconst 0, 1) := by decide +kernel
theorem dX10_isStarted_14 : decode cX10_isStarted 14 = .ok (.istore_n 2, 1) := by decide +kernel
theorem dX10_isStarted_15 : decode cX10_isStarted 15 = .ok (.iload_n 2, 1) := by decide +kernel
theorem dX10_isStarted_16 : decode cX10_isStarted 16 = .ok (.sipush 2000, 3) := by decide +kernel
theorem dX10_isStarted_19 : decode cX10_isStarted 19 = .ok (.if_icmp .ge 31, 3) := by decide +kernel
theorem dX10_isStarted_22 : decode cX10_isStarted 22 = .ok (.iload_n 1, 1) := by decide +kernel
theorem dX10_isStarted_23 : decode cX10_isStarted 23 = .ok (.ifCond .ne 27, 3) := by decide +kernel
theorem dX10_isStarted_26 : decode cX10_isStarted 26 = .ok (.aload_n 0, 1) := by decide +kernel
theorem dX10_isStarted_27 : decode cX10_isStarted 27 = .ok (.getfield 42, 3) := by decide +kernel
theorem dX10_isStarted_30 : decode cX10_isStarted 30 = .ok (.iload_n 2, 1) := by decide +kernel
theorem dX10_isStarted_31 : decode cX10_isStarted 31 = .ok (.iaload, 1) := by decide +kernel
theorem dX10_isStarted_32 : decode cX10_isStarted 32 = .ok (.sipush 4096, 3) := by decide +kernel
theorem dX10_isStarted_35 : decode cX10_isStarted 35 = .ok (.if_icmp .eq 7, 3) := by decide +kernel
theorem dX10_isStarted_38 : decode cX10_isStarted 38 = .ok (.iconst 1, 1) := by decide +kernel
theorem dX10_isStarted_39 : decode cX10_isStarted 39 = .ok (.goto 4, 3) := by decide +kernel
theorem dX10_isStarted_42 : decode cX10_isStarted 42 = .ok (.iconst 0, 1) := by decide +kernel
theorem dX10_isStarted_43 : decode cX10_isStarted 43 = .ok (.istore_n 1, 1) := by decide +kernel
theorem dX10_isStarted_44 : decode cX10_isStarted 44 = .ok (.iinc 2 1, 3) := by decide +kernel
theorem dX10_isStarted_47 : decode cX10_isStarted 47 = .ok (.goto (-32), 3) := by decide +kernel
theorem dX10_isStarted_50 : decode cX10_isStarted 50 = .ok (.iload_n 1, 1) := by decide +kernel
theorem dX10_isStarted_51 : decode cX10_isStarted 51 = .ok (.ireturn, 1) := by decide +kernel
theorem dX10_hasThing_0 : decode cX10_hasThing 0 = .ok (.iconst 0, 1) := by decide +kernel
theorem dX10_hasThing_1 : decode cX10_hasThing 1 = .ok (.istore_n 2, 1) := by decide +kernel
theorem dX10_hasThing_2 : decode cX10_hasThing 2 = .ok (.iload_n 2, 1) := by decide +kernel
theorem dX10_hasThing_3 : decode cX10_hasThing 3 = .ok (.aload_n 0, 1) := by decide +kernel
theorem dX10_hasThing_4 : decode cX10_hasThing 4 = .ok (.getfield 107, 3) := by decide +kernel
theorem dX10_hasThing_7 : decode cX10_hasThing 7 = .ok (.if_icmp .ge 26, 3) := by decide +kernel
theorem dX10_hasThing_10 : decode cX10_hasThing 10 = .ok (.aload_n 0, 1) := by decide +kernel
theorem dX10_hasThing_11 : decode cX10_hasThing 11 = .ok (.getfield 39, 3) := by decide +kernel
theorem dX10_hasThing_14 : decode cX10_hasThing 14 = .ok (.bipush 6, 2) := by decide +kernel
theorem dX10_hasThing_16 : decode cX10_hasThing 16 = .ok (.iload_n 2, 1) := by decide +kernel
theorem dX10_hasThing_17 : decode cX10_hasThing 17 = .ok (.imul, 1) := by decide +kernel
theorem dX10_hasThing_18 : decode cX10_hasThing 18 = .ok (.iconst 0, 1) := by decide +kernel
theorem dX10_hasThing_19 : decode cX10_hasThing 19 = .ok (.iadd, 1) := by decide +kernel
theorem dX10_hasThing_20 : decode cX10_hasThing 20 = .ok (.iaload, 1) := by decide +kernel
theorem dX10_hasThing_21 : decode cX10_hasThing 21 = .ok (.iload_n 1, 1) := by decide +kernel
theorem dX10_hasThing_22 : decode cX10_hasThing 22 = .ok (.if_icmp .ne 5, 3) := by decide +kernel
theorem dX10_hasThing_25 : decode cX10_hasThing 25 = .ok (.iconst 1, 1) := by decide +kernel
theorem dX10_hasThing_26 : decode cX10_hasThing 26 = .ok (.ireturn, 1) := by decide +kernel
theorem dX10_hasThing_27 : decode cX10_hasThing 27 = .ok (.iinc 2 1, 3) := by decide +kernel
theorem dX10_hasThing_30 : decode cX10_hasThing 30 = .ok (.goto (-28), 3) := by decide +kernel
theorem dX10_hasThing_33 : decode cX10_hasThing 33 = .ok (.iconst 0, 1) := by decide +kernel
theorem dX10_hasThing_34 : decode cX10_hasThing 34 = .ok (.ireturn, 1) := by decide +kernel
theorem dX10_wall_0 : decode cX10_wall 0 = .ok (.aload_n 0, 1) := by decide +kernel
theorem dX10_wall_1 : decode cX10_wall 1 = .ok (.iload_n 1, 1) := by decide +kernel
theorem dX10_wall_2 : decode cX10_wall 2 = .ok (.invokevirtual 141, 3) := by decide +kernel
theorem dX10_wall_5 : decode cX10_wall 5 = .ok (.ifCond .ne 5, 3) := by decide +kernel
theorem dX10_wall_8 : decode cX10_wall 8 = .ok (.iconst (-1), 1) := by decide +kernel
theorem dX10_wall_9 : decode cX10_wall 9 = .ok (.ireturn, 1) := by decide +kernel
theorem dX10_wall_10 : decode cX10_wall 10 = .ok (.aload_n 0, 1) := by decide +kernel
theorem dX10_wall_11 : decode cX10_wall 11 = .ok (.invokevirtual 145, 3) := by decide +kernel
theorem dX10_wall_14 : decode cX10_wall 14 = .ok (.ifCond .eq 6, 3) := by decide +kernel
theorem dX10_wall_17 : decode cX10_wall 17 = .ok (.bipush (-2), 2) := by decide +kernel
theorem dX10_wall_19 : decode cX10_wall 19 = .ok (.ireturn, 1) := by decide +kernel
theorem dX10_wall_20 : decode cX10_wall 20 = .ok (.aload_n 0, 1) := by decide +kernel
theorem dX10_wall_21 : decode cX10_wall 21 = .ok (.getfield 19, 3) := by decide +kernel
theorem dX10_wall_24 : decode cX10_wall 24 = .ok (.iload_n 1, 1) := by decide +kernel
theorem dX10_wall_25 : decode cX10_wall 25 = .ok (.iaload, 1) := by decide +kernel
theorem dX10_wall_26 : decode cX10_wall 26 = .ok (.iconst 1, 1) := by decide +kernel
theorem dX10_wall_27 : decode cX10_wall 27 = .ok (.if_icmp .gt 11, 3) := by decide +kernel
theorem dX10_wall_30 : decode cX10_wall 30 = .ok (.aload_n 0, 1) := by decide +kernel
theorem dX10_wall_31 : decode cX10_wall 31 = .ok (.iload_n 1, 1) := by decide +kernel
theorem dX10_wall_32 : decode cX10_wall 32 = .ok (.invokevirtual 149, 3) := by decide +kernel
theorem dX10_wall_35 : decode cX10_wall 35 = .ok (.ifCond .eq 6, 3) := by decide +kernel
theorem dX10_wall_38 : decode cX10_wall 38 = .ok (.bipush (-3), 2) := by decide +kernel
theorem dX10_wall_40 : decode cX10_wall 40 = .ok (.ireturn, 1) := by decide +kernel
theorem dX10_wall_41 : decode cX10_wall 41 = .ok (.aload_n 0, 1) := by decide +kernel
theorem dX10_wall_42 : decode cX10_wall 42 = .ok (.getfield 19, 3) := by decide +kernel
theorem dX10_wall_45 : decode cX10_wall 45 = .ok (.iload_n 1, 1) := by decide +kernel
theorem dX10_wall_46 : decode cX10_wall 46 = .ok (.iconst 1, 1) := by decide +kernel
theorem dX10_wall_47 : decode cX10_wall 47 = .ok (.aload_n 0, 1) := by decide +kernel
theorem dX10_wall_48 : decode cX10_wall 48 = .ok (.getfield 19, 3) := by decide +kernel
theorem dX10_wall_51 : decode cX10_wall 51 = .ok (.iload_n 1, 1) := by decide +kernel
theorem dX10_wall_52 : decode cX10_wall 52 = .ok (.iaload, 1) := by decide +kernel
theorem dX10_wall_53 : decode cX10_wall 53 = .ok (.isub, 1) := by decide +kernel
theorem dX10_wall_54 : decode cX10_wall 54 = .ok (.iastore, 1) := by decide +kernel
theorem dX10_wall_55 : decode cX10_wall 55 = .ok (.aload_n 0, 1) := by decide +kernel
theorem dX10_wall_56 : decode cX10_wall 56 = .ok (.getfield 19, 3) := by decide +kernel
theorem dX10_wall_59 : decode cX10_wall 59 = .ok (.iload_n 1, 1) := by decide +kernel
theorem dX10_wall_60 : decode cX10_wall 60 = .ok (.iaload, 1) := by decide +kernel
theorem dX10_wall_61 : decode cX10_wall 61 = .ok (.ireturn, 1) := by decide +kernel
theorem dX10_door_0 : decode cX10_door 0 = .ok (.aload_n 0, 1) := by decide +kernel
theorem dX10_door_1 : decode cX10_door 1 = .ok (.iload_n 1, 1) := by decide +kernel
theorem dX10_door_2 : decode cX10_door 2 = .ok (.invokevirtual 141, 3) := by decide +kernel
theorem dX10_door_5 : decode cX10_door 5 = .ok (.ifCond .eq 13, 3) := by decide +kernel
theorem dX10_door_8 : decode cX10_door 8 = .ok (.iload_n 2, 1) := by decide +kernel
theorem dX10_door_9 : decode cX10_door 9 = .ok (.iconst 0, 1) := by decide +kernel
theorem dX10_door_10 : decode cX10_door 10 = .ok (.bipush 15, 2) := by decide +kernel
theorem dX10_door_12 : decode cX10_door 12 = .ok (.invokestatic 137, 3) := by decide +kernel
theorem dX10_door_15 : decode cX10_door 15 = .ok (.ifCond .ne 5, 3) := by decide +kernel
theorem dX10_door_18 : decode cX10_door 18 = .ok (.iconst (-1), 1) := by decide +kernel
theorem dX10_door_19 : decode cX10_door 19 = .ok (.ireturn, 1) := by decide +kernel
theorem dX10_door_20 : decode cX10_door 20 = .ok (.aload_n 0, 1) := by decide +kernel
theorem dX10_door_21 : decode cX10_door 21 = .ok (.invokevirtual 145, 3) := by decide +kernel
theorem dX10_door_24 : decode cX10_door 24 = .ok (.ifCond .eq 6, 3) := by decide +kernel
theorem dX10_door_27 : decode cX10_door 27 = .ok (.bipush (-2), 2) := by decide +kernel
theorem dX10_door_29 : decode cX10_door 29 = .ok (.ireturn, 1) := by decide +kernel
theorem dX10_door_30 : decode cX10_door 30 = .ok (.aload_n 0, 1) := by decide +kernel
theorem dX10_door_31 : decode cX10_door 31 = .ok (.getfield 19, 3) := by decide +kernel
theorem dX10_door_34 : decode cX10_door 34 = .ok (.iload_n 1, 1) := by decide +kernel
theorem dX10_door_35 : decode cX10_door 35 = .ok (.iaload, 1) := by decide +kernel
theorem dX10_door_36 : decode cX10_door 36 = .ok (.ifCond .ne 11, 3) := by decide +kernel
theorem dX10_door_39 : decode cX10_door 39 = .ok (.aload_n 0, 1) := by decide +kernel
theorem dX10_door_40 : decode cX10_door 40 = .ok (.iload_n 1, 1) := by decide +kernel
theorem dX10_door_41 : decode cX10_door 41 = .ok (.invokevirtual 149, 3) := by decide +kernel
theorem dX10_door_44 : decode cX10_door 44 = .ok (.ifCond .eq 6, 3) := by decide +kernel
theorem dX10_door_47 : decode cX10_door 47 = .ok (.bipush (-3), 2) := by decide +kernel
theorem dX10_door_49 : decode cX10_door 49 = .ok (.ireturn, 1) := by decide +kernel
theorem dX10_door_50 : decode cX10_door 50 = .ok (.aload_n 0, 1) := by decide +kernel
theorem dX10_door_51 : decode cX10_door 51 = .ok (.getfield 104, 3) := by decide +kernel
theorem dX10_door_54 : decode cX10_door 54 = .ok (.bipush 8, 2) := by decide +kernel
theorem dX10_door_56 : decode cX10_door 56 = .ok (.if_icmp .ne 6, 3) := by decide +kernel
theorem dX10_door_59 : decode cX10_door 59 = .ok (.bipush (-4), 2) := by decide +kernel
theorem dX10_door_61 : decode cX10_door 61 = .ok (.ireturn, 1) := by decide +kernel
theorem dX10_door_62 : decode cX10_door 62 = .ok (.aload_n 0, 1) := by decide +kernel
theorem dX10_door_63 : decode cX10_door 63 = .ok (.getfield 19, 3) := by decide +kernel
theorem dX10_door_66 : decode cX10_door 66 = .ok (.iload_n 1, 1) := by decide +kernel
theorem dX10_door_67 : decode cX10_door 67 = .ok (.iconst 2, 1) := by decide +kernel
theorem dX10_door_68 : decode cX10_door 68 = .ok (.iastore, 1) := by decide +kernel
theorem dX10_door_69 : decode cX10_door 69 = .ok (.aload_n 0, 1) := by decide +kernel
theorem dX10_door_70 : decode cX10_door 70 = .ok (.getfield 23, 3) := by decide +kernel
theorem dX10_door_73 : decode cX10_door 73 = .ok (.iload_n 1, 1) := by decide +kernel
theorem dX10_door_74 : decode cX10_door 74 = .ok (.aload_n 0, 1) := by decide +kernel
theorem dX10_door_75 : decode cX10_door 75 = .ok (.getfield 104, 3) := by decide +kernel
theorem dX10_door_78 : decode cX10_door 78 = .ok (.iastore, 1) := by decide +kernel
theorem dX10_door_79 : decode cX10_door 79 = .ok (.aload_n 0, 1) := by decide +kernel
theorem dX10_door_80 : decode cX10_door 80 = .ok (.getfield 26, 3) := by decide +kernel
theorem dX10_door_83 : decode cX10_door 83 = .ok (.aload_n 0, 1) := by decide +kernel
theorem dX10_door_84 : decode cX10_door 84 = .ok (.getfield 104, 3) := by decide +kernel
theorem dX10_door_87 : decode cX10_door 87 = .ok (.iload_n 2, 1) := by decide +kernel
theorem dX10_door_88 : decode cX10_door 88 = .ok (.iastore, 1) := by decide +kernel
theorem dX10_door_89 : decode cX10_door 89 = .ok (.aload_n 0, 1) := by decide +kernel
theorem dX10_door_90 : decode cX10_door 90 = .ok (.dup, 1) := by decide +kernel
theorem dX10_door_91 : decode cX10_door 91 = .ok (.getfield 104, 3) := by decide +kernel
theorem dX10_door_94 : decode cX10_door 94 = .ok (.iconst 1, 1) := by decide +kernel
theorem dX10_door_95 : decode cX10_door 95 = .ok (.iadd, 1) := by decide +kernel
theorem dX10_door_96 : decode cX10_door 96 = .ok (.putfield 104, 3) := by decide +kernel
theorem dX10_door_99 : decode cX10_door 99 = .ok (.aload_n 0, 1) := by decide +kernel
theorem dX10_door_100 : decode cX10_door 100 = .ok (.getfield 104, 3) := by decide +kernel
theorem dX10_door_103 : decode cX10_door 103 = .ok (.iconst 1, 1) := by decide +kernel
theorem dX10_door_104 : decode cX10_door 104 = .ok (.isub, 1) := by decide +kernel
theorem dX10_door_105 : decode cX10_door 105 = .ok (.ireturn, 1) := by decide +kernel
theorem dX10_plate_0 : decode cX10_plate 0 = .ok (.aload_n 0, 1) := by decide +kernel
theorem dX10_plate_1 : decode cX10_plate 1 = .ok (.iload_n 1, 1) := by decide +kernel
theorem dX10_plate_2 : decode cX10_plate 2 = .ok (.invokevirtual 141, 3) := by decide +kernel
theorem dX10_plate_5 : decode cX10_plate 5 = .ok (.ifCond .eq 17, 3) := by decide +kernel
theorem dX10_plate_8 : decode cX10_plate 8 = .ok (.iload_n 2, 1) := by decide +kernel
theorem dX10_plate_9 : decode cX10_plate 9 = .ok (.iconst 0, 1) := by decide +kernel
theorem dX10_plate_10 : decode cX10_plate 10 = .ok (.aload_n 0, 1) := by decide +kernel
theorem dX10_plate_11 : decode cX10_plate 11 = .ok (.getfield 104, 3) := by decide +kernel
theorem dX10_plate_14 : decode cX10_plate 14 = .ok (.iconst 1, 1) := by decide +kernel
theorem dX10_plate_15 : decode cX10_plate 15 = .ok (.isub, 1) := by decide +kernel
theorem dX10_plate_16 : decode cX10_plate 16 = .ok (.invokestatic 137, 3) := by decide +kernel
theorem dX10_plate_19 : decode cX10_plate 19 = .ok (.ifCond .ne 5, 3) := by decide +kernel
theorem dX10_plate_22 : decode cX10_plate 22 = .ok (.iconst (-1), 1) := by decide +kernel
theorem dX10_plate_23 : decode cX10_plate 23 = .ok (.ireturn, 1) := by decide +kernel
theorem dX10_plate_24 : decode cX10_plate 24 = .ok (.aload_n 0, 1) := by decide +kernel
theorem dX10_plate_25 : decode cX10_plate 25 = .ok (.invokevirtual 145, 3) := by decide +kernel
theorem dX10_plate_28 : decode cX10_plate 28 = .ok (.ifCond .eq 6, 3) := by decide +kernel
theorem dX10_plate_31 : decode cX10_plate 31 = .ok (.bipush (-2), 2) := by decide +kernel
theorem dX10_plate_33 : decode cX10_plate 33 = .ok (.ireturn, 1) := by decide +kernel
theorem dX10_plate_34 : decode cX10_plate 34 = .ok (.aload_n 0, 1) := by decide +kernel
theorem dX10_plate_35 : decode cX10_plate 35 = .ok (.getfield 19, 3) := by decide +kernel
theorem dX10_plate_38 : decode cX10_plate 38 = .ok (.iload_n 1, 1) := by decide +kernel
theorem dX10_plate_39 : decode cX10_plate 39 = .ok (.iaload, 1) := by decide +kernel
theorem dX10_plate_40 : decode cX10_plate 40 = .ok (.ifCond .eq 6, 3) := by decide +kernel
theorem dX10_plate_43 : decode cX10_plate 43 = .ok (.bipush (-3), 2) := by decide +kernel
theorem dX10_plate_45 : decode cX10_plate 45 = .ok (.ireturn, 1) := by decide +kernel
theorem dX10_plate_46 : decode cX10_plate 46 = .ok (.aload_n 0, 1) := by decide +kernel
theorem dX10_plate_47 : decode cX10_plate 47 = .ok (.getfield 19, 3) := by decide +kernel
theorem dX10_plate_50 : decode cX10_plate 50 = .ok (.iload_n 1, 1) := by decide +kernel
theorem dX10_plate_51 : decode cX10_plate 51 = .ok (.iconst 3, 1) := by decide +kernel
theorem dX10_plate_52 : decode cX10_plate 52 = .ok (.iastore, 1) := by decide +kernel
theorem dX10_plate_53 : decode cX10_plate 53 = .ok (.aload_n 0, 1) := by decide +kernel
theorem dX10_plate_54 : decode cX10_plate 54 = .ok (.getfield 23, 3) := by decide +kernel
theorem dX10_plate_57 : decode cX10_plate 57 = .ok (.iload_n 1, 1) := by decide +kernel
theorem dX10_plate_58 : decode cX10_plate 58 = .ok (.iload_n 2, 1) := by decide +kernel
theorem dX10_plate_59 : decode cX10_plate 59 = .ok (.iastore, 1) := by decide +kernel
theorem dX10_plate_60 : decode cX10_plate 60 = .ok (.aload_n 0, 1) := by decide +kernel
theorem dX10_plate_61 : decode cX10_plate 61 = .ok (.iconst 0, 1) := by decide +kernel
theorem dX10_plate_62 : decode cX10_plate 62 = .ok (.invokevirtual 152, 3) := by decide +kernel
theorem dX10_plate_65 : decode cX10_plate 65 = .ok (.iconst 3, 1) := by decide +kernel
theorem dX10_plate_66 : decode cX10_plate 66 = .ok (.ireturn, 1) := by decide +kernel
theorem dX10_place_0 : decode cX10_place 0 = .ok (.iload_n 1, 1) := by decide +kernel
theorem dX10_place_1 : decode cX10_place 1 = .ok (.iconst 1, 1) := by decide +kernel
theorem dX10_place_2 : decode cX10_place 2 = .ok (.bipush 7, 2) := by decide +kernel
theorem dX10_place_4 : decode cX10_place 4 = .ok (.invokestatic 137, 3) := by decide +kernel
theorem dX10_place_7 : decode cX10_place 7 = .ok (.ifCond .eq 11, 3) := by decide +kernel
theorem dX10_place_10 : decode cX10_place 10 = .ok (.aload_n 0, 1) := by decide +kernel
theorem dX10_place_11 : decode cX10_place 11 = .ok (.iload_n 2, 1) := by decide +kernel
theorem dX10_place_12 : decode cX10_place 12 = .ok (.invokevirtual 141, 3) := by decide +kernel
theorem dX10_place_15 : decode cX10_place 15 = .ok (.ifCond .ne 5, 3) := by decide +kernel
theorem dX10_place_18 : decode cX10_place 18 = .ok (.iconst (-1), 1) := by decide +kernel
theorem dX10_place_19 : decode cX10_place 19 = .ok (.ireturn, 1) := by decide +kernel
theorem dX10_place_20 : decode cX10_place 20 = .ok (.aload_n 0, 1) := by decide +kernel
theorem dX10_place_21 : decode cX10_place 21 = .ok (.invokevirtual 145, 3) := by decide +kernel
theorem dX10_place_24 : decode cX10_place 24 = .ok (.ifCond .eq 6, 3) := by decide +kernel
theorem dX10_place_27 : decode cX10_place 27 = .ok (.bipush (-2), 2) := by decide +kernel
theorem dX10_place_29 : decode cX10_place 29 = .ok (.ireturn, 1) := by decide +kernel
theorem dX10_place_30 : decode cX10_place 30 = .ok (.aload_n 0, 1) := by decide +kernel
theorem dX10_place_31 : decode cX10_place 31 = .ok (.getfield 19, 3) := by decide +kernel
theorem dX10_place_34 : decode cX10_place 34 = .ok (.iload_n 2, 1) := by decide +kernel
theorem dX10_place_35 : decode cX10_place 35 = .ok (.iaload, 1) := by decide +kernel
theorem dX10_place_36 : decode cX10_place 36 = .ok (.iconst 1, 1) := by decide +kernel
theorem dX10_place_37 : decode cX10_place 37 = .ok (.if_icmp .eq 27, 3) := by decide +kernel
theorem dX10_place_40 : decode cX10_place 40 = .ok (.aload_n 0, 1) := by decide +kernel
theorem dX10_place_41 : decode cX10_place 41 = .ok (.getfield 19, 3) := by decide +kernel
theorem dX10_place_44 : decode cX10_place 44 = .ok (.iload_n 2, 1) := by decide +kernel
theorem dX10_place_45 : decode cX10_place 45 = .ok (.iaload, 1) := by decide +kernel
theorem dX10_place_46 : decode cX10_place 46 = .ok (.iconst 2, 1) := by decide +kernel
theorem dX10_place_47 : decode cX10_place 47 = .ok (.if_icmp .eq 17, 3) := by decide +kernel
theorem dX10_place_50 : decode cX10_place 50 = .ok (.iload_n 1, 1) := by decide +kernel
theorem dX10_place_51 : decode cX10_place 51 = .ok (.iconst 2, 1) := by decide +kernel
theorem dX10_place_52 : decode cX10_place 52 = .ok (.if_icmp .gt 15, 3) := by decide +kernel
theorem dX10_place_55 : decode cX10_place 55 = .ok (.aload_n 0, 1) := by decide +kernel
theorem dX10_place_56 : decode cX10_place 56 = .ok (.iconst 0, 1) := by decide +kernel
theorem dX10_place_57 : decode cX10_place 57 = .ok (.iload_n 2, 1) := by decide +kernel
theorem dX10_place_58 : decode cX10_place 58 = .ok (.invokevirtual 156, 3) := by decide +kernel
theorem dX10_place_61 : decode cX10_place 61 = .ok (.ifCond .lt 6, 3) := by decide +kernel
theorem dX10_place_64 : decode cX10_place 64 = .ok (.bipush (-3), 2) := by decide +kernel
theorem dX10_place_66 : decode cX10_place 66 = .ok (.ireturn, 1) := by decide +kernel
theorem dX10_place_67 : decode cX10_place 67 = .ok (.aload_n 0, 1) := by decide +kernel
theorem dX10_place_68 : decode cX10_place 68 = .ok (.getfield 107, 3) := by decide +kernel
theorem dX10_place_71 : decode cX10_place 71 = .ok (.bipush 16, 2) := by decide +kernel
theorem dX10_place_73 : decode cX10_place 73 = .ok (.if_icmp .ne 6, 3) := by decide +kernel
theorem dX10_place_76 : decode cX10_place 76 = .ok (.bipush (-4), 2) := by decide +kernel
theorem dX10_place_78 : decode cX10_place 78 = .ok (.ireturn, 1) := by decide +kernel
theorem dX10_place_79 : decode cX10_place 79 = .ok (.aload_n 0, 1) := by decide +kernel
theorem dX10_place_80 : decode cX10_place 80 = .ok (.iload_n 1, 1) := by decide +kernel
theorem dX10_place_81 : decode cX10_place 81 = .ok (.iload_n 2, 1) := by decide +kernel
theorem dX10_place_82 : decode cX10_place 82 = .ok (.invokevirtual 133, 3) := by decide +kernel
theorem dX10_place_85 : decode cX10_place 85 = .ok (.aload_n 0, 1) := by decide +kernel
theorem dX10_place_86 : decode cX10_place 86 = .ok (.getfield 107, 3) := by decide +kernel
theorem dX10_place_89 : decode cX10_place 89 = .ok (.iconst 1, 1) := by decide +kernel
theorem dX10_place_90 : decode cX10_place 90 = .ok (.isub, 1) := by decide +kernel
theorem dX10_place_91 : decode cX10_place 91 = .ok (.ireturn, 1) := by decide +kernel
theorem dX10_late_0 : decode cX10_late 0 = .ok (.iload_n 1, 1) := by decide +kernel
theorem dX10_late_1 : decode cX10_late 1 = .ok (.iconst 0, 1) := by decide +kernel
theorem dX10_late_2 : decode cX10_late 2 = .ok (.bipush 8, 2) := by decide +kernel
theorem dX10_late_4 : decode cX10_late 4 = .ok (.invokestatic 137, 3) := by decide +kernel
theorem dX10_late_7 : decode cX10_late 7 = .ok (.ifCond .ne 5, 3) := by decide +kernel
theorem dX10_late_10 : decode cX10_late 10 = .ok (.iconst (-1), 1) := by decide +kernel
theorem dX10_late_11 : decode cX10_late 11 = .ok (.ireturn, 1) := by decide +kernel
theorem dX10_late_12 : decode cX10_late 12 = .ok (.aload_n 0, 1) := by decide +kernel
theorem dX10_late_13 : decode cX10_late 13 = .ok (.invokevirtual 145, 3) := by decide +kernel
theorem dX10_late_16 : decode cX10_late 16 = .ok (.ifCond .eq 6, 3) := by decide +kernel
theorem dX10_late_19 : decode cX10_late 19 = .ok (.bipush (-2), 2) := by decide +kernel
theorem dX10_late_21 : decode cX10_late 21 = .ok (.ireturn, 1) := by decide +kernel
theorem dX10_late_22 : decode cX10_late 22 = .ok (.aload_n 0, 1) := by decide +kernel
theorem dX10_late_23 : decode cX10_late 23 = .ok (.getfield 32, 3) := by decide +kernel
theorem dX10_late_26 : decode cX10_late 26 = .ok (.istore_n 2, 1) := by decide +kernel
theorem dX10_late_27 : decode cX10_late 27 = .ok (.aload_n 0, 1) := by decide +kernel
theorem dX10_late_28 : decode cX10_late 28 = .ok (.iload_n 1, 1) := by decide +kernel
theorem dX10_late_29 : decode cX10_late 29 = .ok (.putfield 32, 3) := by decide +kernel
theorem dX10_late_32 : decode cX10_late 32 = .ok (.iload_n 2, 1) := by decide +kernel
theorem dX10_late_33 : decode cX10_late 33 = .ok (.ireturn, 1) := by decide +kernel
theorem dX10_risk_0 : decode cX10_risk 0 = .ok (.iload_n 1, 1) := by decide +kernel
theorem dX10_risk_1 : decode cX10_risk 1 = .ok (.iconst 0, 1) := by decide +kernel
theorem dX10_risk_2 : decode cX10_risk 2 = .ok (.ldc 160, 2) := by decide +kernel
theorem dX10_risk_4 : decode cX10_risk 4 = .ok (.invokestatic 137, 3) := by decide +kernel
theorem dX10_risk_7 : decode cX10_risk 7 = .ok (.ifCond .ne 5, 3) := by decide +kernel
theorem dX10_risk_10 : decode cX10_risk 10 = .ok (.iconst (-1), 1) := by decide +kernel
theorem dX10_risk_11 : decode cX10_risk 11 = .ok (.ireturn, 1) := by decide +kernel
theorem dX10_risk_12 : decode cX10_risk 12 = .ok (.aload_n 0, 1) := by decide +kernel
theorem dX10_risk_13 : decode cX10_risk 13 = .ok (.getfield 35, 3) := by decide +kernel
theorem dX10_risk_16 : decode cX10_risk 16 = .ok (.istore_n 2, 1) := by decide +kernel
theorem dX10_risk_17 : decode cX10_risk 17 = .ok (.aload_n 0, 1) := by decide +kernel
theorem dX10_risk_18 : decode cX10_risk 18 = .ok (.iload_n 1, 1) := by decide +kernel
theorem dX10_risk_19 : decode cX10_risk 19 = .ok (.putfield 35, 3) := by decide +kernel
theorem dX10_risk_22 : decode cX10_risk 22 = .ok (.iload_n 2, 1) := by decide +kernel
theorem dX10_risk_23 : decode cX10_risk 23 = .ok (.ireturn, 1) := by decide +kernel
theorem dX10_stands_0 : decode cX10_stands 0 = .ok (.aload_n 0, 1) := by decide +kernel
theorem dX10_stands_1 : decode cX10_stands 1 = .ok (.getfield 29, 3) := by decide +kernel
theorem dX10_stands_4 : decode cX10_stands 4 = .ok (.iload_n 2, 1) := by decide +kernel
theorem dX10_stands_5 : decode cX10_stands 5 = .ok (.iaload, 1) := by decide +kernel
theorem dX10_stands_6 : decode cX10_stands 6 = .ok (.iconst 2, 1) := by decide +kernel
theorem dX10_stands_7 : decode cX10_stands 7 = .ok (.if_icmp .gt 23, 3) := by decide +kernel
theorem dX10_stands_10 : decode cX10_stands 10 = .ok (.aload_n 0, 1) := by decide +kernel
theorem dX10_stands_11 : decode cX10_stands 11 = .ok (.getfield 39, 3) := by decide +kernel
theorem dX10_stands_14 : decode cX10_stands 14 = .ok (.iload_n 1, 1) := by decide +kernel
theorem dX10_stands_15 : decode cX10_stands 15 = .ok (.bipush 6, 2) := by decide +kernel
theorem dX10_stands_17 : decode cX10_stands 17 = .ok (.iload_n 2, 1) := by decide +kernel
theorem dX10_stands_18 : decode cX10_stands 18 = .ok (.imul, 1) := by decide +kernel
theorem dX10_stands_19 : decode cX10_stands 19 = .ok (.iadd, 1) := by decide +kernel
theorem dX10_stands_20 : decode cX10_stands 20 = .ok (.iconst 1, 1) := by decide +kernel
theorem dX10_stands_21 : decode cX10_stands 21 = .ok (.iadd, 1) := by decide +kernel
theorem dX10_stands_22 : decode cX10_stands 22 = .ok (.iaload, 1) := by decide +kernel
theorem dX10_stands_23 : decode cX10_stands 23 = .ok (.ifCond .le 7, 3) := by decide +kernel
theorem dX10_stands_26 : decode cX10_stands 26 = .ok (.iconst 1, 1) := by decide +kernel
theorem dX10_stands_27 : decode cX10_stands 27 = .ok (.goto 4, 3) := by decide +kernel
theorem dX10_stands_30 : decode cX10_stands 30 = .ok (.iconst 0, 1) := by decide +kernel
theorem dX10_stands_31 : decode cX10_stands 31 = .ok (.ireturn, 1) := by decide +kernel
theorem dX10_lies_0 : decode cX10_lies 0 = .ok (.aload_n 0, 1) := by decide +kernel
theorem dX10_lies_1 : decode cX10_lies 1 = .ok (.getfield 29, 3) := by decide +kernel
theorem dX10_lies_4 : decode cX10_lies 4 = .ok (.iload_n 2, 1) := by decide +kernel
theorem dX10_lies_5 : decode cX10_lies 5 = .ok (.iaload, 1) := by decide +kernel
theorem dX10_lies_6 : decode cX10_lies 6 = .ok (.iconst 2, 1) := by decide +kernel
theorem dX10_lies_7 : decode cX10_lies 7 = .ok (.if_icmp .le 23, 3) := by decide +kernel
theorem dX10_lies_10 : decode cX10_lies 10 = .ok (.aload_n 0, 1) := by decide +kernel
theorem dX10_lies_11 : decode cX10_lies 11 = .ok (.getfield 39, 3) := by decide +kernel
theorem dX10_lies_14 : decode cX10_lies 14 = .ok (.iload_n 1, 1) := by decide +kernel
theorem dX10_lies_15 : decode cX10_lies 15 = .ok (.bipush 6, 2) := by decide +kernel
theorem dX10_lies_17 : decode cX10_lies 17 = .ok (.iload_n 2, 1) := by decide +kernel
theorem dX10_lies_18 : decode cX10_lies 18 = .ok (.imul, 1) := by decide +kernel
theorem dX10_lies_19 : decode cX10_lies 19 = .ok (.iadd, 1) := by decide +kernel
theorem dX10_lies_20 : decode cX10_lies 20 = .ok (.iconst 0, 1) := by decide +kernel
theorem dX10_lies_21 : decode cX10_lies 21 = .ok (.iadd, 1) := by decide +kernel
theorem dX10_lies_22 : decode cX10_lies 22 = .ok (.iaload, 1) := by decide +kernel
theorem dX10_lies_23 : decode cX10_lies 23 = .ok (.ifCond .lt 7, 3) := by decide +kernel
theorem dX10_lies_26 : decode cX10_lies 26 = .ok (.iconst 1, 1) := by decide +kernel
theorem dX10_lies_27 : decode cX10_lies 27 = .ok (.goto 4, 3) := by decide +kernel
theorem dX10_lies_30 : decode cX10_lies 30 = .ok (.iconst 0, 1) := by decide +kernel
theorem dX10_lies_31 : decode cX10_lies 31 = .ok (.ireturn, 1) := by decide +kernel
theorem dX10_standingIn_0 : decode cX10_standingIn 0 = .ok (.iconst 0, 1) := by decide +kernel
theorem dX10_standingIn_1 : decode cX10_standingIn 1 = .ok (.istore_n 3, 1) := by decide +kernel
theorem dX10_standingIn_2 : decode cX10_standingIn 2 = .ok (.iload_n 3, 1) := by decide +kernel
theorem dX10_standingIn_3 : decode cX10_standingIn 3 = .ok (.aload_n 0, 1) := by decide +kernel
theorem dX10_standingIn_4 : decode cX10_standingIn 4 = .ok (.getfield 107, 3) := by decide +kernel
theorem dX10_standingIn_7 : decode cX10_standingIn 7 = .ok (.if_icmp .ge 37, 3) := by decide +kernel
theorem dX10_standingIn_10 : decode cX10_standingIn 10 = .ok (.aload_n 0, 1) := by decide +kernel
theorem dX10_standingIn_11 : decode cX10_standingIn 11 = .ok (.iload_n 1, 1) := by decide +kernel
theorem dX10_standingIn_12 : decode cX10_standingIn 12 = .ok (.iload_n 3, 1) := by decide +kernel
theorem dX10_standingIn_13 : decode cX10_standingIn 13 = .ok (.invokevirtual 161, 3) := by decide +kernel
theorem dX10_standingIn_16 : decode cX10_standingIn 16 = .ok (.ifCond .eq 22, 3) := by decide +kernel
theorem dX10_standingIn_19 : decode cX10_standingIn 19 = .ok (.aload_n 0, 1) := by decide +kernel
theorem dX10_standingIn_20 : decode cX10_standingIn 20 = .ok (.getfield 39, 3) := by decide +kernel
theorem dX10_standingIn_23 : decode cX10_standingIn 23 = .ok (.iload_n 1, 1) := by decide +kernel
theorem dX10_standingIn_24 : decode cX10_standingIn 24 = .ok (.bipush 6, 2) := by decide +kernel
theorem dX10_standingIn_26 : decode cX10_standingIn 26 = .ok (.iload_n 3, 1) := by decide +kernel
theorem dX10_standingIn_27 : decode cX10_standingIn 27 = .ok (.imul, 1) := by decide +kernel
theorem dX10_standingIn_28 : decode cX10_standingIn 28 = .ok (.iadd, 1) := by decide +kernel
theorem dX10_standingIn_29 : decode cX10_standingIn 29 = .ok (.iconst 0, 1) := by decide +kernel
theorem dX10_standingIn_30 : decode cX10_standingIn 30 = .ok (.iadd, 1) := by decide +kernel
theorem dX10_standingIn_31 : decode cX10_standingIn 31 = .ok (.iaload, 1) := by decide +kernel
theorem dX10_standingIn_32 : decode cX10_standingIn 32 = .ok (.iload_n 2, 1) := by decide +kernel
theorem dX10_standingIn_33 : decode cX10_standingIn 33 = .ok (.if_icmp .ne 5, 3) := by decide +kernel
theorem dX10_standingIn_36 : decode cX10_standingIn 36 = .ok (.iload_n 3, 1) := by decide +kernel
theorem dX10_standingIn_37 : decode cX10_standingIn 37 = .ok (.ireturn, 1) := by decide +kernel
theorem dX10_standingIn_38 : decode cX10_standingIn 38 = .ok (.iinc 3 1, 3) := by decide +kernel
theorem dX10_standingIn_41 : decode cX10_standingIn 41 = .ok (.goto (-39), 3) := by decide +kernel
theorem dX10_standingIn_44 : decode cX10_standingIn 44 = .ok (.iconst (-1), 1) := by decide +kernel
theorem dX10_standingIn_45 : decode cX10_standingIn 45 = .ok (.ireturn, 1) := by decide +kernel
theorem dX10_isShut_0 : decode cX10_isShut 0 = .ok (.aload_n 0, 1) := by decide +kernel
theorem dX10_isShut_1 : decode cX10_isShut 1 = .ok (.getfield 19, 3) := by decide +kernel
theorem dX10_isShut_4 : decode cX10_isShut 4 = .ok (.iload_n 2, 1) := by decide +kernel
theorem dX10_isShut_5 : decode cX10_isShut 5 = .ok (.iaload, 1) := by decide +kernel
theorem dX10_isShut_6 : decode cX10_isShut 6 = .ok (.iconst 2, 1) := by decide +kernel
theorem dX10_isShut_7 : decode cX10_isShut 7 = .ok (.if_icmp .ne 26, 3) := by decide +kernel
theorem dX10_isShut_10 : decode cX10_isShut 10 = .ok (.aload_n 0, 1) := by decide +kernel
theorem dX10_isShut_11 : decode cX10_isShut 11 = .ok (.getfield 39, 3) := by decide +kernel
theorem dX10_isShut_14 : decode cX10_isShut 14 = .ok (.iload_n 1, 1) := by decide +kernel
theorem dX10_isShut_15 : decode cX10_isShut 15 = .ok (.bipush 96, 2) := by decide +kernel
theorem dX10_isShut_17 : decode cX10_isShut 17 = .ok (.iadd, 1) := by decide +kernel
theorem dX10_isShut_18 : decode cX10_isShut 18 = .ok (.aload_n 0, 1) := by decide +kernel
theorem dX10_isShut_19 : decode cX10_isShut 19 = .ok (.getfield 23, 3) := by decide +kernel
theorem dX10_isShut_22 : decode cX10_isShut 22 = .ok (.iload_n 2, 1) := by decide +kernel
theorem dX10_isShut_23 : decode cX10_isShut 23 = .ok (.iaload, 1) := by decide +kernel
theorem dX10_isShut_24 : decode cX10_isShut 24 = .ok (.iadd, 1) := by decide +kernel
theorem dX10_isShut_25 : decode cX10_isShut 25 = .ok (.iaload, 1) := by decide +kernel
theorem dX10_isShut_26 : decode cX10_isShut 26 = .ok (.ifCond .ne 7, 3) := by decide +kernel
theorem dX10_isShut_29 : decode cX10_isShut 29 = .ok (.iconst 1, 1) := by decide +kernel
theorem dX10_isShut_30 : decode cX10_isShut 30 = .ok (.goto 4, 3) := by decide +kernel
theorem dX10_isShut_33 : decode cX10_isShut 33 = .ok (.iconst 0, 1) := by decide +kernel
theorem dX10_isShut_34 : decode cX10_isShut 34 = .ok (.ireturn, 1) := by decide +kernel
theorem dX10_bars_0 : decode cX10_bars 0 = .ok (.aload_n 0, 1) := by decide +kernel
theorem dX10_bars_1 : decode cX10_bars 1 = .ok (.getfield 19, 3) := by decide +kernel
theorem dX10_bars_4 : decode cX10_bars 4 = .ok (.iload_n 2, 1) := by decide +kernel
theorem dX10_bars_5 : decode cX10_bars 5 = .ok (.iaload, 1) := by decide +kernel
theorem dX10_bars_6 : decode cX10_bars 6 = .ok (.iconst 1, 1) := by decide +kernel
theorem dX10_bars_7 : decode cX10_bars 7 = .ok (.if_icmp .eq 12, 3) := by decide +kernel
theorem dX10_bars_10 : decode cX10_bars 10 = .ok (.aload_n 0, 1) := by decide +kernel
theorem dX10_bars_11 : decode cX10_bars 11 = .ok (.iload_n 1, 1) := by decide +kernel
theorem dX10_bars_12 : decode cX10_bars 12 = .ok (.iload_n 2, 1) := by decide +kernel
theorem dX10_bars_13 : decode cX10_bars 13 = .ok (.invokevirtual 165, 3) := by decide +kernel
theorem dX10_bars_16 : decode cX10_bars 16 = .ok (.ifCond .eq 7, 3) := by decide +kernel
theorem dX10_bars_19 : decode cX10_bars 19 = .ok (.iconst 1, 1) := by decide +kernel
theorem dX10_bars_20 : decode cX10_bars 20 = .ok (.goto 4, 3) := by decide +kernel
theorem dX10_bars_23 : decode cX10_bars 23 = .ok (.iconst 0, 1) := by decide +kernel
theorem dX10_bars_24 : decode cX10_bars 24 = .ok (.ireturn, 1) := by decide +kernel
theorem dX10_nextTo_0 : decode cX10_nextTo 0 = .ok (.iload_n 1, 1) := by decide +kernel
theorem dX10_nextTo_1 : decode cX10_nextTo 1 = .ok (.aload_n 0, 1) := by decide +kernel
theorem dX10_nextTo_2 : decode cX10_nextTo 2 = .ok (.getfield 7, 3) := by decide +kernel
theorem dX10_nextTo_5 : decode cX10_nextTo 5 = .ok (.irem, 1) := by decide +kernel
theorem dX10_nextTo_6 : decode cX10_nextTo 6 = .ok (.iload_n 2, 1) := by decide +kernel
theorem dX10_nextTo_7 : decode cX10_nextTo 7 = .ok (.iconst 1, 1) := by decide +kernel
theorem dX10_nextTo_8 : decode cX10_nextTo 8 = .ok (.if_icmp .ne 7, 3) := by decide +kernel
theorem dX10_nextTo_11 : decode cX10_nextTo 11 = .ok (.iconst 1, 1) := by decide +kernel
theorem dX10_nextTo_12 : decode cX10_nextTo 12 = .ok (.goto 13, 3) := by decide +kernel
theorem dX10_nextTo_15 : decode cX10_nextTo 15 = .ok (.iload_n 2, 1) := by decide +kernel
theorem dX10_nextTo_16 : decode cX10_nextTo 16 = .ok (.iconst 3, 1) := by decide +kernel
theorem dX10_nextTo_17 : decode cX10_nextTo 17 = .ok (.if_icmp .ne 7, 3) := by decide +kernel
theorem dX10_nextTo_20 : decode cX10_nextTo 20 = .ok (.iconst (-1), 1) := by decide +kernel
theorem dX10_nextTo_21 : decode cX10_nextTo 21 = .ok (.goto 4, 3) := by decide +kernel
theorem dX10_nextTo_24 : decode cX10_nextTo 24 = .ok (.iconst 0, 1) := by decide +kernel
theorem dX10_nextTo_25 : decode cX10_nextTo 25 = .ok (.iadd, 1) := by decide +kernel
theorem dX10_nextTo_26 : decode cX10_nextTo 26 = .ok (.istore_n 3, 1) := by decide +kernel
theorem dX10_nextTo_27 : decode cX10_nextTo 27 = .ok (.iload_n 1, 1) := by decide +kernel
theorem dX10_nextTo_28 : decode cX10_nextTo 28 = .ok (.aload_n 0, 1) := by decide +kernel
theorem dX10_nextTo_29 : decode cX10_nextTo 29 = .ok (.getfield 7, 3) := by decide +kernel
theorem dX10_nextTo_32 : decode cX10_nextTo 32 = .ok (.idiv, 1) := by decide +kernel
theorem dX10_nextTo_33 : decode cX10_nextTo 33 = .ok (.iload_n 2, 1) := by decide +kernel
theorem dX10_nextTo_34 : decode cX10_nextTo 34 = .ok (.ifCond .ne 7, 3) := by decide +kernel
theorem dX10_nextTo_37 : decode cX10_nextTo 37 = .ok (.iconst (-1), 1) := by decide +kernel
theorem dX10_nextTo_38 : decode cX10_nextTo 38 = .ok (.goto 13, 3) := by decide +kernel
theorem dX10_nextTo_41 : decode cX10_nextTo 41 = .ok (.iload_n 2, 1) := by decide +kernel
theorem dX10_nextTo_42 : decode cX10_nextTo 42 = .ok (.iconst 2, 1) := by decide +kernel
theorem dX10_nextTo_43 : decode cX10_nextTo 43 = .ok (.if_icmp .ne 7, 3) := by decide +kernel
theorem dX10_nextTo_46 : decode cX10_nextTo 46 = .ok (.iconst 1, 1) := by decide +kernel
theorem dX10_nextTo_47 : decode cX10_nextTo 47 = .ok (.goto 4, 3) := by decide +kernel
theorem dX10_nextTo_50 : decode cX10_nextTo 50 = .ok (.iconst 0, 1) := by decide +kernel
theorem dX10_nextTo_51 : decode cX10_nextTo 51 = .ok (.iadd, 1) := by decide +kernel
theorem dX10_nextTo_52 : decode cX10_nextTo 52 = .ok (.istore 4, 2) := by decide +kernel
theorem dX10_nextTo_54 : decode cX10_nextTo 54 = .ok (.iload_n 3, 1) := by decide +kernel
theorem dX10_nextTo_55 : decode cX10_nextTo 55 = .ok (.ifCond .lt 25, 3) := by decide +kernel
theorem dX10_nextTo_58 : decode cX10_nextTo 58 = .ok (.iload_n 3, 1) := by decide +kernel
theorem dX10_nextTo_59 : decode cX10_nextTo 59 = .ok (.aload_n 0, 1) := by decide +kernel
theorem dX10_nextTo_60 : decode cX10_nextTo 60 = .ok (.getfield 7, 3) := by decide +kernel
theorem dX10_nextTo_63 : decode cX10_nextTo 63 = .ok (.if_icmp .ge 17, 3) := by decide +kernel
theorem dX10_nextTo_66 : decode cX10_nextTo 66 = .ok (.iload 4, 2) := by decide +kernel
theorem dX10_nextTo_68 : decode cX10_nextTo 68 = .ok (.ifCond .lt 12, 3) := by decide +kernel
theorem dX10_nextTo_71 : decode cX10_nextTo 71 = .ok (.iload 4, 2) := by decide +kernel
theorem dX10_nextTo_73 : decode cX10_nextTo 73 = .ok (.aload_n 0, 1) := by decide +kernel
theorem dX10_nextTo_74 : decode cX10_nextTo 74 = .ok (.getfield 13, 3) := by decide +kernel
theorem dX10_nextTo_77 : decode cX10_nextTo 77 = .ok (.if_icmp .lt 7, 3) := by decide +kernel
theorem dX10_nextTo_80 : decode cX10_nextTo 80 = .ok (.iconst (-1), 1) := by decide +kernel
theorem dX10_nextTo_81 : decode cX10_nextTo 81 = .ok (.goto 12, 3) := by decide +kernel
theorem dX10_nextTo_84 : decode cX10_nextTo 84 = .ok (.iload 4, 2) := by decide +kernel
theorem dX10_nextTo_86 : decode cX10_nextTo 86 = .ok (.aload_n 0, 1) := by decide +kernel
theorem dX10_nextTo_87 : decode cX10_nextTo 87 = .ok (.getfield 7, 3) := by decide +kernel
theorem dX10_nextTo_90 : decode cX10_nextTo 90 = .ok (.imul, 1) := by decide +kernel
theorem dX10_nextTo_91 : decode cX10_nextTo 91 = .ok (.iload_n 3, 1) := by decide +kernel
theorem dX10_nextTo_92 : decode cX10_nextTo 92 = .ok (.iadd, 1) := by decide +kernel
theorem dX10_nextTo_93 : decode cX10_nextTo 93 = .ok (.ireturn, 1) := by decide +kernel
theorem dX10_amount_0 : decode cX10_amount 0 = .ok (.iload_n 0, 1) := by decide +kernel
theorem dX10_amount_1 : decode cX10_amount 1 = .ok (.ifCond .ge 8, 3) := by decide +kernel
theorem dX10_amount_4 : decode cX10_amount 4 = .ok (.iload_n 0, 1) := by decide +kernel
theorem dX10_amount_5 : decode cX10_amount 5 = .ok (.ineg, 1) := by decide +kernel
theorem dX10_amount_6 : decode cX10_amount 6 = .ok (.goto 4, 3) := by decide +kernel
theorem dX10_amount_9 : decode cX10_amount 9 = .ok (.iload_n 0, 1) := by decide +kernel
theorem dX10_amount_10 : decode cX10_amount 10 = .ok (.ireturn, 1) := by decide +kernel
theorem dX10_seesCell_0 : decode cX10_seesCell 0 = .ok (.iload_n 3, 1) := by decide +kernel
theorem dX10_seesCell_1 : decode cX10_seesCell 1 = .ok (.aload_n 0, 1) := by decide +kernel
theorem dX10_seesCell_2 : decode cX10_seesCell 2 = .ok (.getfield 7, 3) := by decide +kernel
theorem dX10_seesCell_5 : decode cX10_seesCell 5 = .ok (.irem, 1) := by decide +kernel
theorem dX10_seesCell_6 : decode cX10_seesCell 6 = .ok (.iload_n 2, 1) := by decide +kernel
theorem dX10_seesCell_7 : decode cX10_seesCell 7 = .ok (.aload_n 0, 1) := by decide +kernel
theorem dX10_seesCell_8 : decode cX10_seesCell 8 = .ok (.getfield 7, 3) := by decide +kernel
theorem dX10_seesCell_11 : decode cX10_seesCell 11 = .ok (.irem, 1) := by decide +kernel
theorem dX10_seesCell_12 : decode cX10_seesCell 12 = .ok (.isub, 1) := by decide +kernel
theorem dX10_seesCell_13 : decode cX10_seesCell 13 = .ok (.istore 5, 2) := by decide +kernel
theorem dX10_seesCell_15 : decode cX10_seesCell 15 = .ok (.iload_n 3, 1) := by decide +kernel
theorem dX10_seesCell_16 : decode cX10_seesCell 16 = .ok (.aload_n 0, 1) := by decide +kernel
theorem dX10_seesCell_17 : decode cX10_seesCell 17 = .ok (.getfield 7, 3) := by decide +kernel
theorem dX10_seesCell_20 : decode cX10_seesCell 20 = .ok (.idiv, 1) := by decide +kernel
theorem dX10_seesCell_21 : decode cX10_seesCell 21 = .ok (.iload_n 2, 1) := by decide +kernel
theorem dX10_seesCell_22 : decode cX10_seesCell 22 = .ok (.aload_n 0, 1) := by decide +kernel
theorem dX10_seesCell_23 : decode cX10_seesCell 23 = .ok (.getfield 7, 3) := by decide +kernel
theorem dX10_seesCell_26 : decode cX10_seesCell 26 = .ok (.idiv, 1) := by decide +kernel
theorem dX10_seesCell_27 : decode cX10_seesCell 27 = .ok (.isub, 1) := by decide +kernel
theorem dX10_seesCell_28 : decode cX10_seesCell 28 = .ok (.istore 6, 2) := by decide +kernel
theorem dX10_seesCell_30 : decode cX10_seesCell 30 = .ok (.iload 5, 2) := by decide +kernel
theorem dX10_seesCell_32 : decode cX10_seesCell 32 = .ok (.invokestatic 168, 3) := by decide +kernel
theorem dX10_seesCell_35 : decode cX10_seesCell 35 = .ok (.iload 4, 2) := by decide +kernel
theorem dX10_seesCell_37 : decode cX10_seesCell 37 = .ok (.if_icmp .gt 13, 3) := by decide +kernel
theorem dX10_seesCell_40 : decode cX10_seesCell 40 = .ok (.iload 6, 2) := by decide +kernel
theorem dX10_seesCell_42 : decode cX10_seesCell 42 = .ok (.invokestatic 168, 3) := by decide +kernel
theorem dX10_seesCell_45 : decode cX10_seesCell 45 = .ok (.iload 4, 2) := by decide +kernel
theorem dX10_seesCell_47 : decode cX10_seesCell 47 = .ok (.if_icmp .le 5, 3) := by decide +kernel
theorem dX10_seesCell_50 : decode cX10_seesCell 50 = .ok (.iconst 0, 1) := by decide +kernel
theorem dX10_seesCell_51 : decode cX10_seesCell 51 = .ok (.ireturn, 1) := by decide +kernel
theorem dX10_seesCell_52 : decode cX10_seesCell 52 = .ok (.iload 5, 2) := by decide +kernel
theorem dX10_seesCell_54 : decode cX10_seesCell 54 = .ok (.invokestatic 168, 3) := by decide +kernel
theorem dX10_seesCell_57 : decode cX10_seesCell 57 = .ok (.iload 6, 2) := by decide +kernel
theorem dX10_seesCell_59 : decode cX10_seesCell 59 = .ok (.invokestatic 168, 3) := by decide +kernel
theorem dX10_seesCell_62 : decode cX10_seesCell 62 = .ok (.if_icmp .le 11, 3) := by decide +kernel
theorem dX10_seesCell_65 : decode cX10_seesCell 65 = .ok (.iload 5, 2) := by decide +kernel
theorem dX10_seesCell_67 : decode cX10_seesCell 67 = .ok (.invokestatic 168, 3) := by decide +kernel
theorem dX10_seesCell_70 : decode cX10_seesCell 70 = .ok (.goto 8, 3) := by decide +kernel
theorem dX10_seesCell_73 : decode cX10_seesCell 73 = .ok (.iload 6, 2) := by decide +kernel
theorem dX10_seesCell_75 : decode cX10_seesCell 75 = .ok (.invokestatic 168, 3) := by decide +kernel
theorem dX10_seesCell_78 : decode cX10_seesCell 78 = .ok (.istore 7, 2) := by decide +kernel
theorem dX10_seesCell_80 : decode cX10_seesCell 80 = .ok (.iconst 1, 1) := by decide +kernel
theorem dX10_seesCell_81 : decode cX10_seesCell 81 = .ok (.istore 8, 2) := by decide +kernel
theorem dX10_seesCell_83 : decode cX10_seesCell 83 = .ok (.iload 8, 2) := by decide +kernel
theorem dX10_seesCell_85 : decode cX10_seesCell 85 = .ok (.iload 7, 2) := by decide +kernel
theorem dX10_seesCell_87 : decode cX10_seesCell 87 = .ok (.if_icmp .ge 81, 3) := by decide +kernel
theorem dX10_seesCell_90 : decode cX10_seesCell 90 = .ok (.iload_n 2, 1) := by decide +kernel
theorem dX10_seesCell_91 : decode cX10_seesCell 91 = .ok (.aload_n 0, 1) := by decide +kernel
theorem dX10_seesCell_92 : decode cX10_seesCell 92 = .ok (.getfield 7, 3) := by decide +kernel
theorem dX10_seesCell_95 : decode cX10_seesCell 95 = .ok (.irem, 1) := by decide +kernel
theorem dX10_seesCell_96 : decode cX10_seesCell 96 = .ok (.iconst 2, 1) := by decide +kernel
theorem dX10_seesCell_97 : decode cX10_seesCell 97 = .ok (.iload 8, 2) := by decide +kernel
theorem dX10_seesCell_99 : decode cX10_seesCell 99 = .ok (.imul, 1) := by decide +kernel
theorem dX10_seesCell_100 : decode cX10_seesCell 100 = .ok (.iload 5, 2) := by decide +kernel
theorem dX10_seesCell_102 : decode cX10_seesCell 102 = .ok (.imul, 1) := by decide +kernel
theorem dX10_seesCell_103 : decode cX10_seesCell 103 = .ok (.iload 7, 2) := by decide +kernel
theorem dX10_seesCell_105 : decode cX10_seesCell 105 = .ok (.iadd, 1) := by decide +kernel
theorem dX10_seesCell_106 : decode cX10_seesCell 106 = .ok (.iconst 2, 1) := by decide +kernel
theorem dX10_seesCell_107 : decode cX10_seesCell 107 = .ok (.iload 7, 2) := by decide +kernel
theorem dX10_seesCell_109 : decode cX10_seesCell 109 = .ok (.imul, 1) := by decide +kernel
theorem dX10_seesCell_110 : decode cX10_seesCell 110 = .ok (.invokestatic 172, 3) := by decide +kernel
theorem dX10_seesCell_113 : decode cX10_seesCell 113 = .ok (.iadd, 1) := by decide +kernel
theorem dX10_seesCell_114 : decode cX10_seesCell 114 = .ok (.istore 9, 2) := by decide +kernel
theorem dX10_seesCell_116 : decode cX10_seesCell 116 = .ok (.iload_n 2, 1) := by decide +kernel
theorem dX10_seesCell_117 : decode cX10_seesCell 117 = .ok (.aload_n 0, 1) := by decide +kernel
theorem dX10_seesCell_118 : decode cX10_seesCell 118 = .ok (.getfield 7, 3) := by decide +kernel
theorem dX10_seesCell_121 : decode cX10_seesCell 121 = .ok (.idiv, 1) := by decide +kernel
theorem dX10_seesCell_122 : decode cX10_seesCell 122 = .ok (.iconst 2, 1) := by decide +kernel
theorem dX10_seesCell_123 : decode cX10_seesCell 123 = .ok (.iload 8, 2) := by decide +kernel
theorem dX10_seesCell_125 : decode cX10_seesCell 125 = .ok (.imul, 1) := by decide +kernel
theorem dX10_seesCell_126 : decode cX10_seesCell 126 = .ok (.iload 6, 2) := by decide +kernel
theorem dX10_seesCell_128 : decode cX10_seesCell 128 = .ok (.imul, 1) := by decide +kernel
theorem dX10_seesCell_129 : decode cX10_seesCell 129 = .ok (.iload 7, 2) := by decide +kernel
theorem dX10_seesCell_131 : decode cX10_seesCell 131 = .ok (.iadd, 1) := by decide +kernel
theorem dX10_seesCell_132 : decode cX10_seesCell 132 = .ok (.iconst 2, 1) := by decide +kernel
theorem dX10_seesCell_133 : decode cX10_seesCell 133 = .ok (.iload 7, 2) := by decide +kernel
theorem dX10_seesCell_135 : decode cX10_seesCell 135 = .ok (.imul, 1) := by decide +kernel
theorem dX10_seesCell_136 : decode cX10_seesCell 136 = .ok (.invokestatic 172, 3) := by decide +kernel
theorem dX10_seesCell_139 : decode cX10_seesCell 139 = .ok (.iadd, 1) := by decide +kernel
theorem dX10_seesCell_140 : decode cX10_seesCell 140 = .ok (.istore 10, 2) := by decide +kernel
theorem dX10_seesCell_142 : decode cX10_seesCell 142 = .ok (.aload_n 0, 1) := by decide +kernel
theorem dX10_seesCell_143 : decode cX10_seesCell 143 = .ok (.iload_n 1, 1) := by decide +kernel
theorem dX10_seesCell_144 : decode cX10_seesCell 144 = .ok (.iload 10, 2) := by decide +kernel
theorem dX10_seesCell_146 : decode cX10_seesCell 146 = .ok (.aload_n 0, 1) := by decide +kernel
theorem dX10_seesCell_147 : decode cX10_seesCell 147 = .ok (.getfield 7, 3) := by decide +kernel
theorem dX10_seesCell_150 : decode cX10_seesCell 150 = .ok (.imul, 1) := by decide +kernel
theorem dX10_seesCell_151 : decode cX10_seesCell 151 = .ok (.iload 9, 2) := by decide +kernel
theorem dX10_seesCell_153 : decode cX10_seesCell 153 = .ok (.iadd, 1) := by decide +kernel
theorem dX10_seesCell_154 : decode cX10_seesCell 154 = .ok (.invokevirtual 175, 3) := by decide +kernel
theorem dX10_seesCell_157 : decode cX10_seesCell 157 = .ok (.ifCond .eq 5, 3) := by decide +kernel
theorem dX10_seesCell_160 : decode cX10_seesCell 160 = .ok (.iconst 0, 1) := by decide +kernel
theorem dX10_seesCell_161 : decode cX10_seesCell 161 = .ok (.ireturn, 1) := by decide +kernel
theorem dX10_seesCell_162 : decode cX10_seesCell 162 = .ok (.iinc 8 1, 3) := by decide +kernel
theorem dX10_seesCell_165 : decode cX10_seesCell 165 = .ok (.goto (-82), 3) := by decide +kernel
theorem dX10_seesCell_168 : decode cX10_seesCell 168 = .ok (.iconst 1, 1) := by decide +kernel
theorem dX10_seesCell_169 : decode cX10_seesCell 169 = .ok (.ireturn, 1) := by decide +kernel
theorem dX10_thingSees_0 : decode cX10_thingSees 0 = .ok (.aload_n 0, 1) := by decide +kernel
theorem dX10_thingSees_1 : decode cX10_thingSees 1 = .ok (.getfield 39, 3) := by decide +kernel
theorem dX10_thingSees_4 : decode cX10_thingSees 4 = .ok (.iload_n 1, 1) := by decide +kernel
theorem dX10_thingSees_5 : decode cX10_thingSees 5 = .ok (.bipush 6, 2) := by decide +kernel
theorem dX10_thingSees_7 : decode cX10_thingSees 7 = .ok (.iload_n 2, 1) := by decide +kernel
theorem dX10_thingSees_8 : decode cX10_thingSees 8 = .ok (.imul, 1) := by decide +kernel
theorem dX10_thingSees_9 : decode cX10_thingSees 9 = .ok (.iadd, 1) := by decide +kernel
theorem dX10_thingSees_10 : decode cX10_thingSees 10 = .ok (.iconst 4, 1) := by decide +kernel
theorem dX10_thingSees_11 : decode cX10_thingSees 11 = .ok (.iadd, 1) := by decide +kernel
theorem dX10_thingSees_12 : decode cX10_thingSees 12 = .ok (.iaload, 1) := by decide +kernel
theorem dX10_thingSees_13 : decode cX10_thingSees 13 = .ok (.istore 4, 2) := by decide +kernel
theorem dX10_thingSees_15 : decode cX10_thingSees 15 = .ok (.aload_n 0, 1) := by decide +kernel
theorem dX10_thingSees_16 : decode cX10_thingSees 16 = .ok (.iload_n 1, 1) := by decide +kernel
theorem dX10_thingSees_17 : decode cX10_thingSees 17 = .ok (.aload_n 0, 1) := by decide +kernel
theorem dX10_thingSees_18 : decode cX10_thingSees 18 = .ok (.getfield 39, 3) := by decide +kernel
theorem dX10_thingSees_21 : decode cX10_thingSees 21 = .ok (.iload_n 1, 1) := by decide +kernel
theorem dX10_thingSees_22 : decode cX10_thingSees 22 = .ok (.bipush 6, 2) := by decide +kernel
theorem dX10_thingSees_24 : decode cX10_thingSees 24 = .ok (.iload_n 2, 1) := by decide +kernel
theorem dX10_thingSees_25 : decode cX10_thingSees 25 = .ok (.imul, 1) := by decide +kernel
theorem dX10_thingSees_26 : decode cX10_thingSees 26 = .ok (.iadd, 1) := by decide +kernel
theorem dX10_thingSees_27 : decode cX10_thingSees 27 = .ok (.iconst 0, 1) := by decide +kernel
theorem dX10_thingSees_28 : decode cX10_thingSees 28 = .ok (.iadd, 1) := by decide +kernel
theorem dX10_thingSees_29 : decode cX10_thingSees 29 = .ok (.iaload, 1) := by decide +kernel
theorem dX10_thingSees_30 : decode cX10_thingSees 30 = .ok (.iload_n 3, 1) := by decide +kernel
theorem dX10_thingSees_31 : decode cX10_thingSees 31 = .ok (.aload_n 0, 1) := by decide +kernel
theorem dX10_thingSees_32 : decode cX10_thingSees 32 = .ok (.getfield 29, 3) := by decide +kernel
theorem dX10_thingSees_35 : decode cX10_thingSees 35 = .ok (.iload_n 2, 1) := by decide +kernel
theorem dX10_thingSees_36 : decode cX10_thingSees 36 = .ok (.iaload, 1) := by decide +kernel
theorem dX10_thingSees_37 : decode cX10_thingSees 37 = .ok (.ifCond .ne 25, 3) := by decide +kernel
theorem dX10_thingSees_40 : decode cX10_thingSees 40 = .ok (.iload 4, 2) := by decide +kernel
theorem dX10_thingSees_42 : decode cX10_thingSees 42 = .ok (.ifCond .lt 20, 3) := by decide +kernel
theorem dX10_thingSees_45 : decode cX10_thingSees 45 = .ok (.aload_n 0, 1) := by decide +kernel
theorem dX10_thingSees_46 : decode cX10_thingSees 46 = .ok (.getfield 29, 3) := by decide +kernel
theorem dX10_thingSees_49 : decode cX10_thingSees 49 = .ok (.iload 4, 2) := by decide +kernel
theorem dX10_thingSees_51 : decode cX10_thingSees 51 = .ok (.iaload, 1) := by decide +kernel
theorem dX10_thingSees_52 : decode cX10_thingSees 52 = .ok (.bipush 6, 2) := by decide +kernel
theorem dX10_thingSees_54 : decode cX10_thingSees 54 = .ok (.if_icmp .ne 8, 3) := by decide +kernel
theorem dX10_thingSees_57 : decode cX10_thingSees 57 = .ok (.bipush 6, 2) := by decide +kernel
theorem dX10_thingSees_59 : decode cX10_thingSees 59 = .ok (.goto 4, 3) := by decide +kernel
theorem dX10_thingSees_62 : decode cX10_thingSees 62 = .ok (.iconst 4, 1) := by decide +kernel
theorem dX10_thingSees_63 : decode cX10_thingSees 63 = .ok (.invokevirtual 178, 3) := by decide +kernel
theorem dX10_thingSees_66 : decode cX10_thingSees 66 = .ok (.ireturn, 1) := by decide +kernel
theorem dX10_lose_0 : decode cX10_lose 0 = .ok (.iload_n 1, 1) := by decide +kernel
theorem dX10_lose_1 : decode cX10_lose 1 = .ok (.bipush 6, 2) := by decide +kernel
theorem dX10_lose_3 : decode cX10_lose 3 = .ok (.iload_n 2, 1) := by decide +kernel
theorem dX10_lose_4 : decode cX10_lose 4 = .ok (.imul, 1) := by decide +kernel
theorem dX10_lose_5 : decode cX10_lose 5 = .ok (.iadd, 1) := by decide +kernel
theorem dX10_lose_6 : decode cX10_lose 6 = .ok (.istore 4, 2) := by decide +kernel
theorem dX10_lose_8 : decode cX10_lose 8 = .ok (.aload_n 0, 1) := by decide +kernel
theorem dX10_lose_9 : decode cX10_lose 9 = .ok (.getfield 39, 3) := by decide +kernel
theorem dX10_lose_12 : decode cX10_lose 12 = .ok (.iload 4, 2) := by decide +kernel
theorem dX10_lose_14 : decode cX10_lose 14 = .ok (.iconst 1, 1) := by decide +kernel
theorem dX10_lose_15 : decode cX10_lose 15 = .ok (.iadd, 1) := by decide +kernel
theorem dX10_lose_16 : decode cX10_lose 16 = .ok (.aload_n 0, 1) := by decide +kernel
theorem dX10_lose_17 : decode cX10_lose 17 = .ok (.getfield 39, 3) := by decide +kernel
theorem dX10_lose_20 : decode cX10_lose 20 = .ok (.iload 4, 2) := by decide +kernel
theorem dX10_lose_22 : decode cX10_lose 22 = .ok (.iconst 1, 1) := by decide +kernel
theorem dX10_lose_23 : decode cX10_lose 23 = .ok (.iadd, 1) := by decide +kernel
theorem dX10_lose_24 : decode cX10_lose 24 = .ok (.iaload, 1) := by decide +kernel
theorem dX10_lose_25 : decode cX10_lose 25 = .ok (.iload_n 3, 1) := by decide +kernel
theorem dX10_lose_26 : decode cX10_lose 26 = .ok (.if_icmp .le 17, 3) := by decide +kernel
theorem dX10_lose_29 : decode cX10_lose 29 = .ok (.aload_n 0, 1) := by decide +kernel
theorem dX10_lose_30 : decode cX10_lose 30 = .ok (.getfield 39, 3) := by decide +kernel
theorem dX10_lose_33 : decode cX10_lose 33 = .ok (.iload 4, 2) := by decide +kernel
theorem dX10_lose_35 : decode cX10_lose 35 = .ok (.iconst 1, 1) := by decide +kernel
theorem dX10_lose_36 : decode cX10_lose 36 = .ok (.iadd, 1) := by decide +kernel
theorem dX10_lose_37 : decode cX10_lose 37 = .ok (.iaload, 1) := by decide +kernel
theorem dX10_lose_38 : decode cX10_lose 38 = .ok (.iload_n 3, 1) := by decide +kernel
theorem dX10_lose_39 : decode cX10_lose 39 = .ok (.isub, 1) := by decide +kernel
theorem dX10_lose_40 : decode cX10_lose 40 = .ok (.goto 4, 3) := by decide +kernel
theorem dX10_lose_43 : decode cX10_lose 43 = .ok (.iconst 0, 1) := by decide +kernel
theorem dX10_lose_44 : decode cX10_lose 44 = .ok (.iastore, 1) := by decide +kernel
theorem dX10_lose_45 : decode cX10_lose 45 = .ok (.aload_n 0, 1) := by decide +kernel
theorem dX10_lose_46 : decode cX10_lose 46 = .ok (.getfield 39, 3) := by decide +kernel
theorem dX10_lose_49 : decode cX10_lose 49 = .ok (.iload 4, 2) := by decide +kernel
theorem dX10_lose_51 : decode cX10_lose 51 = .ok (.iconst 1, 1) := by decide +kernel
theorem dX10_lose_52 : decode cX10_lose 52 = .ok (.iadd, 1) := by decide +kernel
theorem dX10_lose_53 : decode cX10_lose 53 = .ok (.iaload, 1) := by decide +kernel
theorem dX10_lose_54 : decode cX10_lose 54 = .ok (.ifCond .ne 21, 3) := by decide +kernel
theorem dX10_lose_57 : decode cX10_lose 57 = .ok (.aload_n 0, 1) := by decide +kernel
theorem dX10_lose_58 : decode cX10_lose 58 = .ok (.getfield 39, 3) := by decide +kernel
theorem dX10_lose_61 : decode cX10_lose 61 = .ok (.iload 4, 2) := by decide +kernel
theorem dX10_lose_63 : decode cX10_lose 63 = .ok (.iconst 4, 1) := by decide +kernel
theorem dX10_lose_64 : decode cX10_lose 64 = .ok (.iadd, 1) := by decide +kernel
theorem dX10_lose_65 : decode cX10_lose 65 = .ok (.iaload, 1) := by decide +kernel
theorem dX10_lose_66 : decode cX10_lose 66 = .ok (.ifCond .lt 9, 3) := by decide +kernel
theorem dX10_lose_69 : decode cX10_lose 69 = .ok (.aload_n 0, 1) := by decide +kernel
theorem dX10_lose_70 : decode cX10_lose 70 = .ok (.iload_n 1, 1) := by decide +kernel
theorem dX10_lose_71 : decode cX10_lose 71 = .ok (.iload_n 2, 1) := by decide +kernel
theorem dX10_lose_72 : decode cX10_lose 72 = .ok (.invokevirtual 182, 3) := by decide +kernel
theorem dX10_lose_75 : decode cX10_lose 75 = .ok (.return_, 1) := by decide +kernel
theorem dX10_drop_0 : decode cX10_drop 0 = .ok (.aload_n 0, 1) := by decide +kernel
theorem dX10_drop_1 : decode cX10_drop 1 = .ok (.getfield 39, 3) := by decide +kernel
theorem dX10_drop_4 : decode cX10_drop 4 = .ok (.iload_n 1, 1) := by decide +kernel
theorem dX10_drop_5 : decode cX10_drop 5 = .ok (.bipush 6, 2) := by decide +kernel
theorem dX10_drop_7 : decode cX10_drop 7 = .ok (.iload_n 2, 1) := by decide +kernel
theorem dX10_drop_8 : decode cX10_drop 8 = .ok (.imul, 1) := by decide +kernel
theorem dX10_drop_9 : decode cX10_drop 9 = .ok (.iadd, 1) := by decide +kernel
theorem dX10_drop_10 : decode cX10_drop 10 = .ok (.iconst 4, 1) := by decide +kernel
theorem dX10_drop_11 : decode cX10_drop 11 = .ok (.iadd, 1) := by decide +kernel
theorem dX10_drop_12 : decode cX10_drop 12 = .ok (.iaload, 1) := by decide +kernel
theorem dX10_drop_13 : decode cX10_drop 13 = .ok (.istore_n 3, 1) := by decide +kernel
theorem dX10_drop_14 : decode cX10_drop 14 = .ok (.aload_n 0, 1) := by decide +kernel
theorem dX10_drop_15 : decode cX10_drop 15 = .ok (.getfield 39, 3) := by decide +kernel
theorem dX10_drop_18 : decode cX10_drop 18 = .ok (.iload_n 1, 1) := by decide +kernel
theorem dX10_drop_19 : decode cX10_drop 19 = .ok (.bipush 6, 2) := by decide +kernel
theorem dX10_drop_21 : decode cX10_drop 21 = .ok (.iload_n 2, 1) := by decide +kernel
theorem dX10_drop_22 : decode cX10_drop 22 = .ok (.imul, 1) := by decide +kernel
theorem dX10_drop_23 : decode cX10_drop 23 = .ok (.iadd, 1) := by decide +kernel
theorem dX10_drop_24 : decode cX10_drop 24 = .ok (.iconst 4, 1) := by decide +kernel
theorem dX10_drop_25 : decode cX10_drop 25 = .ok (.iadd, 1) := by decide +kernel
theorem dX10_drop_26 : decode cX10_drop 26 = .ok (.iconst (-1), 1) := by decide +kernel
theorem dX10_drop_27 : decode cX10_drop 27 = .ok (.iastore, 1) := by decide +kernel
theorem dX10_drop_28 : decode cX10_drop 28 = .ok (.aload_n 0, 1) := by decide +kernel
theorem dX10_drop_29 : decode cX10_drop 29 = .ok (.getfield 39, 3) := by decide +kernel
theorem dX10_drop_32 : decode cX10_drop 32 = .ok (.iload_n 1, 1) := by decide +kernel
theorem dX10_drop_33 : decode cX10_drop 33 = .ok (.bipush 6, 2) := by decide +kernel
theorem dX10_drop_35 : decode cX10_drop 35 = .ok (.iload_n 3, 1) := by decide +kernel
theorem dX10_drop_36 : decode cX10_drop 36 = .ok (.imul, 1) := by decide +kernel
theorem dX10_drop_37 : decode cX10_drop 37 = .ok (.iadd, 1) := by decide +kernel
theorem dX10_drop_38 : decode cX10_drop 38 = .ok (.iconst 5, 1) := by decide +kernel
theorem dX10_drop_39 : decode cX10_drop 39 = .ok (.iadd, 1) := by decide +kernel
theorem dX10_drop_40 : decode cX10_drop 40 = .ok (.iconst (-1), 1) := by decide +kernel
theorem dX10_drop_41 : decode cX10_drop 41 = .ok (.iastore, 1) := by decide +kernel
theorem dX10_drop_42 : decode cX10_drop 42 = .ok (.aload_n 0, 1) := by decide +kernel
theorem dX10_drop_43 : decode cX10_drop 43 = .ok (.getfield 39, 3) := by decide +kernel
theorem dX10_drop_46 : decode cX10_drop 46 = .ok (.iload_n 1, 1) := by decide +kernel
theorem dX10_drop_47 : decode cX10_drop 47 = .ok (.bipush 6, 2) := by decide +kernel
theorem dX10_drop_49 : decode cX10_drop 49 = .ok (.iload_n 3, 1) := by decide +kernel
theorem dX10_drop_50 : decode cX10_drop 50 = .ok (.imul, 1) := by decide +kernel
theorem dX10_drop_51 : decode cX10_drop 51 = .ok (.iadd, 1) := by decide +kernel
theorem dX10_drop_52 : decode cX10_drop 52 = .ok (.iconst 0, 1) := by decide +kernel
theorem dX10_drop_53 : decode cX10_drop 53 = .ok (.iadd, 1) := by decide +kernel
theorem dX10_drop_54 : decode cX10_drop 54 = .ok (.aload_n 0, 1) := by decide +kernel
theorem dX10_drop_55 : decode cX10_drop 55 = .ok (.getfield 39, 3) := by decide +kernel
theorem dX10_drop_58 : decode cX10_drop 58 = .ok (.iload_n 1, 1) := by decide +kernel
theorem dX10_drop_59 : decode cX10_drop 59 = .ok (.bipush 6, 2) := by decide +kernel
theorem dX10_drop_61 : decode cX10_drop 61 = .ok (.iload_n 2, 1) := by decide +kernel
theorem dX10_drop_62 : decode cX10_drop 62 = .ok (.imul, 1) := by decide +kernel
theorem dX10_drop_63 : decode cX10_drop 63 = .ok (.iadd, 1) := by decide +kernel
theorem dX10_drop_64 : decode cX10_drop 64 = .ok (.iconst 0, 1) := by decide +kernel
theorem dX10_drop_65 : decode cX10_drop 65 = .ok (.iadd, 1) := by decide +kernel
theorem dX10_drop_66 : decode cX10_drop 66 = .ok (.iaload, 1) := by decide +kernel
theorem dX10_drop_67 : decode cX10_drop 67 = .ok (.iastore, 1) := by decide +kernel
theorem dX10_drop_68 : decode cX10_drop 68 = .ok (.return_, 1) := by decide +kernel
theorem dX10_goTo_0 : decode cX10_goTo 0 = .ok (.iload_n 1, 1) := by decide +kernel
theorem dX10_goTo_1 : decode cX10_goTo 1 = .ok (.bipush 6, 2) := by decide +kernel
theorem dX10_goTo_3 : decode cX10_goTo 3 = .ok (.iload_n 2, 1) := by decide +kernel
theorem dX10_goTo_4 : decode cX10_goTo 4 = .ok (.imul, 1) := by decide +kernel
theorem dX10_goTo_5 : decode cX10_goTo 5 = .ok (.iadd, 1) := by decide +kernel
theorem dX10_goTo_6 : decode cX10_goTo 6 = .ok (.istore 4, 2) := by decide +kernel
theorem dX10_goTo_8 : decode cX10_goTo 8 = .ok (.aload_n 0, 1) := by decide +kernel
theorem dX10_goTo_9 : decode cX10_goTo 9 = .ok (.getfield 39, 3) := by decide +kernel
theorem dX10_goTo_12 : decode cX10_goTo 12 = .ok (.iload 4, 2) := by decide +kernel
theorem dX10_goTo_14 : decode cX10_goTo 14 = .ok (.iconst 0, 1) := by decide +kernel
theorem dX10_goTo_15 : decode cX10_goTo 15 = .ok (.iadd, 1) := by decide +kernel
theorem dX10_goTo_16 : decode cX10_goTo 16 = .ok (.iload_n 3, 1) := by decide +kernel
theorem dX10_goTo_17 : decode cX10_goTo 17 = .ok (.iastore, 1) := by decide +kernel
theorem dX10_goTo_18 : decode cX10_goTo 18 = .ok (.iconst 0, 1) := by decide +kernel
theorem dX10_goTo_19 : decode cX10_goTo 19 = .ok (.istore 5, 2) := by decide +kernel
theorem dX10_goTo_21 : decode cX10_goTo 21 = .ok (.iload 5, 2) := by decide +kernel
theorem dX10_goTo_23 : decode cX10_goTo 23 = .ok (.aload_n 0, 1) := by decide +kernel
theorem dX10_goTo_24 : decode cX10_goTo 24 = .ok (.getfield 107, 3) := by decide +kernel
theorem dX10_goTo_27 : decode cX10_goTo 27 = .ok (.if_icmp .ge 174, 3) := by decide +kernel
theorem dX10_goTo_30 : decode cX10_goTo 30 = .ok (.aload_n 0, 1) := by decide +kernel
theorem dX10_goTo_31 : decode cX10_goTo 31 = .ok (.getfield 39, 3) := by decide +kernel
theorem dX10_goTo_34 : decode cX10_goTo 34 = .ok (.iload 4, 2) := by decide +kernel
theorem dX10_goTo_36 : decode cX10_goTo 36 = .ok (.iconst 1, 1) := by decide +kernel
theorem dX10_goTo_37 : decode cX10_goTo 37 = .ok (.iadd, 1) := by decide +kernel
theorem dX10_goTo_38 : decode cX10_goTo 38 = .ok (.iaload, 1) := by decide +kernel
theorem dX10_goTo_39 : decode cX10_goTo 39 = .ok (.ifCond .le 162, 3) := by decide +kernel
theorem dX10_goTo_42 : decode cX10_goTo 42 = .ok (.aload_n 0, 1) := by decide +kernel
theorem dX10_goTo_43 : decode cX10_goTo 43 = .ok (.iload_n 1, 1) := by decide +kernel
theorem dX10_goTo_44 : decode cX10_goTo 44 = .ok (.iload 5, 2) := by decide +kernel
theorem dX10_goTo_46 : decode cX10_goTo 46 = .ok (.invokevirtual 185, 3) := by decide +kernel
theorem dX10_goTo_49 : decode cX10_goTo 49 = .ok (.ifCond .eq 25, 3) := by decide +kernel
theorem dX10_goTo_52 : decode cX10_goTo 52 = .ok (.aload_n 0, 1) := by decide +kernel
theorem dX10_goTo_53 : decode cX10_goTo 53 = .ok (.getfield 39, 3) := by decide +kernel
theorem dX10_goTo_56 : decode cX10_goTo 56 = .ok (.iload_n 1, 1) := by decide +kernel
theorem dX10_goTo_57 : decode cX10_goTo 57 = .ok (.bipush 6, 2) := by decide +kernel
theorem dX10_goTo_59 : decode cX10_goTo 59 = .ok (.iload 5, 2) := by decide +kernel
theorem dX10_goTo_61 : decode cX10_goTo 61 = .ok (.imul, 1) := by decide +kernel
theorem dX10_goTo_62 : decode cX10_goTo 62 = .ok (.iadd, 1) := by decide +kernel
theorem dX10_goTo_63 : decode cX10_goTo 63 = .ok (.iconst 0, 1) := by decide +kernel
theorem dX10_goTo_64 : decode cX10_goTo 64 = .ok (.iadd, 1) := by decide +kernel
theorem dX10_goTo_65 : decode cX10_goTo 65 = .ok (.iaload, 1) := by decide +kernel
theorem dX10_goTo_66 : decode cX10_goTo 66 = .ok (.iload_n 3, 1) := by decide +kernel
theorem dX10_goTo_67 : decode cX10_goTo 67 = .ok (.if_icmp .ne 7, 3) := by decide +kernel
theorem dX10_goTo_70 : decode cX10_goTo 70 = .ok (.iconst 1, 1) := by decide +kernel
theorem dX10_goTo_71 : decode cX10_goTo 71 = .ok (.goto 4, 3) := by decide +kernel
theorem dX10_goTo_74 : decode cX10_goTo 74 = .ok (.iconst 0, 1) := by decide +kernel
theorem dX10_goTo_75 : decode cX10_goTo 75 = .ok (.istore 6, 2) := by decide +kernel
theorem dX10_goTo_77 : decode cX10_goTo 77 = .ok (.iload 6, 2) := by decide +kernel
theorem dX10_goTo_79 : decode cX10_goTo 79 = .ok (.ifCond .eq 78, 3) := by decide +kernel
theorem dX10_goTo_82 : decode cX10_goTo 82 = .ok (.aload_n 0, 1) := by decide +kernel
theorem dX10_goTo_83 : decode cX10_goTo 83 = .ok (.getfield 29, 3) := by decide +kernel
theorem dX10_goTo_86 : decode cX10_goTo 86 = .ok (.iload 5, 2) := by decide +kernel
theorem dX10_goTo_88 : decode cX10_goTo 88 = .ok (.iaload, 1) := by decide +kernel
theorem dX10_goTo_89 : decode cX10_goTo 89 = .ok (.iconst 3, 1) := by decide +kernel
theorem dX10_goTo_90 : decode cX10_goTo 90 = .ok (.if_icmp .ne 67, 3) := by decide +kernel
theorem dX10_goTo_93 : decode cX10_goTo 93 = .ok (.aload_n 0, 1) := by decide +kernel
theorem dX10_goTo_94 : decode cX10_goTo 94 = .ok (.getfield 29, 3) := by decide +kernel
theorem dX10_goTo_97 : decode cX10_goTo 97 = .ok (.iload_n 2, 1) := by decide +kernel
theorem dX10_goTo_98 : decode cX10_goTo 98 = .ok (.iaload, 1) := by decide +kernel
theorem dX10_goTo_99 : decode cX10_goTo 99 = .ok (.ifCond .ne 58, 3) := by decide +kernel
theorem dX10_goTo_102 : decode cX10_goTo 102 = .ok (.aload_n 0, 1) := by decide +kernel
theorem dX10_goTo_103 : decode cX10_goTo 103 = .ok (.getfield 39, 3) := by decide +kernel
theorem dX10_goTo_106 : decode cX10_goTo 106 = .ok (.iload 4, 2) := by decide +kernel
theorem dX10_goTo_108 : decode cX10_goTo 108 = .ok (.iconst 1, 1) := by decide +kernel
theorem dX10_goTo_109 : decode cX10_goTo 109 = .ok (.iadd, 1) := by decide +kernel
theorem dX10_goTo_110 : decode cX10_goTo 110 = .ok (.aload_n 0, 1) := by decide +kernel
theorem dX10_goTo_111 : decode cX10_goTo 111 = .ok (.getfield 39, 3) := by decide +kernel
theorem dX10_goTo_114 : decode cX10_goTo 114 = .ok (.iload 4, 2) := by decide +kernel
theorem dX10_goTo_116 : decode cX10_goTo 116 = .ok (.iconst 1, 1) := by decide +kernel
theorem dX10_goTo_117 : decode cX10_goTo 117 = .ok (.iadd, 1) := by decide +kernel
theorem dX10_goTo_118 : decode cX10_goTo 118 = .ok (.iaload, 1) := by decide +kernel
theorem dX10_goTo_119 : decode cX10_goTo 119 = .ok (.iconst 3, 1) := by decide +kernel
theorem dX10_goTo_120 : decode cX10_goTo 120 = .ok (.if_icmp .le 7, 3) := by decide +kernel
theorem dX10_goTo_123 : decode cX10_goTo 123 = .ok (.iconst 5, 1) := by decide +kernel
theorem dX10_goTo_124 : decode cX10_goTo 124 = .ok (.goto 14, 3) := by decide +kernel
theorem dX10_goTo_127 : decode cX10_goTo 127 = .ok (.aload_n 0, 1) := by decide +kernel
theorem dX10_goTo_128 : decode cX10_goTo 128 = .ok (.getfield 39, 3) := by decide +kernel
theorem dX10_goTo_131 : decode cX10_goTo 131 = .ok (.iload 4, 2) := by decide +kernel
theorem dX10_goTo_133 : decode cX10_goTo 133 = .ok (.iconst 1, 1) := by decide +kernel
theorem dX10_goTo_134 : decode cX10_goTo 134 = .ok (.iadd, 1) := by decide +kernel
theorem dX10_goTo_135 : decode cX10_goTo 135 = .ok (.iaload, 1) := by decide +kernel
theorem dX10_goTo_136 : decode cX10_goTo 136 = .ok (.iconst 2, 1) := by decide +kernel
theorem dX10_goTo_137 : decode cX10_goTo 137 = .ok (.iadd, 1) := by decide +kernel
theorem dX10_goTo_138 : decode cX10_goTo 138 = .ok (.iastore, 1) := by decide +kernel
theorem dX10_goTo_139 : decode cX10_goTo 139 = .ok (.aload_n 0, 1) := by decide +kernel
theorem dX10_goTo_140 : decode cX10_goTo 140 = .ok (.getfield 39, 3) := by decide +kernel
theorem dX10_goTo_143 : decode cX10_goTo 143 = .ok (.iload_n 1, 1) := by decide +kernel
theorem dX10_goTo_144 : decode cX10_goTo 144 = .ok (.bipush 6, 2) := by decide +kernel
theorem dX10_goTo_146 : decode cX10_goTo 146 = .ok (.iload 5, 2) := by decide +kernel
theorem dX10_goTo_148 : decode cX10_goTo 148 = .ok (.imul, 1) := by decide +kernel
theorem dX10_goTo_149 : decode cX10_goTo 149 = .ok (.iadd, 1) := by decide +kernel
theorem dX10_goTo_150 : decode cX10_goTo 150 = .ok (.iconst 0, 1) := by decide +kernel
theorem dX10_goTo_151 : decode cX10_goTo 151 = .ok (.iadd, 1) := by decide +kernel
theorem dX10_goTo_152 : decode cX10_goTo 152 = .ok (.iconst (-1), 1) := by decide +kernel
theorem dX10_goTo_153 : decode cX10_goTo 153 = .ok (.iastore, 1) := by decide +kernel
theorem dX10_goTo_154 : decode cX10_goTo 154 = .ok (.goto 41, 3) := by decide +kernel
theorem dX10_goTo_157 : decode cX10_goTo 157 = .ok (.iload 6, 2) := by decide +kernel
theorem dX10_goTo_159 : decode cX10_goTo 159 = .ok (.ifCond .eq 36, 3) := by decide +kernel
theorem dX10_goTo_162 : decode cX10_goTo 162 = .ok (.aload_n 0, 1) := by decide +kernel
theorem dX10_goTo_163 : decode cX10_goTo 163 = .ok (.getfield 29, 3) := by decide +kernel
theorem dX10_goTo_166 : decode cX10_goTo 166 = .ok (.iload 5, 2) := by decide +kernel
theorem dX10_goTo_168 : decode cX10_goTo 168 = .ok (.iaload, 1) := by decide +kernel
theorem dX10_goTo_169 : decode cX10_goTo 169 = .ok (.iconst 4, 1) := by decide +kernel
theorem dX10_goTo_170 : decode cX10_goTo 170 = .ok (.if_icmp .ne 25, 3) := by decide +kernel
theorem dX10_goTo_173 : decode cX10_goTo 173 = .ok (.aload_n 0, 1) := by decide +kernel
theorem dX10_goTo_174 : decode cX10_goTo 174 = .ok (.getfield 39, 3) := by decide +kernel
theorem dX10_goTo_177 : decode cX10_goTo 177 = .ok (.iload_n 1, 1) := by decide +kernel
theorem dX10_goTo_178 : decode cX10_goTo 178 = .ok (.bipush 6, 2) := by decide +kernel
theorem dX10_goTo_180 : decode cX10_goTo 180 = .ok (.iload 5, 2) := by decide +kernel
theorem dX10_goTo_182 : decode cX10_goTo 182 = .ok (.imul, 1) := by decide +kernel
theorem dX10_goTo_183 : decode cX10_goTo 183 = .ok (.iadd, 1) := by decide +kernel
theorem dX10_goTo_184 : decode cX10_goTo 184 = .ok (.iconst 0, 1) := by decide +kernel
theorem dX10_goTo_185 : decode cX10_goTo 185 = .ok (.iadd, 1) := by decide +kernel
theorem dX10_goTo_186 : decode cX10_goTo 186 = .ok (.iconst (-1), 1) := by decide +kernel
theorem dX10_goTo_187 : decode cX10_goTo 187 = .ok (.iastore, 1) := by decide +kernel
theorem dX10_goTo_188 : decode cX10_goTo 188 = .ok (.aload_n 0, 1) := by decide +kernel
theorem dX10_goTo_189 : decode cX10_goTo 189 = .ok (.iload_n 1, 1) := by decide +kernel
theorem dX10_goTo_190 : decode cX10_goTo 190 = .ok (.iload_n 2, 1) := by decide +kernel
theorem dX10_goTo_191 : decode cX10_goTo 191 = .ok (.iconst 2, 1) := by decide +kernel
theorem dX10_goTo_192 : decode cX10_goTo 192 = .ok (.invokevirtual 188, 3) := by decide +kernel
theorem dX10_goTo_195 : decode cX10_goTo 195 = .ok (.iinc 5 1, 3) := by decide +kernel
theorem dX10_goTo_198 : decode cX10_goTo 198 = .ok (.goto (-177), 3) := by decide +kernel
theorem dX10_goTo_201 : decode cX10_goTo 201 = .ok (.return_, 1) := by decide +kernel
theorem dX10_isFree_0 : decode cX10_isFree 0 = .ok (.iload_n 2, 1) := by decide +kernel
theorem dX10_isFree_1 : decode cX10_isFree 1 = .ok (.ifCond .lt 25, 3) := by decide +kernel
theorem dX10_isFree_4 : decode cX10_isFree 4 = .ok (.aload_n 0, 1) := by decide +kernel
theorem dX10_isFree_5 : decode cX10_isFree 5 = .ok (.iload_n 1, 1) := by decide +kernel
theorem dX10_isFree_6 : decode cX10_isFree 6 = .ok (.iload_n 2, 1) := by decide +kernel
theorem dX10_isFree_7 : decode cX10_isFree 7 = .ok (.invokevirtual 175, 3) := by decide +kernel
theorem dX10_isFree_10 : decode cX10_isFree 10 = .ok (.ifCond .ne 16, 3) := by decide +kernel
theorem dX10_isFree_13 : decode cX10_isFree 13 = .ok (.aload_n 0, 1) := by decide +kernel
theorem dX10_isFree_14 : decode cX10_isFree 14 = .ok (.iload_n 1, 1) := by decide +kernel
theorem dX10_isFree_15 : decode cX10_isFree 15 = .ok (.iload_n 2, 1) := by decide +kernel
theorem dX10_isFree_16 : decode cX10_isFree 16 = .ok (.invokevirtual 156, 3) := by decide +kernel
theorem dX10_isFree_19 : decode cX10_isFree 19 = .ok (.ifCond .ge 7, 3) := by decide +kernel
theorem dX10_isFree_22 : decode cX10_isFree 22 = .ok (.iconst 1, 1) := by decide +kernel
theorem dX10_isFree_23 : decode cX10_isFree 23 = .ok (.goto 4, 3) := by decide +kernel
theorem dX10_isFree_26 : decode cX10_isFree 26 = .ok (.iconst 0, 1) := by decide +kernel
theorem dX10_isFree_27 : decode cX10_isFree 27 = .ok (.ireturn, 1) := by decide +kernel
theorem dX10_shoot_0 : decode cX10_shoot 0 = .ok (.iload_n 1, 1) := by decide +kernel
theorem dX10_shoot_1 : decode cX10_shoot 1 = .ok (.bipush 6, 2) := by decide +kernel
theorem dX10_shoot_3 : decode cX10_shoot 3 = .ok (.iload_n 2, 1) := by decide +kernel
theorem dX10_shoot_4 : decode cX10_shoot 4 = .ok (.imul, 1) := by decide +kernel
theorem dX10_shoot_5 : decode cX10_shoot 5 = .ok (.iadd, 1) := by decide +kernel
theorem dX10_shoot_6 : decode cX10_shoot 6 = .ok (.istore 4, 2) := by decide +kernel
theorem dX10_shoot_8 : decode cX10_shoot 8 = .ok (.aload_n 0, 1) := by decide +kernel
theorem dX10_shoot_9 : decode cX10_shoot 9 = .ok (.getfield 39, 3) := by decide +kernel
theorem dX10_shoot_12 : decode cX10_shoot 12 = .ok (.iload 4, 2) := by decide +kernel
theorem dX10_shoot_14 : decode cX10_shoot 14 = .ok (.iconst 3, 1) := by decide +kernel
theorem dX10_shoot_15 : decode cX10_shoot 15 = .ok (.iadd, 1) := by decide +kernel
theorem dX10_shoot_16 : decode cX10_shoot 16 = .ok (.iaload, 1) := by decide +kernel
theorem dX10_shoot_17 : decode cX10_shoot 17 = .ok (.ifCond .le 5, 3) := by decide +kernel
theorem dX10_shoot_20 : decode cX10_shoot 20 = .ok (.iconst 0, 1) := by decide +kernel
theorem dX10_shoot_21 : decode cX10_shoot 21 = .ok (.ireturn, 1) := by decide +kernel
theorem dX10_shoot_22 : decode cX10_shoot 22 = .ok (.aload_n 0, 1) := by decide +kernel
theorem dX10_shoot_23 : decode cX10_shoot 23 = .ok (.getfield 39, 3) := by decide +kernel
theorem dX10_shoot_26 : decode cX10_shoot 26 = .ok (.iload 4, 2) := by decide +kernel
theorem dX10_shoot_28 : decode cX10_shoot 28 = .ok (.iconst 2, 1) := by decide +kernel
theorem dX10_shoot_29 : decode cX10_shoot 29 = .ok (.iadd, 1) := by decide +kernel
theorem dX10_shoot_30 : decode cX10_shoot 30 = .ok (.iload_n 3, 1) := by decide +kernel
theorem dX10_shoot_31 : decode cX10_shoot 31 = .ok (.iastore, 1) := by decide +kernel
theorem dX10_shoot_32 : decode cX10_shoot 32 = .ok (.aload_n 0, 1) := by decide +kernel
theorem dX10_shoot_33 : decode cX10_shoot 33 = .ok (.getfield 39, 3) := by decide +kernel
theorem dX10_shoot_36 : decode cX10_shoot 36 = .ok (.iload 4, 2) := by decide +kernel
theorem dX10_shoot_38 : decode cX10_shoot 38 = .ok (.iconst 3, 1) := by decide +kernel
theorem dX10_shoot_39 : decode cX10_shoot 39 = .ok (.iadd, 1) := by decide +kernel
theorem dX10_shoot_40 : decode cX10_shoot 40 = .ok (.iconst 3, 1) := by decide +kernel
theorem dX10_shoot_41 : decode cX10_shoot 41 = .ok (.iastore, 1) := by decide +kernel
theorem dX10_shoot_42 : decode cX10_shoot 42 = .ok (.aload_n 0, 1) := by decide +kernel
theorem dX10_shoot_43 : decode cX10_shoot 43 = .ok (.aload_n 0, 1) := by decide +kernel
theorem dX10_shoot_44 : decode cX10_shoot 44 = .ok (.getfield 39, 3) := by decide +kernel
theorem dX10_shoot_47 : decode cX10_shoot 47 = .ok (.iload 4, 2) := by decide +kernel
theorem dX10_shoot_49 : decode cX10_shoot 49 = .ok (.iconst 0, 1) := by decide +kernel
theorem dX10_shoot_50 : decode cX10_shoot 50 = .ok (.iadd, 1) := by decide +kernel
theorem dX10_shoot_51 : decode cX10_shoot 51 = .ok (.iaload, 1) := by decide +kernel
theorem dX10_shoot_52 : decode cX10_shoot 52 = .ok (.iload_n 3, 1) := by decide +kernel
theorem dX10_shoot_53 : decode cX10_shoot 53 = .ok (.invokevirtual 192, 3) := by decide +kernel
theorem dX10_shoot_56 : decode cX10_shoot 56 = .ok (.istore 5, 2) := by decide +kernel
theorem dX10_shoot_58 : decode cX10_shoot 58 = .ok (.iconst 0, 1) := by decide +kernel
theorem dX10_shoot_59 : decode cX10_shoot 59 = .ok (.istore 6, 2) := by decide +kernel
theorem dX10_shoot_61 : decode cX10_shoot 61 = .ok (.iload 6, 2) := by decide +kernel
theorem dX10_shoot_63 : decode cX10_shoot 63 = .ok (.bipush 7, 2) := by decide +kernel
theorem dX10_shoot_65 : decode cX10_shoot 65 = .ok (.if_icmp .ge 60, 3) := by decide +kernel
theorem dX10_shoot_68 : decode cX10_shoot 68 = .ok (.iload 5, 2) := by decide +kernel
theorem dX10_shoot_70 : decode cX10_shoot 70 = .ok (.ifCond .lt 55, 3) := by decide +kernel
theorem dX10_shoot_73 : decode cX10_shoot 73 = .ok (.aload_n 0, 1) := by decide +kernel
theorem dX10_shoot_74 : decode cX10_shoot 74 = .ok (.iload_n 1, 1) := by decide +kernel
theorem dX10_shoot_75 : decode cX10_shoot 75 = .ok (.iload 5, 2) := by decide +kernel
theorem dX10_shoot_77 : decode cX10_shoot 77 = .ok (.invokevirtual 175, 3) := by decide +kernel
theorem dX10_shoot_80 : decode cX10_shoot 80 = .ok (.ifCond .ne 45, 3) := by decide +kernel
theorem dX10_shoot_83 : decode cX10_shoot 83 = .ok (.aload_n 0, 1) := by decide +kernel
theorem dX10_shoot_84 : decode cX10_shoot 84 = .ok (.iload_n 1, 1) := by decide +kernel
theorem dX10_shoot_85 : decode cX10_shoot 85 = .ok (.iload 5, 2) := by decide +kernel
theorem dX10_shoot_87 : decode cX10_shoot 87 = .ok (.invokevirtual 156, 3) := by decide +kernel
theorem dX10_shoot_90 : decode cX10_shoot 90 = .ok (.istore 7, 2) := by decide +kernel
theorem dX10_shoot_92 : decode cX10_shoot 92 = .ok (.iload 7, 2) := by decide +kernel
theorem dX10_shoot_94 : decode cX10_shoot 94 = .ok (.ifCond .lt 16, 3) := by decide +kernel
theorem dX10_shoot_97 : decode cX10_shoot 97 = .ok (.aload_n 0, 1) := by decide +kernel
theorem dX10_shoot_98 : decode cX10_shoot 98 = .ok (.iload_n 1, 1) := by decide +kernel
theorem dX10_shoot_99 : decode cX10_shoot 99 = .ok (.iload 7, 2) := by decide +kernel
theorem dX10_shoot_101 : decode cX10_shoot 101 = .ok (.iconst 1, 1) := by decide +kernel
theorem dX10_shoot_102 : decode cX10_shoot 102 = .ok (.invokevirtual 188, 3) := by decide +kernel
theorem dX10_shoot_105 : decode cX10_shoot 105 = .ok (.iload 7, 2) := by decide +kernel
theorem dX10_shoot_107 : decode cX10_shoot 107 = .ok (.iconst 1, 1) := by decide +kernel
theorem dX10_shoot_108 : decode cX10_shoot 108 = .ok (.iadd, 1) := by decide +kernel
theorem dX10_shoot_109 : decode cX10_shoot 109 = .ok (.ireturn, 1) := by decide +kernel
theorem dX10_shoot_110 : decode cX10_shoot 110 = .ok (.aload_n 0, 1) := by decide +kernel
theorem dX10_shoot_111 : decode cX10_shoot 111 = .ok (.iload 5, 2) := by decide +kernel
theorem dX10_shoot_113 : decode cX10_shoot 113 = .ok (.iload_n 3, 1) := by decide +kernel
theorem dX10_shoot_114 : decode cX10_shoot 114 = .ok (.invokevirtual 192, 3) := by decide +kernel
theorem dX10_shoot_117 : decode cX10_shoot 117 = .ok (.istore 5, 2) := by decide +kernel
theorem dX10_shoot_119 : decode cX10_shoot 119 = .ok (.iinc 6 1, 3) := by decide +kernel
theorem dX10_shoot_122 : decode cX10_shoot 122 = .ok (.goto (-61), 3) := by decide +kernel
theorem dX10_shoot_125 : decode cX10_shoot 125 = .ok (.iconst 0, 1) := by decide +kernel
theorem dX10_shoot_126 : decode cX10_shoot 126 = .ok (.ireturn, 1) := by decide +kernel
theorem dX10_throwIt_0 : decode cX10_throwIt 0 = .ok (.iload_n 1, 1) := by decide +kernel
theorem dX10_throwIt_1 : decode cX10_throwIt 1 = .ok (.bipush 6, 2) := by decide +kernel
theorem dX10_throwIt_3 : decode cX10_throwIt 3 = .ok (.iload_n 2, 1) := by decide +kernel
theorem dX10_throwIt_4 : decode cX10_throwIt 4 = .ok (.imul, 1) := by decide +kernel
theorem dX10_throwIt_5 : decode cX10_throwIt 5 = .ok (.iadd, 1) := by decide +kernel
theorem dX10_throwIt_6 : decode cX10_throwIt 6 = .ok (.istore 4, 2) := by decide +kernel
theorem dX10_throwIt_8 : decode cX10_throwIt 8 = .ok (.aload_n 0, 1) := by decide +kernel
theorem dX10_throwIt_9 : decode cX10_throwIt 9 = .ok (.getfield 39, 3) := by decide +kernel
theorem dX10_throwIt_12 : decode cX10_throwIt 12 = .ok (.iload 4, 2) := by decide +kernel
theorem dX10_throwIt_14 : decode cX10_throwIt 14 = .ok (.iconst 4, 1) := by decide +kernel
theorem dX10_throwIt_15 : decode cX10_throwIt 15 = .ok (.iadd, 1) := by decide +kernel
theorem dX10_throwIt_16 : decode cX10_throwIt 16 = .ok (.iaload, 1) := by decide +kernel
theorem dX10_throwIt_17 : decode cX10_throwIt 17 = .ok (.istore 5, 2) := by decide +kernel
theorem dX10_throwIt_19 : decode cX10_throwIt 19 = .ok (.iload 5, 2) := by decide +kernel
theorem dX10_throwIt_21 : decode cX10_throwIt 21 = .ok (.ifCond .lt 14, 3) := by decide +kernel
theorem dX10_throwIt_24 : decode cX10_throwIt 24 = .ok (.aload_n 0, 1) := by decide +kernel
theorem dX10_throwIt_25 : decode cX10_throwIt 25 = .ok (.getfield 29, 3) := by decide +kernel
theorem dX10_throwIt_28 : decode cX10_throwIt 28 = .ok (.iload 5, 2) := by decide +kernel
theorem dX10_throwIt_30 : decode cX10_throwIt 30 = .ok (.iaload, 1) := by decide +kernel
theorem dX10_throwIt_31 : decode cX10_throwIt 31 = .ok (.iconst 5, 1) := by decide +kernel
theorem dX10_throwIt_32 : decode cX10_throwIt 32 = .ok (.if_icmp .eq 5, 3) := by decide +kernel
theorem dX10_throwIt_35 : decode cX10_throwIt 35 = .ok (.iconst 0, 1) := by decide +kernel
theorem dX10_throwIt_36 : decode cX10_throwIt 36 = .ok (.ireturn, 1) := by decide +kernel
theorem dX10_throwIt_37 : decode cX10_throwIt 37 = .ok (.aload_n 0, 1) := by decide +kernel
theorem dX10_throwIt_38 : decode cX10_throwIt 38 = .ok (.getfield 39, 3) := by decide +kernel
theorem dX10_throwIt_41 : decode cX10_throwIt 41 = .ok (.iload 4, 2) := by decide +kernel
theorem dX10_throwIt_43 : decode cX10_throwIt 43 = .ok (.iconst 2, 1) := by decide +kernel
theorem dX10_throwIt_44 : decode cX10_throwIt 44 = .ok (.iadd, 1) := by decide +kernel
theorem dX10_throwIt_45 : decode cX10_throwIt 45 = .ok (.iload_n 3, 1) := by decide +kernel
theorem dX10_throwIt_46 : decode cX10_throwIt 46 = .ok (.iastore, 1) := by decide +kernel
theorem dX10_throwIt_47 : decode cX10_throwIt 47 = .ok (.aload_n 0, 1) := by decide +kernel
theorem dX10_throwIt_48 : decode cX10_throwIt 48 = .ok (.getfield 39, 3) := by decide +kernel
theorem dX10_throwIt_51 : decode cX10_throwIt 51 = .ok (.iload 4, 2) := by decide +kernel
theorem dX10_throwIt_53 : decode cX10_throwIt 53 = .ok (.iconst 0, 1) := by decide +kernel
theorem dX10_throwIt_54 : decode cX10_throwIt 54 = .ok (.iadd, 1) := by decide +kernel
theorem dX10_throwIt_55 : decode cX10_throwIt 55 = .ok (.iaload, 1) := by decide +kernel
theorem dX10_throwIt_56 : decode cX10_throwIt 56 = .ok (.istore 6, 2) := by decide +kernel
theorem dX10_throwIt_58 : decode cX10_throwIt 58 = .ok (.aload_n 0, 1) := by decide +kernel
theorem dX10_throwIt_59 : decode cX10_throwIt 59 = .ok (.iload 6, 2) := by decide +kernel
theorem dX10_throwIt_61 : decode cX10_throwIt 61 = .ok (.iload_n 3, 1) := by decide +kernel
theorem dX10_throwIt_62 : decode cX10_throwIt 62 = .ok (.invokevirtual 192, 3) := by decide +kernel
theorem dX10_throwIt_65 : decode cX10_throwIt 65 = .ok (.istore 7, 2) := by decide +kernel
theorem dX10_throwIt_67 : decode cX10_throwIt 67 = .ok (.iconst (-1), 1) := by decide +kernel
theorem dX10_throwIt_68 : decode cX10_throwIt 68 = .ok (.istore 8, 2) := by decide +kernel
theorem dX10_throwIt_70 : decode cX10_throwIt 70 = .ok (.iconst 0, 1) := by decide +kernel
theorem dX10_throwIt_71 : decode cX10_throwIt 71 = .ok (.istore 9, 2) := by decide +kernel
theorem dX10_throwIt_73 : decode cX10_throwIt 73 = .ok (.iload 9, 2) := by decide +kernel
theorem dX10_throwIt_75 : decode cX10_throwIt 75 = .ok (.iconst 4, 1) := by decide +kernel
theorem dX10_throwIt_76 : decode cX10_throwIt 76 = .ok (.if_icmp .ge 51, 3) := by decide +kernel
theorem dX10_throwIt_79 : decode cX10_throwIt 79 = .ok (.iload 7, 2) := by decide +kernel
theorem dX10_throwIt_81 : decode cX10_throwIt 81 = .ok (.ifCond .lt 46, 3) := by decide +kernel
theorem dX10_throwIt_84 : decode cX10_throwIt 84 = .ok (.iload 8, 2) := by decide +kernel
theorem dX10_throwIt_86 : decode cX10_throwIt 86 = .ok (.ifCond .ge 41, 3) := by decide +kernel
theorem dX10_throwIt_89 : decode cX10_throwIt 89 = .ok (.aload_n 0, 1) := by decide +kernel
theorem dX10_throwIt_90 : decode cX10_throwIt 90 = .ok (.iload_n 1, 1) := by decide +kernel
theorem dX10_throwIt_91 : decode cX10_throwIt 91 = .ok (.iload 7, 2) := by decide +kernel
theorem dX10_throwIt_93 : decode cX10_throwIt 93 = .ok (.invokevirtual 175, 3) := by decide +kernel
theorem dX10_throwIt_96 : decode cX10_throwIt 96 = .ok (.ifCond .ne 31, 3) := by decide +kernel
theorem dX10_throwIt_99 : decode cX10_throwIt 99 = .ok (.iload 7, 2) := by decide +kernel
theorem dX10_throwIt_101 : decode cX10_throwIt 101 = .ok (.istore 6, 2) := by decide +kernel
theorem dX10_throwIt_103 : decode cX10_throwIt 103 = .ok (.aload_n 0, 1) := by decide +kernel
theorem dX10_throwIt_104 : decode cX10_throwIt 104 = .ok (.iload_n 1, 1) := by decide +kernel
theorem dX10_throwIt_105 : decode cX10_throwIt 105 = .ok (.iload 7, 2) := by decide +kernel
theorem dX10_throwIt_107 : decode cX10_throwIt 107 = .ok (.invokevirtual 156, 3) := by decide +kernel
theorem dX10_throwIt_110 : decode cX10_throwIt 110 = .ok (.istore 8, 2) := by decide +kernel
theorem dX10_throwIt_112 : decode cX10_throwIt 112 = .ok (.aload_n 0, 1) := by decide +kernel
theorem dX10_throwIt_113 : decode cX10_throwIt 113 = .ok (.iload 7, 2) := by decide +kernel
theorem dX10_throwIt_115 : decode cX10_throwIt 115 = .ok (.iload_n 3, 1) := by decide +kernel
theorem dX10_throwIt_116 : decode cX10_throwIt 116 = .ok (.invokevirtual 192, 3) := by decide +kernel
theorem dX10_throwIt_119 : decode cX10_throwIt 119 = .ok (.istore 7, 2) := by decide +kernel
theorem dX10_throwIt_121 : decode cX10_throwIt 121 = .ok (.iinc 9 1, 3) := by decide +kernel
theorem dX10_throwIt_124 : decode cX10_throwIt 124 = .ok (.goto (-51), 3) := by decide +kernel
theorem dX10_throwIt_127 : decode cX10_throwIt 127 = .ok (.aload_n 0, 1) := by decide +kernel
theorem dX10_throwIt_128 : decode cX10_throwIt 128 = .ok (.getfield 39, 3) := by decide +kernel
theorem dX10_throwIt_131 : decode cX10_throwIt 131 = .ok (.iload 4, 2) := by decide +kernel
theorem dX10_throwIt_133 : decode cX10_throwIt 133 = .ok (.iconst 4, 1) := by decide +kernel
theorem dX10_throwIt_134 : decode cX10_throwIt 134 = .ok (.iadd, 1) := by decide +kernel
theorem dX10_throwIt_135 : decode cX10_throwIt 135 = .ok (.iconst (-1), 1) := by decide +kernel
theorem dX10_throwIt_136 : decode cX10_throwIt 136 = .ok (.iastore, 1) := by decide +kernel
theorem dX10_throwIt_137 : decode cX10_throwIt 137 = .ok (.aload_n 0, 1) := by decide +kernel
theorem dX10_throwIt_138 : decode cX10_throwIt 138 = .ok (.getfield 39, 3) := by decide +kernel
theorem dX10_throwIt_141 : decode cX10_throwIt 141 = .ok (.iload_n 1, 1) := by decide +kernel
theorem dX10_throwIt_142 : decode cX10_throwIt 142 = .ok (.bipush 6, 2) := by decide +kernel
theorem dX10_throwIt_144 : decode cX10_throwIt 144 = .ok (.iload 5, 2) := by decide +kernel
theorem dX10_throwIt_146 : decode cX10_throwIt 146 = .ok (.imul, 1) := by decide +kernel
theorem dX10_throwIt_147 : decode cX10_throwIt 147 = .ok (.iadd, 1) := by decide +kernel
theorem dX10_throwIt_148 : decode cX10_throwIt 148 = .ok (.iconst 5, 1) := by decide +kernel
theorem dX10_throwIt_149 : decode cX10_throwIt 149 = .ok (.iadd, 1) := by decide +kernel
theorem dX10_throwIt_150 : decode cX10_throwIt 150 = .ok (.iconst (-1), 1) := by decide +kernel
theorem dX10_throwIt_151 : decode cX10_throwIt 151 = .ok (.iastore, 1) := by decide +kernel
theorem dX10_throwIt_152 : decode cX10_throwIt 152 = .ok (.aload_n 0, 1) := by decide +kernel
theorem dX10_throwIt_153 : decode cX10_throwIt 153 = .ok (.getfield 39, 3) := by decide +kernel
theorem dX10_throwIt_156 : decode cX10_throwIt 156 = .ok (.iload_n 1, 1) := by decide +kernel
theorem dX10_throwIt_157 : decode cX10_throwIt 157 = .ok (.bipush 6, 2) := by decide +kernel
theorem dX10_throwIt_159 : decode cX10_throwIt 159 = .ok (.iload 5, 2) := by decide +kernel
theorem dX10_throwIt_161 : decode cX10_throwIt 161 = .ok (.imul, 1) := by decide +kernel
theorem dX10_throwIt_162 : decode cX10_throwIt 162 = .ok (.iadd, 1) := by decide +kernel
theorem dX10_throwIt_163 : decode cX10_throwIt 163 = .ok (.iconst 0, 1) := by decide +kernel
theorem dX10_throwIt_164 : decode cX10_throwIt 164 = .ok (.iadd, 1) := by decide +kernel
theorem dX10_throwIt_165 : decode cX10_throwIt 165 = .ok (.iload 6, 2) := by decide +kernel
theorem dX10_throwIt_167 : decode cX10_throwIt 167 = .ok (.iastore, 1) := by decide +kernel
theorem dX10_throwIt_168 : decode cX10_throwIt 168 = .ok (.iload 8, 2) := by decide +kernel
theorem dX10_throwIt_170 : decode cX10_throwIt 170 = .ok (.ifCond .lt 11, 3) := by decide +kernel
theorem dX10_throwIt_173 : decode cX10_throwIt 173 = .ok (.aload_n 0, 1) := by decide +kernel
theorem dX10_throwIt_174 : decode cX10_throwIt 174 = .ok (.iload_n 1, 1) := by decide +kernel
theorem dX10_throwIt_175 : decode cX10_throwIt 175 = .ok (.iload 8, 2) := by decide +kernel
theorem dX10_throwIt_177 : decode cX10_throwIt 177 = .ok (.iconst 1, 1) := by decide +kernel
theorem dX10_throwIt_178 : decode cX10_throwIt 178 = .ok (.invokevirtual 188, 3) := by decide +kernel
theorem dX10_throwIt_181 : decode cX10_throwIt 181 = .ok (.iload 8, 2) := by decide +kernel
theorem dX10_throwIt_183 : decode cX10_throwIt 183 = .ok (.iconst 1, 1) := by decide +kernel
theorem dX10_throwIt_184 : decode cX10_throwIt 184 = .ok (.iadd, 1) := by decide +kernel
theorem dX10_throwIt_185 : decode cX10_throwIt 185 = .ok (.ireturn, 1) := by decide +kernel
theorem dX10_take_0 : decode cX10_take 0 = .ok (.iload_n 1, 1) := by decide +kernel
theorem dX10_take_1 : decode cX10_take 1 = .ok (.bipush 6, 2) := by decide +kernel
theorem dX10_take_3 : decode cX10_take 3 = .ok (.iload_n 2, 1) := by decide +kernel
theorem dX10_take_4 : decode cX10_take 4 = .ok (.imul, 1) := by decide +kernel
theorem dX10_take_5 : decode cX10_take 5 = .ok (.iadd, 1) := by decide +kernel
theorem dX10_take_6 : decode cX10_take 6 = .ok (.istore_n 3, 1) := by decide +kernel
theorem dX10_take_7 : decode cX10_take 7 = .ok (.iconst 0, 1) := by decide +kernel
theorem dX10_take_8 : decode cX10_take 8 = .ok (.istore 4, 2) := by decide +kernel
theorem dX10_take_10 : decode cX10_take 10 = .ok (.iload 4, 2) := by decide +kernel
theorem dX10_take_12 : decode cX10_take 12 = .ok (.aload_n 0, 1) := by decide +kernel
theorem dX10_take_13 : decode cX10_take 13 = .ok (.getfield 107, 3) := by decide +kernel
theorem dX10_take_16 : decode cX10_take 16 = .ok (.if_icmp .ge 107, 3) := by decide +kernel
theorem dX10_take_19 : decode cX10_take 19 = .ok (.aload_n 0, 1) := by decide +kernel
theorem dX10_take_20 : decode cX10_take 20 = .ok (.getfield 39, 3) := by decide +kernel
theorem dX10_take_23 : decode cX10_take 23 = .ok (.iload_n 3, 1) := by decide +kernel
theorem dX10_take_24 : decode cX10_take 24 = .ok (.iconst 4, 1) := by decide +kernel
theorem dX10_take_25 : decode cX10_take 25 = .ok (.iadd, 1) := by decide +kernel
theorem dX10_take_26 : decode cX10_take 26 = .ok (.iaload, 1) := by decide +kernel
theorem dX10_take_27 : decode cX10_take 27 = .ok (.ifCond .ge 96, 3) := by decide +kernel
theorem dX10_take_30 : decode cX10_take 30 = .ok (.aload_n 0, 1) := by decide +kernel
theorem dX10_take_31 : decode cX10_take 31 = .ok (.getfield 29, 3) := by decide +kernel
theorem dX10_take_34 : decode cX10_take 34 = .ok (.iload 4, 2) := by decide +kernel
theorem dX10_take_36 : decode cX10_take 36 = .ok (.iaload, 1) := by decide +kernel
theorem dX10_take_37 : decode cX10_take 37 = .ok (.iconst 5, 1) := by decide +kernel
theorem dX10_take_38 : decode cX10_take 38 = .ok (.if_icmp .lt 79, 3) := by decide +kernel
theorem dX10_take_41 : decode cX10_take 41 = .ok (.aload_n 0, 1) := by decide +kernel
theorem dX10_take_42 : decode cX10_take 42 = .ok (.iload_n 1, 1) := by decide +kernel
theorem dX10_take_43 : decode cX10_take 43 = .ok (.iload 4, 2) := by decide +kernel
theorem dX10_take_45 : decode cX10_take 45 = .ok (.invokevirtual 185, 3) := by decide +kernel
theorem dX10_take_48 : decode cX10_take 48 = .ok (.ifCond .eq 69, 3) := by decide +kernel
theorem dX10_take_51 : decode cX10_take 51 = .ok (.aload_n 0, 1) := by decide +kernel
theorem dX10_take_52 : decode cX10_take 52 = .ok (.getfield 39, 3) := by decide +kernel
theorem dX10_take_55 : decode cX10_take 55 = .ok (.iload_n 1, 1) := by decide +kernel
theorem dX10_take_56 : decode cX10_take 56 = .ok (.bipush 6, 2) := by decide +kernel
theorem dX10_take_58 : decode cX10_take 58 = .ok (.iload 4, 2) := by decide +kernel
theorem dX10_take_60 : decode cX10_take 60 = .ok (.imul, 1) := by decide +kernel
theorem dX10_take_61 : decode cX10_take 61 = .ok (.iadd, 1) := by decide +kernel
theorem dX10_take_62 : decode cX10_take 62 = .ok (.iconst 0, 1) := by decide +kernel
theorem dX10_take_63 : decode cX10_take 63 = .ok (.iadd, 1) := by decide +kernel
theorem dX10_take_64 : decode cX10_take 64 = .ok (.iaload, 1) := by decide +kernel
theorem dX10_take_65 : decode cX10_take 65 = .ok (.aload_n 0, 1) := by decide +kernel
theorem dX10_take_66 : decode cX10_take 66 = .ok (.getfield 39, 3) := by decide +kernel
theorem dX10_take_69 : decode cX10_take 69 = .ok (.iload_n 3, 1) := by decide +kernel
theorem dX10_take_70 : decode cX10_take 70 = .ok (.iconst 0, 1) := by decide +kernel
theorem dX10_take_71 : decode cX10_take 71 = .ok (.iadd, 1) := by decide +kernel
theorem dX10_take_72 : decode cX10_take 72 = .ok (.iaload, 1) := by decide +kernel
theorem dX10_take_73 : decode cX10_take 73 = .ok (.if_icmp .ne 44, 3) := by decide +kernel
theorem dX10_take_76 : decode cX10_take 76 = .ok (.aload_n 0, 1) := by decide +kernel
theorem dX10_take_77 : decode cX10_take 77 = .ok (.getfield 39, 3) := by decide +kernel
theorem dX10_take_80 : decode cX10_take 80 = .ok (.iload_n 3, 1) := by decide +kernel
theorem dX10_take_81 : decode cX10_take 81 = .ok (.iconst 4, 1) := by decide +kernel
theorem dX10_take_82 : decode cX10_take 82 = .ok (.iadd, 1) := by decide +kernel
theorem dX10_take_83 : decode cX10_take 83 = .ok (.iload 4, 2) := by decide +kernel
theorem dX10_take_85 : decode cX10_take 85 = .ok (.iastore, 1) := by decide +kernel
theorem dX10_take_86 : decode cX10_take 86 = .ok (.aload_n 0, 1) := by decide +kernel
theorem dX10_take_87 : decode cX10_take 87 = .ok (.getfield 39, 3) := by decide +kernel
theorem dX10_take_90 : decode cX10_take 90 = .ok (.iload_n 1, 1) := by decide +kernel
theorem dX10_take_91 : decode cX10_take 91 = .ok (.bipush 6, 2) := by decide +kernel
theorem dX10_take_93 : decode cX10_take 93 = .ok (.iload 4, 2) := by decide +kernel
theorem dX10_take_95 : decode cX10_take 95 = .ok (.imul, 1) := by decide +kernel
theorem dX10_take_96 : decode cX10_take 96 = .ok (.iadd, 1) := by decide +kernel
theorem dX10_take_97 : decode cX10_take 97 = .ok (.iconst 5, 1) := by decide +kernel
theorem dX10_take_98 : decode cX10_take 98 = .ok (.iadd, 1) := by decide +kernel
theorem dX10_take_99 : decode cX10_take 99 = .ok (.iload_n 2, 1) := by decide +kernel
theorem dX10_take_100 : decode cX10_take 100 = .ok (.iastore, 1) := by decide +kernel
theorem dX10_take_101 : decode cX10_take 101 = .ok (.aload_n 0, 1) := by decide +kernel
theorem dX10_take_102 : decode cX10_take 102 = .ok (.getfield 39, 3) := by decide +kernel
theorem dX10_take_105 : decode cX10_take 105 = .ok (.iload_n 1, 1) := by decide +kernel
theorem dX10_take_106 : decode cX10_take 106 = .ok (.bipush 6, 2) := by decide +kernel
theorem dX10_take_108 : decode cX10_take 108 = .ok (.iload 4, 2) := by decide +kernel
theorem dX10_take_110 : decode cX10_take 110 = .ok (.imul, 1) := by decide +kernel
theorem dX10_take_111 : decode cX10_take 111 = .ok (.iadd, 1) := by decide +kernel
theorem dX10_take_112 : decode cX10_take 112 = .ok (.iconst 0, 1) := by decide +kernel
theorem dX10_take_113 : decode cX10_take 113 = .ok (.iadd, 1) := by decide +kernel
theorem dX10_take_114 : decode cX10_take 114 = .ok (.bipush (-2), 2) := by decide +kernel
theorem dX10_take_116 : decode cX10_take 116 = .ok (.iastore, 1) := by decide +kernel
theorem dX10_take_117 : decode cX10_take 117 = .ok (.iinc 4 1, 3) := by decide +kernel
theorem dX10_take_120 : decode cX10_take 120 = .ok (.goto (-110), 3) := by decide +kernel
theorem dX10_take_123 : decode cX10_take 123 = .ok (.return_, 1) := by decide +kernel
theorem dX10_does_0 : decode cX10_does 0 = .ok (.iload_n 1, 1) := by decide +kernel
theorem dX10_does_1 : decode cX10_does 1 = .ok (.bipush 6, 2) := by decide +kernel
theorem dX10_does_3 : decode cX10_does 3 = .ok (.iload_n 2, 1) := by decide +kernel
theorem dX10_does_4 : decode cX10_does 4 = .ok (.imul, 1) := by decide +kernel
theorem dX10_does_5 : decode cX10_does 5 = .ok (.iadd, 1) := by decide +kernel
theorem dX10_does_6 : decode cX10_does 6 = .ok (.istore 4, 2) := by decide +kernel
theorem dX10_does_8 : decode cX10_does 8 = .ok (.iload_n 3, 1) := by decide +kernel
theorem dX10_does_9 : decode cX10_does 9 = .ok (.bipush 16, 2) := by decide +kernel
theorem dX10_does_11 : decode cX10_does 11 = .ok (.idiv, 1) := by decide +kernel
theorem dX10_does_12 : decode cX10_does 12 = .ok (.iconst 4, 1) := by decide +kernel
theorem dX10_does_13 : decode cX10_does 13 = .ok (.irem, 1) := by decide +kernel
theorem dX10_does_14 : decode cX10_does 14 = .ok (.istore 5, 2) := by decide +kernel
theorem dX10_does_16 : decode cX10_does 16 = .ok (.aload_n 0, 1) := by decide +kernel
theorem dX10_does_17 : decode cX10_does 17 = .ok (.aload_n 0, 1) := by decide +kernel
theorem dX10_does_18 : decode cX10_does 18 = .ok (.getfield 39, 3) := by decide +kernel
theorem dX10_does_21 : decode cX10_does 21 = .ok (.iload 4, 2) := by decide +kernel
theorem dX10_does_23 : decode cX10_does 23 = .ok (.iconst 0, 1) := by decide +kernel
theorem dX10_does_24 : decode cX10_does 24 = .ok (.iadd, 1) := by decide +kernel
theorem dX10_does_25 : decode cX10_does 25 = .ok (.iaload, 1) := by decide +kernel
theorem dX10_does_26 : decode cX10_does 26 = .ok (.iload 5, 2) := by decide +kernel
theorem dX10_does_28 : decode cX10_does 28 = .ok (.invokevirtual 192, 3) := by decide +kernel
theorem dX10_does_31 : decode cX10_does 31 = .ok (.istore 6, 2) := by decide +kernel
theorem dX10_does_33 : decode cX10_does 33 = .ok (.iload_n 3, 1) := by decide +kernel
theorem dX10_does_34 : decode cX10_does 34 = .ok (.bipush 16, 2) := by decide +kernel
theorem dX10_does_36 : decode cX10_does 36 = .ok (.irem, 1) := by decide +kernel
theorem dX10_does_37 : decode cX10_does 37 = .ok (.tableswitch 181 1 6 #[39, 70, 79, 144, 152, 172], 39) := by decide +kernel
theorem dX10_does_76 : decode cX10_does 76 = .ok (.aload_n 0, 1) := by decide +kernel
theorem dX10_does_77 : decode cX10_does 77 = .ok (.getfield 39, 3) := by decide +kernel
theorem dX10_does_80 : decode cX10_does 80 = .ok (.iload 4, 2) := by decide +kernel
theorem dX10_does_82 : decode cX10_does 82 = .ok (.iconst 2, 1) := by decide +kernel
theorem dX10_does_83 : decode cX10_does 83 = .ok (.iadd, 1) := by decide +kernel
theorem dX10_does_84 : decode cX10_does 84 = .ok (.iload 5, 2) := by decide +kernel
theorem dX10_does_86 : decode cX10_does 86 = .ok (.iastore, 1) := by decide +kernel
theorem dX10_does_87 : decode cX10_does 87 = .ok (.aload_n 0, 1) := by decide +kernel
theorem dX10_does_88 : decode cX10_does 88 = .ok (.iload_n 1, 1) := by decide +kernel
theorem dX10_does_89 : decode cX10_does 89 = .ok (.iload 6, 2) := by decide +kernel
theorem dX10_does_91 : decode cX10_does 91 = .ok (.invokevirtual 195, 3) := by decide +kernel
theorem dX10_does_94 : decode cX10_does 94 = .ok (.ifCond .eq 11, 3) := by decide +kernel
theorem dX10_does_97 : decode cX10_does 97 = .ok (.aload_n 0, 1) := by decide +kernel
theorem dX10_does_98 : decode cX10_does 98 = .ok (.iload_n 1, 1) := by decide +kernel
theorem dX10_does_99 : decode cX10_does 99 = .ok (.iload_n 2, 1) := by decide +kernel
theorem dX10_does_100 : decode cX10_does 100 = .ok (.iload 6, 2) := by decide +kernel
theorem dX10_does_102 : decode cX10_does 102 = .ok (.invokevirtual 198, 3) := by decide +kernel
theorem dX10_does_105 : decode cX10_does 105 = .ok (.iconst 0, 1) := by decide +kernel
theorem dX10_does_106 : decode cX10_does 106 = .ok (.ireturn, 1) := by decide +kernel
theorem dX10_does_107 : decode cX10_does 107 = .ok (.aload_n 0, 1) := by decide +kernel
theorem dX10_does_108 : decode cX10_does 108 = .ok (.iload_n 1, 1) := by decide +kernel
theorem dX10_does_109 : decode cX10_does 109 = .ok (.iload_n 2, 1) := by decide +kernel
theorem dX10_does_110 : decode cX10_does 110 = .ok (.iload 5, 2) := by decide +kernel
theorem dX10_does_112 : decode cX10_does 112 = .ok (.invokevirtual 201, 3) := by decide +kernel
theorem dX10_does_115 : decode cX10_does 115 = .ok (.ireturn, 1) := by decide +kernel
theorem dX10_does_116 : decode cX10_does 116 = .ok (.aload_n 0, 1) := by decide +kernel
theorem dX10_does_117 : decode cX10_does 117 = .ok (.getfield 39, 3) := by decide +kernel
theorem dX10_does_120 : decode cX10_does 120 = .ok (.iload 4, 2) := by decide +kernel
theorem dX10_does_122 : decode cX10_does 122 = .ok (.iconst 2, 1) := by decide +kernel
theorem dX10_does_123 : decode cX10_does 123 = .ok (.iadd, 1) := by decide +kernel
theorem dX10_does_124 : decode cX10_does 124 = .ok (.iload 5, 2) := by decide +kernel
theorem dX10_does_126 : decode cX10_does 126 = .ok (.iastore, 1) := by decide +kernel
theorem dX10_does_127 : decode cX10_does 127 = .ok (.iload 6, 2) := by decide +kernel
theorem dX10_does_129 : decode cX10_does 129 = .ok (.ifCond .lt 50, 3) := by decide +kernel
theorem dX10_does_132 : decode cX10_does 132 = .ok (.aload_n 0, 1) := by decide +kernel
theorem dX10_does_133 : decode cX10_does 133 = .ok (.iload_n 1, 1) := by decide +kernel
theorem dX10_does_134 : decode cX10_does 134 = .ok (.iload 6, 2) := by decide +kernel
theorem dX10_does_136 : decode cX10_does 136 = .ok (.invokevirtual 165, 3) := by decide +kernel
theorem dX10_does_139 : decode cX10_does 139 = .ok (.ifCond .eq 40, 3) := by decide +kernel
theorem dX10_does_142 : decode cX10_does 142 = .ok (.aload_n 0, 1) := by decide +kernel
theorem dX10_does_143 : decode cX10_does 143 = .ok (.getfield 26, 3) := by decide +kernel
theorem dX10_does_146 : decode cX10_does 146 = .ok (.aload_n 0, 1) := by decide +kernel
theorem dX10_does_147 : decode cX10_does 147 = .ok (.getfield 23, 3) := by decide +kernel
theorem dX10_does_150 : decode cX10_does 150 = .ok (.iload 6, 2) := by decide +kernel
theorem dX10_does_152 : decode cX10_does 152 = .ok (.iaload, 1) := by decide +kernel
theorem dX10_does_153 : decode cX10_does 153 = .ok (.iaload, 1) := by decide +kernel
theorem dX10_does_154 : decode cX10_does 154 = .ok (.iload_n 3, 1) := by decide +kernel
theorem dX10_does_155 : decode cX10_does 155 = .ok (.bipush 64, 2) := by decide +kernel
theorem dX10_does_157 : decode cX10_does 157 = .ok (.idiv, 1) := by decide +kernel
theorem dX10_does_158 : decode cX10_does 158 = .ok (.if_icmp .ne 21, 3) := by decide +kernel
theorem dX10_does_161 : decode cX10_does 161 = .ok (.aload_n 0, 1) := by decide +kernel
theorem dX10_does_162 : decode cX10_does 162 = .ok (.getfield 39, 3) := by decide +kernel
theorem dX10_does_165 : decode cX10_does 165 = .ok (.iload_n 1, 1) := by decide +kernel
theorem dX10_does_166 : decode cX10_does 166 = .ok (.bipush 96, 2) := by decide +kernel
theorem dX10_does_168 : decode cX10_does 168 = .ok (.iadd, 1) := by decide +kernel
theorem dX10_does_169 : decode cX10_does 169 = .ok (.aload_n 0, 1) := by decide +kernel
theorem dX10_does_170 : decode cX10_does 170 = .ok (.getfield 23, 3) := by decide +kernel
theorem dX10_does_173 : decode cX10_does 173 = .ok (.iload 6, 2) := by decide +kernel
theorem dX10_does_175 : decode cX10_does 175 = .ok (.iaload, 1) := by decide +kernel
theorem dX10_does_176 : decode cX10_does 176 = .ok (.iadd, 1) := by decide +kernel
theorem dX10_does_177 : decode cX10_does 177 = .ok (.iconst 1, 1) := by decide +kernel
theorem dX10_does_178 : decode cX10_does 178 = .ok (.iastore, 1) := by decide +kernel
theorem dX10_does_179 : decode cX10_does 179 = .ok (.iconst 0, 1) := by decide +kernel
theorem dX10_does_180 : decode cX10_does 180 = .ok (.ireturn, 1) := by decide +kernel
theorem dX10_does_181 : decode cX10_does 181 = .ok (.aload_n 0, 1) := by decide +kernel
theorem dX10_does_182 : decode cX10_does 182 = .ok (.iload_n 1, 1) := by decide +kernel
theorem dX10_does_183 : decode cX10_does 183 = .ok (.iload_n 2, 1) := by decide +kernel
theorem dX10_does_184 : decode cX10_does 184 = .ok (.invokevirtual 205, 3) := by decide +kernel
theorem dX10_does_187 : decode cX10_does 187 = .ok (.iconst 0, 1) := by decide +kernel
theorem dX10_does_188 : decode cX10_does 188 = .ok (.ireturn, 1) := by decide +kernel
theorem dX10_does_189 : decode cX10_does 189 = .ok (.aload_n 0, 1) := by decide +kernel
theorem dX10_does_190 : decode cX10_does 190 = .ok (.getfield 39, 3) := by decide +kernel
theorem dX10_does_193 : decode cX10_does 193 = .ok (.iload 4, 2) := by decide +kernel
theorem dX10_does_195 : decode cX10_does 195 = .ok (.iconst 4, 1) := by decide +kernel
theorem dX10_does_196 : decode cX10_does 196 = .ok (.iadd, 1) := by decide +kernel
theorem dX10_does_197 : decode cX10_does 197 = .ok (.iaload, 1) := by decide +kernel
theorem dX10_does_198 : decode cX10_does 198 = .ok (.ifCond .lt 9, 3) := by decide +kernel
theorem dX10_does_201 : decode cX10_does 201 = .ok (.aload_n 0, 1) := by decide +kernel
theorem dX10_does_202 : decode cX10_does 202 = .ok (.iload_n 1, 1) := by decide +kernel
theorem dX10_does_203 : decode cX10_does 203 = .ok (.iload_n 2, 1) := by decide +kernel
theorem dX10_does_204 : decode cX10_does 204 = .ok (.invokevirtual 182, 3) := by decide +kernel
theorem dX10_does_207 : decode cX10_does 207 = .ok (.iconst 0, 1) := by decide +kernel
theorem dX10_does_208 : decode cX10_does 208 = .ok (.ireturn, 1) := by decide +kernel
theorem dX10_does_209 : decode cX10_does 209 = .ok (.aload_n 0, 1) := by decide +kernel
theorem dX10_does_210 : decode cX10_does 210 = .ok (.iload_n 1, 1) := by decide +kernel
theorem dX10_does_211 : decode cX10_does 211 = .ok (.iload_n 2, 1) := by decide +kernel
theorem dX10_does_212 : decode cX10_does 212 = .ok (.iload 5, 2) := by decide +kernel
theorem dX10_does_214 : decode cX10_does 214 = .ok (.invokevirtual 208, 3) := by decide +kernel
theorem dX10_does_217 : decode cX10_does 217 = .ok (.ireturn, 1) := by decide +kernel
theorem dX10_does_218 : decode cX10_does 218 = .ok (.iconst 0, 1) := by decide +kernel
theorem dX10_does_219 : decode cX10_does 219 = .ok (.ireturn, 1) := by decide +kernel
theorem dX10_far_0 : decode cX10_far 0 = .ok (.iload_n 1, 1) := by decide +kernel
theorem dX10_far_1 : decode cX10_far 1 = .ok (.aload_n 0, 1) := by decide +kernel
theorem dX10_far_2 : decode cX10_far 2 = .ok (.getfield 7, 3) := by decide +kernel
theorem dX10_far_5 : decode cX10_far 5 = .ok (.irem, 1) := by decide +kernel
theorem dX10_far_6 : decode cX10_far 6 = .ok (.iload_n 2, 1) := by decide +kernel
theorem dX10_far_7 : decode cX10_far 7 = .ok (.aload_n 0, 1) := by decide +kernel
theorem dX10_far_8 : decode cX10_far 8 = .ok (.getfield 7, 3) := by decide +kernel
theorem dX10_far_11 : decode cX10_far 11 = .ok (.irem, 1) := by decide +kernel
theorem dX10_far_12 : decode cX10_far 12 = .ok (.isub, 1) := by decide +kernel
theorem dX10_far_13 : decode cX10_far 13 = .ok (.invokestatic 168, 3) := by decide +kernel
theorem dX10_far_16 : decode cX10_far 16 = .ok (.iload_n 1, 1) := by decide +kernel
theorem dX10_far_17 : decode cX10_far 17 = .ok (.aload_n 0, 1) := by decide +kernel
theorem dX10_far_18 : decode cX10_far 18 = .ok (.getfield 7, 3) := by decide +kernel
theorem dX10_far_21 : decode cX10_far 21 = .ok (.idiv, 1) := by decide +kernel
theorem dX10_far_22 : decode cX10_far 22 = .ok (.iload_n 2, 1) := by decide +kernel
theorem dX10_far_23 : decode cX10_far 23 = .ok (.aload_n 0, 1) := by decide +kernel
theorem dX10_far_24 : decode cX10_far 24 = .ok (.getfield 7, 3) := by decide +kernel
theorem dX10_far_27 : decode cX10_far 27 = .ok (.idiv, 1) := by decide +kernel
theorem dX10_far_28 : decode cX10_far 28 = .ok (.isub, 1) := by decide +kernel
theorem dX10_far_29 : decode cX10_far 29 = .ok (.invokestatic 168, 3) := by decide +kernel
theorem dX10_far_32 : decode cX10_far 32 = .ok (.iadd, 1) := by decide +kernel
theorem dX10_far_33 : decode cX10_far 33 = .ok (.ireturn, 1) := by decide +kernel
theorem dX10_prey_0 : decode cX10_prey 0 = .ok (.iconst (-1), 1) := by decide +kernel
theorem dX10_prey_1 : decode cX10_prey 1 = .ok (.istore_n 3, 1) := by decide +kernel
theorem dX10_prey_2 : decode cX10_prey 2 = .ok (.aload_n 0, 1) := by decide +kernel
theorem dX10_prey_3 : decode cX10_prey 3 = .ok (.getfield 39, 3) := by decide +kernel
theorem dX10_prey_6 : decode cX10_prey 6 = .ok (.iload_n 1, 1) := by decide +kernel
theorem dX10_prey_7 : decode cX10_prey 7 = .ok (.bipush 6, 2) := by decide +kernel
theorem dX10_prey_9 : decode cX10_prey 9 = .ok (.iload_n 2, 1) := by decide +kernel
theorem dX10_prey_10 : decode cX10_prey 10 = .ok (.imul, 1) := by decide +kernel
theorem dX10_prey_11 : decode cX10_prey 11 = .ok (.iadd, 1) := by decide +kernel
theorem dX10_prey_12 : decode cX10_prey 12 = .ok (.iconst 0, 1) := by decide +kernel
theorem dX10_prey_13 : decode cX10_prey 13 = .ok (.iadd, 1) := by decide +kernel
theorem dX10_prey_14 : decode cX10_prey 14 = .ok (.iaload, 1) := by decide +kernel
theorem dX10_prey_15 : decode cX10_prey 15 = .ok (.istore 4, 2) := by decide +kernel
theorem dX10_prey_17 : decode cX10_prey 17 = .ok (.iconst 0, 1) := by decide +kernel
theorem dX10_prey_18 : decode cX10_prey 18 = .ok (.istore 5, 2) := by decide +kernel
theorem dX10_prey_20 : decode cX10_prey 20 = .ok (.iload 5, 2) := by decide +kernel
theorem dX10_prey_22 : decode cX10_prey 22 = .ok (.aload_n 0, 1) := by decide +kernel
theorem dX10_prey_23 : decode cX10_prey 23 = .ok (.getfield 16, 3) := by decide +kernel
theorem dX10_prey_26 : decode cX10_prey 26 = .ok (.if_icmp .ge 83, 3) := by decide +kernel
theorem dX10_prey_29 : decode cX10_prey 29 = .ok (.aload_n 0, 1) := by decide +kernel
theorem dX10_prey_30 : decode cX10_prey 30 = .ok (.getfield 39, 3) := by decide +kernel
theorem dX10_prey_33 : decode cX10_prey 33 = .ok (.iload_n 1, 1) := by decide +kernel
theorem dX10_prey_34 : decode cX10_prey 34 = .ok (.bipush 6, 2) := by decide +kernel
theorem dX10_prey_36 : decode cX10_prey 36 = .ok (.iload 5, 2) := by decide +kernel
theorem dX10_prey_38 : decode cX10_prey 38 = .ok (.imul, 1) := by decide +kernel
theorem dX10_prey_39 : decode cX10_prey 39 = .ok (.iadd, 1) := by decide +kernel
theorem dX10_prey_40 : decode cX10_prey 40 = .ok (.iconst 0, 1) := by decide +kernel
theorem dX10_prey_41 : decode cX10_prey 41 = .ok (.iadd, 1) := by decide +kernel
theorem dX10_prey_42 : decode cX10_prey 42 = .ok (.iaload, 1) := by decide +kernel
theorem dX10_prey_43 : decode cX10_prey 43 = .ok (.istore 6, 2) := by decide +kernel
theorem dX10_prey_45 : decode cX10_prey 45 = .ok (.aload_n 0, 1) := by decide +kernel
theorem dX10_prey_46 : decode cX10_prey 46 = .ok (.iload_n 1, 1) := by decide +kernel
theorem dX10_prey_47 : decode cX10_prey 47 = .ok (.iload 5, 2) := by decide +kernel
theorem dX10_prey_49 : decode cX10_prey 49 = .ok (.invokevirtual 161, 3) := by decide +kernel
theorem dX10_prey_52 : decode cX10_prey 52 = .ok (.ifCond .eq 51, 3) := by decide +kernel
theorem dX10_prey_55 : decode cX10_prey 55 = .ok (.aload_n 0, 1) := by decide +kernel
theorem dX10_prey_56 : decode cX10_prey 56 = .ok (.iload_n 1, 1) := by decide +kernel
theorem dX10_prey_57 : decode cX10_prey 57 = .ok (.iload_n 2, 1) := by decide +kernel
theorem dX10_prey_58 : decode cX10_prey 58 = .ok (.iload 6, 2) := by decide +kernel
theorem dX10_prey_60 : decode cX10_prey 60 = .ok (.invokevirtual 211, 3) := by decide +kernel
theorem dX10_prey_63 : decode cX10_prey 63 = .ok (.ifCond .eq 40, 3) := by decide +kernel
theorem dX10_prey_66 : decode cX10_prey 66 = .ok (.iload_n 3, 1) := by decide +kernel
theorem dX10_prey_67 : decode cX10_prey 67 = .ok (.ifCond .lt 33, 3) := by decide +kernel
theorem dX10_prey_70 : decode cX10_prey 70 = .ok (.aload_n 0, 1) := by decide +kernel
theorem dX10_prey_71 : decode cX10_prey 71 = .ok (.iload 4, 2) := by decide +kernel
theorem dX10_prey_73 : decode cX10_prey 73 = .ok (.iload 6, 2) := by decide +kernel
theorem dX10_prey_75 : decode cX10_prey 75 = .ok (.invokevirtual 214, 3) := by decide +kernel
theorem dX10_prey_78 : decode cX10_prey 78 = .ok (.aload_n 0, 1) := by decide +kernel
theorem dX10_prey_79 : decode cX10_prey 79 = .ok (.iload 4, 2) := by decide +kernel
theorem dX10_prey_81 : decode cX10_prey 81 = .ok (.aload_n 0, 1) := by decide +kernel
theorem dX10_prey_82 : decode cX10_prey 82 = .ok (.getfield 39, 3) := by decide +kernel
theorem dX10_prey_85 : decode cX10_prey 85 = .ok (.iload_n 1, 1) := by decide +kernel
theorem dX10_prey_86 : decode cX10_prey 86 = .ok (.bipush 6, 2) := by decide +kernel
theorem dX10_prey_88 : decode cX10_prey 88 = .ok (.iload_n 3, 1) := by decide +kernel
theorem dX10_prey_89 : decode cX10_prey 89 = .ok (.imul, 1) := by decide +kernel
theorem dX10_prey_90 : decode cX10_prey 90 = .ok (.iadd, 1) := by decide +kernel
theorem dX10_prey_91 : decode cX10_prey 91 = .ok (.iconst 0, 1) := by decide +kernel
theorem dX10_prey_92 : decode cX10_prey 92 = .ok (.iadd, 1) := by decide +kernel
theorem dX10_prey_93 : decode cX10_prey 93 = .ok (.iaload, 1) := by decide +kernel
theorem dX10_prey_94 : decode cX10_prey 94 = .ok (.invokevirtual 214, 3) := by decide +kernel
theorem dX10_prey_97 : decode cX10_prey 97 = .ok (.if_icmp .ge 6, 3) := by decide +kernel
theorem dX10_prey_100 : decode cX10_prey 100 = .ok (.iload 5, 2) := by decide +kernel
theorem dX10_prey_102 : decode cX10_prey 102 = .ok (.istore_n 3, 1) := by decide +kernel
theorem dX10_prey_103 : decode cX10_prey 103 = .ok (.iinc 5 1, 3) := by decide +kernel
theorem dX10_prey_106 : decode cX10_prey 106 = .ok (.goto (-86), 3) := by decide +kernel
theorem dX10_prey_109 : decode cX10_prey 109 = .ok (.iload_n 3, 1) := by decide +kernel
theorem dX10_prey_110 : decode cX10_prey 110 = .ok (.ireturn, 1) := by decide +kernel
theorem dX10_hunt_0 : decode cX10_hunt 0 = .ok (.aload_n 0, 1) := by decide +kernel
theorem dX10_hunt_1 : decode cX10_hunt 1 = .ok (.iload_n 1, 1) := by decide +kernel
theorem dX10_hunt_2 : decode cX10_hunt 2 = .ok (.iload_n 2, 1) := by decide +kernel
theorem dX10_hunt_3 : decode cX10_hunt 3 = .ok (.invokevirtual 217, 3) := by decide +kernel
theorem dX10_hunt_6 : decode cX10_hunt 6 = .ok (.istore_n 3, 1) := by decide +kernel
theorem dX10_hunt_7 : decode cX10_hunt 7 = .ok (.iload_n 3, 1) := by decide +kernel
theorem dX10_hunt_8 : decode cX10_hunt 8 = .ok (.ifCond .ge 5, 3) := by decide +kernel
theorem dX10_hunt_11 : decode cX10_hunt 11 = .ok (.iconst 0, 1) := by decide +kernel
theorem dX10_hunt_12 : decode cX10_hunt 12 = .ok (.ireturn, 1) := by decide +kernel
theorem dX10_hunt_13 : decode cX10_hunt 13 = .ok (.aload_n 0, 1) := by decide +kernel
theorem dX10_hunt_14 : decode cX10_hunt 14 = .ok (.getfield 39, 3) := by decide +kernel
theorem dX10_hunt_17 : decode cX10_hunt 17 = .ok (.iload_n 1, 1) := by decide +kernel
theorem dX10_hunt_18 : decode cX10_hunt 18 = .ok (.bipush 6, 2) := by decide +kernel
theorem dX10_hunt_20 : decode cX10_hunt 20 = .ok (.iload_n 2, 1) := by decide +kernel
theorem dX10_hunt_21 : decode cX10_hunt 21 = .ok (.imul, 1) := by decide +kernel
theorem dX10_hunt_22 : decode cX10_hunt 22 = .ok (.iadd, 1) := by decide +kernel
theorem dX10_hunt_23 : decode cX10_hunt 23 = .ok (.iconst 0, 1) := by decide +kernel
theorem dX10_hunt_24 : decode cX10_hunt 24 = .ok (.iadd, 1) := by decide +kernel
theorem dX10_hunt_25 : decode cX10_hunt 25 = .ok (.iaload, 1) := by decide +kernel
theorem dX10_hunt_26 : decode cX10_hunt 26 = .ok (.istore 4, 2) := by decide +kernel
theorem dX10_hunt_28 : decode cX10_hunt 28 = .ok (.aload_n 0, 1) := by decide +kernel
theorem dX10_hunt_29 : decode cX10_hunt 29 = .ok (.getfield 39, 3) := by decide +kernel
theorem dX10_hunt_32 : decode cX10_hunt 32 = .ok (.iload_n 1, 1) := by decide +kernel
theorem dX10_hunt_33 : decode cX10_hunt 33 = .ok (.bipush 6, 2) := by decide +kernel
theorem dX10_hunt_35 : decode cX10_hunt 35 = .ok (.iload_n 3, 1) := by decide +kernel
theorem dX10_hunt_36 : decode cX10_hunt 36 = .ok (.imul, 1) := by decide +kernel
theorem dX10_hunt_37 : decode cX10_hunt 37 = .ok (.iadd, 1) := by decide +kernel
theorem dX10_hunt_38 : decode cX10_hunt 38 = .ok (.iconst 0, 1) := by decide +kernel
theorem dX10_hunt_39 : decode cX10_hunt 39 = .ok (.iadd, 1) := by decide +kernel
theorem dX10_hunt_40 : decode cX10_hunt 40 = .ok (.iaload, 1) := by decide +kernel
theorem dX10_hunt_41 : decode cX10_hunt 41 = .ok (.istore 5, 2) := by decide +kernel
theorem dX10_hunt_43 : decode cX10_hunt 43 = .ok (.aload_n 0, 1) := by decide +kernel
theorem dX10_hunt_44 : decode cX10_hunt 44 = .ok (.iload 4, 2) := by decide +kernel
theorem dX10_hunt_46 : decode cX10_hunt 46 = .ok (.iload 5, 2) := by decide +kernel
theorem dX10_hunt_48 : decode cX10_hunt 48 = .ok (.invokevirtual 214, 3) := by decide +kernel
theorem dX10_hunt_51 : decode cX10_hunt 51 = .ok (.iconst 1, 1) := by decide +kernel
theorem dX10_hunt_52 : decode cX10_hunt 52 = .ok (.if_icmp .ne 12, 3) := by decide +kernel
theorem dX10_hunt_55 : decode cX10_hunt 55 = .ok (.aload_n 0, 1) := by decide +kernel
theorem dX10_hunt_56 : decode cX10_hunt 56 = .ok (.iload_n 1, 1) := by decide +kernel
theorem dX10_hunt_57 : decode cX10_hunt 57 = .ok (.iload_n 3, 1) := by decide +kernel
theorem dX10_hunt_58 : decode cX10_hunt 58 = .ok (.iconst 1, 1) := by decide +kernel
theorem dX10_hunt_59 : decode cX10_hunt 59 = .ok (.invokevirtual 188, 3) := by decide +kernel
theorem dX10_hunt_62 : decode cX10_hunt 62 = .ok (.iconst 1, 1) := by decide +kernel
theorem dX10_hunt_63 : decode cX10_hunt 63 = .ok (.ireturn, 1) := by decide +kernel
theorem dX10_hunt_64 : decode cX10_hunt 64 = .ok (.iload 5, 2) := by decide +kernel
theorem dX10_hunt_66 : decode cX10_hunt 66 = .ok (.aload_n 0, 1) := by decide +kernel
theorem dX10_hunt_67 : decode cX10_hunt 67 = .ok (.getfield 7, 3) := by decide +kernel
theorem dX10_hunt_70 : decode cX10_hunt 70 = .ok (.irem, 1) := by decide +kernel
theorem dX10_hunt_71 : decode cX10_hunt 71 = .ok (.iload 4, 2) := by decide +kernel
theorem dX10_hunt_73 : decode cX10_hunt 73 = .ok (.aload_n 0, 1) := by decide +kernel
theorem dX10_hunt_74 : decode cX10_hunt 74 = .ok (.getfield 7, 3) := by decide +kernel
theorem dX10_hunt_77 : decode cX10_hunt 77 = .ok (.irem, 1) := by decide +kernel
theorem dX10_hunt_78 : decode cX10_hunt 78 = .ok (.isub, 1) := by decide +kernel
theorem dX10_hunt_79 : decode cX10_hunt 79 = .ok (.istore 6, 2) := by decide +kernel
theorem dX10_hunt_81 : decode cX10_hunt 81 = .ok (.iload 5, 2) := by decide +kernel
theorem dX10_hunt_83 : decode cX10_hunt 83 = .ok (.aload_n 0, 1) := by decide +kernel
theorem dX10_hunt_84 : decode cX10_hunt 84 = .ok (.getfield 7, 3) := by decide +kernel
theorem dX10_hunt_87 : decode cX10_hunt 87 = .ok (.idiv, 1) := by decide +kernel
theorem dX10_hunt_88 : decode cX10_hunt 88 = .ok (.iload 4, 2) := by decide +kernel
theorem dX10_hunt_90 : decode cX10_hunt 90 = .ok (.aload_n 0, 1) := by decide +kernel
theorem dX10_hunt_91 : decode cX10_hunt 91 = .ok (.getfield 7, 3) := by decide +kernel
theorem dX10_hunt_94 : decode cX10_hunt 94 = .ok (.idiv, 1) := by decide +kernel
theorem dX10_hunt_95 : decode cX10_hunt 95 = .ok (.isub, 1) := by decide +kernel
theorem dX10_hunt_96 : decode cX10_hunt 96 = .ok (.istore 7, 2) := by decide +kernel
theorem dX10_hunt_98 : decode cX10_hunt 98 = .ok (.iload 6, 2) := by decide +kernel
theorem dX10_hunt_100 : decode cX10_hunt 100 = .ok (.ifCond .ne 7, 3) := by decide +kernel
theorem dX10_hunt_103 : decode cX10_hunt 103 = .ok (.iconst (-1), 1) := by decide +kernel
theorem dX10_hunt_104 : decode cX10_hunt 104 = .ok (.goto 19, 3) := by decide +kernel
theorem dX10_hunt_107 : decode cX10_hunt 107 = .ok (.aload_n 0, 1) := by decide +kernel
theorem dX10_hunt_108 : decode cX10_hunt 108 = .ok (.iload 4, 2) := by decide +kernel
theorem dX10_hunt_110 : decode cX10_hunt 110 = .ok (.iload 6, 2) := by decide +kernel
theorem dX10_hunt_112 : decode cX10_hunt 112 = .ok (.ifCond .le 7, 3) := by decide +kernel
theorem dX10_hunt_115 : decode cX10_hunt 115 = .ok (.iconst 1, 1) := by decide +kernel
theorem dX10_hunt_116 : decode cX10_hunt 116 = .ok (.goto 4, 3) := by decide +kernel
theorem dX10_hunt_119 : decode cX10_hunt 119 = .ok (.iconst 3, 1) := by decide +kernel
theorem dX10_hunt_120 : decode cX10_hunt 120 = .ok (.invokevirtual 192, 3) := by decide +kernel
theorem dX10_hunt_123 : decode cX10_hunt 123 = .ok (.istore 8, 2) := by decide +kernel
theorem dX10_hunt_125 : decode cX10_hunt 125 = .ok (.iload 7, 2) := by decide +kernel
theorem dX10_hunt_127 : decode cX10_hunt 127 = .ok (.ifCond .ne 7, 3) := by decide +kernel
theorem dX10_hunt_130 : decode cX10_hunt 130 = .ok (.iconst (-1), 1) := by decide +kernel
theorem dX10_hunt_131 : decode cX10_hunt 131 = .ok (.goto 19, 3) := by decide +kernel
theorem dX10_hunt_134 : decode cX10_hunt 134 = .ok (.aload_n 0, 1) := by decide +kernel
theorem dX10_hunt_135 : decode cX10_hunt 135 = .ok (.iload 4, 2) := by decide +kernel
theorem dX10_hunt_137 : decode cX10_hunt 137 = .ok (.iload 7, 2) := by decide +kernel
theorem dX10_hunt_139 : decode cX10_hunt 139 = .ok (.ifCond .le 7, 3) := by decide +kernel
theorem dX10_hunt_142 : decode cX10_hunt 142 = .ok (.iconst 2, 1) := by decide +kernel
theorem dX10_hunt_143 : decode cX10_hunt 143 = .ok (.goto 4, 3) := by decide +kernel
theorem dX10_hunt_146 : decode cX10_hunt 146 = .ok (.iconst 0, 1) := by decide +kernel
theorem dX10_hunt_147 : decode cX10_hunt 147 = .ok (.invokevirtual 192, 3) := by decide +kernel
theorem dX10_hunt_150 : decode cX10_hunt 150 = .ok (.istore 9, 2) := by decide +kernel
theorem dX10_hunt_152 : decode cX10_hunt 152 = .ok (.iload 6, 2) := by decide +kernel
theorem dX10_hunt_154 : decode cX10_hunt 154 = .ok (.invokestatic 168, 3) := by decide +kernel
theorem dX10_hunt_157 : decode cX10_hunt 157 = .ok (.iload 7, 2) := by decide +kernel
theorem dX10_hunt_159 : decode cX10_hunt 159 = .ok (.invokestatic 168, 3) := by decide +kernel
theorem dX10_hunt_162 : decode cX10_hunt 162 = .ok (.if_icmp .lt 7, 3) := by decide +kernel
theorem dX10_hunt_165 : decode cX10_hunt 165 = .ok (.iconst 1, 1) := by decide +kernel
theorem dX10_hunt_166 : decode cX10_hunt 166 = .ok (.goto 4, 3) := by decide +kernel
theorem dX10_hunt_169 : decode cX10_hunt 169 = .ok (.iconst 0, 1) := by decide +kernel
theorem dX10_hunt_170 : decode cX10_hunt 170 = .ok (.istore 10, 2) := by decide +kernel
theorem dX10_hunt_172 : decode cX10_hunt 172 = .ok (.iload 10, 2) := by decide +kernel
theorem dX10_hunt_174 : decode cX10_hunt 174 = .ok (.ifCond .eq 8, 3) := by decide +kernel
theorem dX10_hunt_177 : decode cX10_hunt 177 = .ok (.iload 8, 2) := by decide +kernel
theorem dX10_hunt_179 : decode cX10_hunt 179 = .ok (.goto 5, 3) := by decide +kernel
theorem dX10_hunt_182 : decode cX10_hunt 182 = .ok (.iload 9, 2) := by decide +kernel
theorem dX10_hunt_184 : decode cX10_hunt 184 = .ok (.istore 11, 2) := by decide +kernel
theorem dX10_hunt_186 : decode cX10_hunt 186 = .ok (.iload 10, 2) := by decide +kernel
theorem dX10_hunt_188 : decode cX10_hunt 188 = .ok (.ifCond .eq 8, 3) := by decide +kernel
theorem dX10_hunt_191 : decode cX10_hunt 191 = .ok (.iload 9, 2) := by decide +kernel
theorem dX10_hunt_193 : decode cX10_hunt 193 = .ok (.goto 5, 3) := by decide +kernel
theorem dX10_hunt_196 : decode cX10_hunt 196 = .ok (.iload 8, 2) := by decide +kernel
theorem dX10_hunt_198 : decode cX10_hunt 198 = .ok (.istore 12, 2) := by decide +kernel
theorem dX10_hunt_200 : decode cX10_hunt 200 = .ok (.aload_n 0, 1) := by decide +kernel
theorem dX10_hunt_201 : decode cX10_hunt 201 = .ok (.iload_n 1, 1) := by decide +kernel
theorem dX10_hunt_202 : decode cX10_hunt 202 = .ok (.iload 11, 2) := by decide +kernel
theorem dX10_hunt_204 : decode cX10_hunt 204 = .ok (.invokevirtual 195, 3) := by decide +kernel
theorem dX10_hunt_207 : decode cX10_hunt 207 = .ok (.ifCond .eq 14, 3) := by decide +kernel
theorem dX10_hunt_210 : decode cX10_hunt 210 = .ok (.aload_n 0, 1) := by decide +kernel
theorem dX10_hunt_211 : decode cX10_hunt 211 = .ok (.iload_n 1, 1) := by decide +kernel
theorem dX10_hunt_212 : decode cX10_hunt 212 = .ok (.iload_n 2, 1) := by decide +kernel
theorem dX10_hunt_213 : decode cX10_hunt 213 = .ok (.iload 11, 2) := by decide +kernel
theorem dX10_hunt_215 : decode cX10_hunt 215 = .ok (.invokevirtual 198, 3) := by decide +kernel
theorem dX10_hunt_218 : decode cX10_hunt 218 = .ok (.goto 21, 3) := by decide +kernel
theorem dX10_hunt_221 : decode cX10_hunt 221 = .ok (.aload_n 0, 1) := by decide +kernel
theorem dX10_hunt_222 : decode cX10_hunt 222 = .ok (.iload_n 1, 1) := by decide +kernel
theorem dX10_hunt_223 : decode cX10_hunt 223 = .ok (.iload 12, 2) := by decide +kernel
theorem dX10_hunt_225 : decode cX10_hunt 225 = .ok (.invokevirtual 195, 3) := by decide +kernel
theorem dX10_hunt_228 : decode cX10_hunt 228 = .ok (.ifCond .eq 11, 3) := by decide +kernel
theorem dX10_hunt_231 : decode cX10_hunt 231 = .ok (.aload_n 0, 1) := by decide +kernel
theorem dX10_hunt_232 : decode cX10_hunt 232 = .ok (.iload_n 1, 1) := by decide +kernel
theorem dX10_hunt_233 : decode cX10_hunt 233 = .ok (.iload_n 2, 1) := by decide +kernel
theorem dX10_hunt_234 : decode cX10_hunt 234 = .ok (.iload 12, 2) := by decide +kernel
theorem dX10_hunt_236 : decode cX10_hunt 236 = .ok (.invokevirtual 198, 3) := by decide +kernel
theorem dX10_hunt_239 : decode cX10_hunt 239 = .ok (.iconst 0, 1) := by decide +kernel
theorem dX10_hunt_240 : decode cX10_hunt 240 = .ok (.ireturn, 1) := by decide +kernel
theorem dX10_learn_0 : decode cX10_learn 0 = .ok (.iconst 0, 1) := by decide +kernel
theorem dX10_learn_1 : decode cX10_learn 1 = .ok (.istore_n 2, 1) := by decide +kernel
theorem dX10_learn_2 : decode cX10_learn 2 = .ok (.iload_n 2, 1) := by decide +kernel
theorem dX10_learn_3 : decode cX10_learn 3 = .ok (.aload_n 0, 1) := by decide +kernel
theorem dX10_learn_4 : decode cX10_learn 4 = .ok (.getfield 16, 3) := by decide +kernel
theorem dX10_learn_7 : decode cX10_learn 7 = .ok (.if_icmp .ge 64, 3) := by decide +kernel
theorem dX10_learn_10 : decode cX10_learn 10 = .ok (.aload_n 0, 1) := by decide +kernel
theorem dX10_learn_11 : decode cX10_learn 11 = .ok (.getfield 39, 3) := by decide +kernel
theorem dX10_learn_14 : decode cX10_learn 14 = .ok (.iload_n 1, 1) := by decide +kernel
theorem dX10_learn_15 : decode cX10_learn 15 = .ok (.bipush 6, 2) := by decide +kernel
theorem dX10_learn_17 : decode cX10_learn 17 = .ok (.iload_n 2, 1) := by decide +kernel
theorem dX10_learn_18 : decode cX10_learn 18 = .ok (.imul, 1) := by decide +kernel
theorem dX10_learn_19 : decode cX10_learn 19 = .ok (.iadd, 1) := by decide +kernel
theorem dX10_learn_20 : decode cX10_learn 20 = .ok (.iconst 0, 1) := by decide +kernel
theorem dX10_learn_21 : decode cX10_learn 21 = .ok (.iadd, 1) := by decide +kernel
theorem dX10_learn_22 : decode cX10_learn 22 = .ok (.iaload, 1) := by decide +kernel
theorem dX10_learn_23 : decode cX10_learn 23 = .ok (.istore_n 3, 1) := by decide +kernel
theorem dX10_learn_24 : decode cX10_learn 24 = .ok (.aload_n 0, 1) := by decide +kernel
theorem dX10_learn_25 : decode cX10_learn 25 = .ok (.iload_n 1, 1) := by decide +kernel
theorem dX10_learn_26 : decode cX10_learn 26 = .ok (.iload_n 2, 1) := by decide +kernel
theorem dX10_learn_27 : decode cX10_learn 27 = .ok (.invokevirtual 161, 3) := by decide +kernel
theorem dX10_learn_30 : decode cX10_learn 30 = .ok (.ifCond .eq 35, 3) := by decide +kernel
theorem dX10_learn_33 : decode cX10_learn 33 = .ok (.aload_n 0, 1) := by decide +kernel
theorem dX10_learn_34 : decode cX10_learn 34 = .ok (.getfield 19, 3) := by decide +kernel
theorem dX10_learn_37 : decode cX10_learn 37 = .ok (.iload_n 3, 1) := by decide +kernel
theorem dX10_learn_38 : decode cX10_learn 38 = .ok (.iaload, 1) := by decide +kernel
theorem dX10_learn_39 : decode cX10_learn 39 = .ok (.iconst 3, 1) := by decide +kernel
theorem dX10_learn_40 : decode cX10_learn 40 = .ok (.if_icmp .ne 25, 3) := by decide +kernel
theorem dX10_learn_43 : decode cX10_learn 43 = .ok (.aload_n 0, 1) := by decide +kernel
theorem dX10_learn_44 : decode cX10_learn 44 = .ok (.getfield 39, 3) := by decide +kernel
theorem dX10_learn_47 : decode cX10_learn 47 = .ok (.iload_n 1, 1) := by decide +kernel
theorem dX10_learn_48 : decode cX10_learn 48 = .ok (.bipush 108, 2) := by decide +kernel
theorem dX10_learn_50 : decode cX10_learn 50 = .ok (.iadd, 1) := by decide +kernel
theorem dX10_learn_51 : decode cX10_learn 51 = .ok (.iload_n 2, 1) := by decide +kernel
theorem dX10_learn_52 : decode cX10_learn 52 = .ok (.iadd, 1) := by decide +kernel
theorem dX10_learn_53 : decode cX10_learn 53 = .ok (.dup2, 1) := by decide +kernel
theorem dX10_learn_54 : decode cX10_learn 54 = .ok (.iaload, 1) := by decide +kernel
theorem dX10_learn_55 : decode cX10_learn 55 = .ok (.iconst 1, 1) := by decide +kernel
theorem dX10_learn_56 : decode cX10_learn 56 = .ok (.aload_n 0, 1) := by decide +kernel
theorem dX10_learn_57 : decode cX10_learn 57 = .ok (.getfield 23, 3) := by decide +kernel
theorem dX10_learn_60 : decode cX10_learn 60 = .ok (.iload_n 3, 1) := by decide +kernel
theorem dX10_learn_61 : decode cX10_learn 61 = .ok (.iaload, 1) := by decide +kernel
theorem dX10_learn_62 : decode cX10_learn 62 = .ok (.ishl, 1) := by decide +kernel
theorem dX10_learn_63 : decode cX10_learn 63 = .ok (.ior, 1) := by decide +kernel
theorem dX10_learn_64 : decode cX10_learn 64 = .ok (.iastore, 1) := by decide +kernel
theorem dX10_learn_65 : decode cX10_learn 65 = .ok (.iinc 2 1, 3) := by decide +kernel
theorem dX10_learn_68 : decode cX10_learn 68 = .ok (.goto (-66), 3) := by decide +kernel
theorem dX10_learn_71 : decode cX10_learn 71 = .ok (.return_, 1) := by decide +kernel
theorem dX10_work_0 : decode cX10_work 0 = .ok (.bipush 112, 2) := by decide +kernel
theorem dX10_work_2 : decode cX10_work 2 = .ok (.iload_n 1, 1) := by decide +kernel
theorem dX10_work_3 : decode cX10_work 3 = .ok (.iconst 1, 1) := by decide +kernel
theorem dX10_work_4 : decode cX10_work 4 = .ok (.iadd, 1) := by decide +kernel
theorem dX10_work_5 : decode cX10_work 5 = .ok (.imul, 1) := by decide +kernel
theorem dX10_work_6 : decode cX10_work 6 = .ok (.istore_n 2, 1) := by decide +kernel
theorem dX10_work_7 : decode cX10_work 7 = .ok (.iconst 0, 1) := by decide +kernel
theorem dX10_work_8 : decode cX10_work 8 = .ok (.istore_n 3, 1) := by decide +kernel
theorem dX10_work_9 : decode cX10_work 9 = .ok (.iload_n 3, 1) := by decide +kernel
theorem dX10_work_10 : decode cX10_work 10 = .ok (.bipush 112, 2) := by decide +kernel
theorem dX10_work_12 : decode cX10_work 12 = .ok (.if_icmp .ge 28, 3) := by decide +kernel
theorem dX10_work_15 : decode cX10_work 15 = .ok (.aload_n 0, 1) := by decide +kernel
theorem dX10_work_16 : decode cX10_work 16 = .ok (.getfield 39, 3) := by decide +kernel
theorem dX10_work_19 : decode cX10_work 19 = .ok (.iload_n 2, 1) := by decide +kernel
theorem dX10_work_20 : decode cX10_work 20 = .ok (.iload_n 3, 1) := by decide +kernel
theorem dX10_work_21 : decode cX10_work 21 = .ok (.iadd, 1) := by decide +kernel
theorem dX10_work_22 : decode cX10_work 22 = .ok (.aload_n 0, 1) := by decide +kernel
theorem dX10_work_23 : decode cX10_work 23 = .ok (.getfield 39, 3) := by decide +kernel
theorem dX10_work_26 : decode cX10_work 26 = .ok (.iload_n 2, 1) := by decide +kernel
theorem dX10_work_27 : decode cX10_work 27 = .ok (.bipush 112, 2) := by decide +kernel
theorem dX10_work_29 : decode cX10_work 29 = .ok (.isub, 1) := by decide +kernel
theorem dX10_work_30 : decode cX10_work 30 = .ok (.iload_n 3, 1) := by decide +kernel
theorem dX10_work_31 : decode cX10_work 31 = .ok (.iadd, 1) := by decide +kernel
theorem dX10_work_32 : decode cX10_work 32 = .ok (.iaload, 1) := by decide +kernel
theorem dX10_work_33 : decode cX10_work 33 = .ok (.iastore, 1) := by decide +kernel
theorem dX10_work_34 : decode cX10_work 34 = .ok (.iinc 3 1, 3) := by decide +kernel
theorem dX10_work_37 : decode cX10_work 37 = .ok (.goto (-28), 3) := by decide +kernel
theorem dX10_work_40 : decode cX10_work 40 = .ok (.iconst 0, 1) := by decide +kernel
theorem dX10_work_41 : decode cX10_work 41 = .ok (.istore_n 3, 1) := by decide +kernel
theorem dX10_work_42 : decode cX10_work 42 = .ok (.iload_n 3, 1) := by decide +kernel
theorem dX10_work_43 : decode cX10_work 43 = .ok (.aload_n 0, 1) := by decide +kernel
theorem dX10_work_44 : decode cX10_work 44 = .ok (.getfield 16, 3) := by decide +kernel
theorem dX10_work_47 : decode cX10_work 47 = .ok (.if_icmp .ge 87, 3) := by decide +kernel
theorem dX10_work_50 : decode cX10_work 50 = .ok (.iload_n 1, 1) := by decide +kernel
theorem dX10_work_51 : decode cX10_work 51 = .ok (.iload_n 3, 1) := by decide +kernel
theorem dX10_work_52 : decode cX10_work 52 = .ok (.iadd, 1) := by decide +kernel
theorem dX10_work_53 : decode cX10_work 53 = .ok (.aload_n 0, 1) := by decide +kernel
theorem dX10_work_54 : decode cX10_work 54 = .ok (.getfield 16, 3) := by decide +kernel
theorem dX10_work_57 : decode cX10_work 57 = .ok (.irem, 1) := by decide +kernel
theorem dX10_work_58 : decode cX10_work 58 = .ok (.istore 4, 2) := by decide +kernel
theorem dX10_work_60 : decode cX10_work 60 = .ok (.aload_n 0, 1) := by decide +kernel
theorem dX10_work_61 : decode cX10_work 61 = .ok (.getfield 49, 3) := by decide +kernel
theorem dX10_work_64 : decode cX10_work 64 = .ok (.iconst 4, 1) := by decide +kernel
theorem dX10_work_65 : decode cX10_work 65 = .ok (.iload_n 1, 1) := by decide +kernel
theorem dX10_work_66 : decode cX10_work 66 = .ok (.imul, 1) := by decide +kernel
theorem dX10_work_67 : decode cX10_work 67 = .ok (.iload 4, 2) := by decide +kernel
theorem dX10_work_69 : decode cX10_work 69 = .ok (.iadd, 1) := by decide +kernel
theorem dX10_work_70 : decode cX10_work 70 = .ok (.iconst 0, 1) := by decide +kernel
theorem dX10_work_71 : decode cX10_work 71 = .ok (.iastore, 1) := by decide +kernel
theorem dX10_work_72 : decode cX10_work 72 = .ok (.aload_n 0, 1) := by decide +kernel
theorem dX10_work_73 : decode cX10_work 73 = .ok (.iload_n 2, 1) := by decide +kernel
theorem dX10_work_74 : decode cX10_work 74 = .ok (.iload 4, 2) := by decide +kernel
theorem dX10_work_76 : decode cX10_work 76 = .ok (.invokevirtual 161, 3) := by decide +kernel
theorem dX10_work_79 : decode cX10_work 79 = .ok (.ifCond .eq 49, 3) := by decide +kernel
theorem dX10_work_82 : decode cX10_work 82 = .ok (.aload_n 0, 1) := by decide +kernel
theorem dX10_work_83 : decode cX10_work 83 = .ok (.getfield 42, 3) := by decide +kernel
theorem dX10_work_86 : decode cX10_work 86 = .ok (.iconst 4, 1) := by decide +kernel
theorem dX10_work_87 : decode cX10_work 87 = .ok (.iload_n 1, 1) := by decide +kernel
theorem dX10_work_88 : decode cX10_work 88 = .ok (.imul, 1) := by decide +kernel
theorem dX10_work_89 : decode cX10_work 89 = .ok (.iload 4, 2) := by decide +kernel
theorem dX10_work_91 : decode cX10_work 91 = .ok (.iadd, 1) := by decide +kernel
theorem dX10_work_92 : decode cX10_work 92 = .ok (.iaload, 1) := by decide +kernel
theorem dX10_work_93 : decode cX10_work 93 = .ok (.sipush 4096, 3) := by decide +kernel
theorem dX10_work_96 : decode cX10_work 96 = .ok (.if_icmp .eq 32, 3) := by decide +kernel
theorem dX10_work_99 : decode cX10_work 99 = .ok (.aload_n 0, 1) := by decide +kernel
theorem dX10_work_100 : decode cX10_work 100 = .ok (.getfield 49, 3) := by decide +kernel
theorem dX10_work_103 : decode cX10_work 103 = .ok (.iconst 4, 1) := by decide +kernel
theorem dX10_work_104 : decode cX10_work 104 = .ok (.iload_n 1, 1) := by decide +kernel
theorem dX10_work_105 : decode cX10_work 105 = .ok (.imul, 1) := by decide +kernel
theorem dX10_work_106 : decode cX10_work 106 = .ok (.iload 4, 2) := by decide +kernel
theorem dX10_work_108 : decode cX10_work 108 = .ok (.iadd, 1) := by decide +kernel
theorem dX10_work_109 : decode cX10_work 109 = .ok (.aload_n 0, 1) := by decide +kernel
theorem dX10_work_110 : decode cX10_work 110 = .ok (.iload_n 2, 1) := by decide +kernel
theorem dX10_work_111 : decode cX10_work 111 = .ok (.iload 4, 2) := by decide +kernel
theorem dX10_work_113 : decode cX10_work 113 = .ok (.aload_n 0, 1) := by decide +kernel
theorem dX10_work_114 : decode cX10_work 114 = .ok (.getfield 42, 3) := by decide +kernel
theorem dX10_work_117 : decode cX10_work 117 = .ok (.iconst 4, 1) := by decide +kernel
theorem dX10_work_118 : decode cX10_work 118 = .ok (.iload_n 1, 1) := by decide +kernel
theorem dX10_work_119 : decode cX10_work 119 = .ok (.imul, 1) := by decide +kernel
theorem dX10_work_120 : decode cX10_work 120 = .ok (.iload 4, 2) := by decide +kernel
theorem dX10_work_122 : decode cX10_work 122 = .ok (.iadd, 1) := by decide +kernel
theorem dX10_work_123 : decode cX10_work 123 = .ok (.iaload, 1) := by decide +kernel
theorem dX10_work_124 : decode cX10_work 124 = .ok (.invokevirtual 220, 3) := by decide +kernel
theorem dX10_work_127 : decode cX10_work 127 = .ok (.iastore, 1) := by decide +kernel
theorem dX10_work_128 : decode cX10_work 128 = .ok (.iinc 3 1, 3) := by decide +kernel
theorem dX10_work_131 : decode cX10_work 131 = .ok (.goto (-89), 3) := by decide +kernel
theorem dX10_work_134 : decode cX10_work 134 = .ok (.iconst 0, 1) := by decide +kernel
theorem dX10_work_135 : decode cX10_work 135 = .ok (.istore_n 3, 1) := by decide +kernel
theorem dX10_work_136 : decode cX10_work 136 = .ok (.iload_n 3, 1) := by decide +kernel
theorem dX10_work_137 : decode cX10_work 137 = .ok (.aload_n 0, 1) := by decide +kernel
theorem dX10_work_138 : decode cX10_work 138 = .ok (.getfield 107, 3) := by decide +kernel
theorem dX10_work_141 : decode cX10_work 141 = .ok (.if_icmp .ge 78, 3) := by decide +kernel
theorem dX10_work_144 : decode cX10_work 144 = .ok (.aload_n 0, 1) := by decide +kernel
theorem dX10_work_145 : decode cX10_work 145 = .ok (.getfield 29, 3) := by decide +kernel
theorem dX10_work_148 : decode cX10_work 148 = .ok (.iload_n 3, 1) := by decide +kernel
theorem dX10_work_149 : decode cX10_work 149 = .ok (.iaload, 1) := by decide +kernel
theorem dX10_work_150 : decode cX10_work 150 = .ok (.iconst 1, 1) := by decide +kernel
theorem dX10_work_151 : decode cX10_work 151 = .ok (.if_icmp .eq 13, 3) := by decide +kernel
theorem dX10_work_154 : decode cX10_work 154 = .ok (.aload_n 0, 1) := by decide +kernel
theorem dX10_work_155 : decode cX10_work 155 = .ok (.getfield 29, 3) := by decide +kernel
theorem dX10_work_158 : decode cX10_work 158 = .ok (.iload_n 3, 1) := by decide +kernel
theorem dX10_work_159 : decode cX10_work 159 = .ok (.iaload, 1) := by decide +kernel
theorem dX10_work_160 : decode cX10_work 160 = .ok (.iconst 2, 1) := by decide +kernel
theorem dX10_work_161 : decode cX10_work 161 = .ok (.if_icmp .ne 52, 3) := by decide +kernel
theorem dX10_work_164 : decode cX10_work 164 = .ok (.aload_n 0, 1) := by decide +kernel
theorem dX10_work_165 : decode cX10_work 165 = .ok (.iload_n 2, 1) := by decide +kernel
theorem dX10_work_166 : decode cX10_work 166 = .ok (.iload_n 3, 1) := by decide +kernel
theorem dX10_work_167 : decode cX10_work 167 = .ok (.invokevirtual 161, 3) := by decide +kernel
theorem dX10_work_170 : decode cX10_work 170 = .ok (.ifCond .eq 43, 3) := by decide +kernel
theorem dX10_work_173 : decode cX10_work 173 = .ok (.aload_n 0, 1) := by decide +kernel
theorem dX10_work_174 : decode cX10_work 174 = .ok (.iload_n 2, 1) := by decide +kernel
theorem dX10_work_175 : decode cX10_work 175 = .ok (.iload_n 3, 1) := by decide +kernel
theorem dX10_work_176 : decode cX10_work 176 = .ok (.invokevirtual 223, 3) := by decide +kernel
theorem dX10_work_179 : decode cX10_work 179 = .ok (.istore 4, 2) := by decide +kernel
theorem dX10_work_181 : decode cX10_work 181 = .ok (.aload_n 0, 1) := by decide +kernel
theorem dX10_work_182 : decode cX10_work 182 = .ok (.getfield 29, 3) := by decide +kernel
theorem dX10_work_185 : decode cX10_work 185 = .ok (.iload_n 3, 1) := by decide +kernel
theorem dX10_work_186 : decode cX10_work 186 = .ok (.iaload, 1) := by decide +kernel
theorem dX10_work_187 : decode cX10_work 187 = .ok (.iconst 2, 1) := by decide +kernel
theorem dX10_work_188 : decode cX10_work 188 = .ok (.if_icmp .ne 25, 3) := by decide +kernel
theorem dX10_work_191 : decode cX10_work 191 = .ok (.iload 4, 2) := by decide +kernel
theorem dX10_work_193 : decode cX10_work 193 = .ok (.ifCond .ne 20, 3) := by decide +kernel
theorem dX10_work_196 : decode cX10_work 196 = .ok (.aload_n 0, 1) := by decide +kernel
theorem dX10_work_197 : decode cX10_work 197 = .ok (.iload_n 2, 1) := by decide +kernel
theorem dX10_work_198 : decode cX10_work 198 = .ok (.iload_n 3, 1) := by decide +kernel
theorem dX10_work_199 : decode cX10_work 199 = .ok (.invokevirtual 161, 3) := by decide +kernel
theorem dX10_work_202 : decode cX10_work 202 = .ok (.ifCond .eq 11, 3) := by decide +kernel
theorem dX10_work_205 : decode cX10_work 205 = .ok (.aload_n 0, 1) := by decide +kernel
theorem dX10_work_206 : decode cX10_work 206 = .ok (.iload_n 2, 1) := by decide +kernel
theorem dX10_work_207 : decode cX10_work 207 = .ok (.iload_n 3, 1) := by decide +kernel
theorem dX10_work_208 : decode cX10_work 208 = .ok (.invokevirtual 223, 3) := by decide +kernel
theorem dX10_work_211 : decode cX10_work 211 = .ok (.istore 4, 2) := by decide +kernel
theorem dX10_work_213 : decode cX10_work 213 = .ok (.iinc 3 1, 3) := by decide +kernel
theorem dX10_work_216 : decode cX10_work 216 = .ok (.goto (-80), 3) := by decide +kernel
theorem dX10_work_219 : decode cX10_work 219 = .ok (.iconst 0, 1) := by decide +kernel
theorem dX10_work_220 : decode cX10_work 220 = .ok (.istore_n 3, 1) := by decide +kernel
theorem dX10_work_221 : decode cX10_work 221 = .ok (.iload_n 3, 1) := by decide +kernel
theorem dX10_work_222 : decode cX10_work 222 = .ok (.aload_n 0, 1) := by decide +kernel
theorem dX10_work_223 : decode cX10_work 223 = .ok (.getfield 16, 3) := by decide +kernel
theorem dX10_work_226 : decode cX10_work 226 = .ok (.if_icmp .ge 97, 3) := by decide +kernel
theorem dX10_work_229 : decode cX10_work 229 = .ok (.aload_n 0, 1) := by decide +kernel
theorem dX10_work_230 : decode cX10_work 230 = .ok (.getfield 39, 3) := by decide +kernel
theorem dX10_work_233 : decode cX10_work 233 = .ok (.iload_n 2, 1) := by decide +kernel
theorem dX10_work_234 : decode cX10_work 234 = .ok (.bipush 6, 2) := by decide +kernel
theorem dX10_work_236 : decode cX10_work 236 = .ok (.iload_n 3, 1) := by decide +kernel
theorem dX10_work_237 : decode cX10_work 237 = .ok (.imul, 1) := by decide +kernel
theorem dX10_work_238 : decode cX10_work 238 = .ok (.iadd, 1) := by decide +kernel
theorem dX10_work_239 : decode cX10_work 239 = .ok (.iconst 4, 1) := by decide +kernel
theorem dX10_work_240 : decode cX10_work 240 = .ok (.iadd, 1) := by decide +kernel
theorem dX10_work_241 : decode cX10_work 241 = .ok (.iaload, 1) := by decide +kernel
theorem dX10_work_242 : decode cX10_work 242 = .ok (.istore 4, 2) := by decide +kernel
theorem dX10_work_244 : decode cX10_work 244 = .ok (.aload_n 0, 1) := by decide +kernel
theorem dX10_work_245 : decode cX10_work 245 = .ok (.getfield 39, 3) := by decide +kernel
theorem dX10_work_248 : decode cX10_work 248 = .ok (.iload_n 2, 1) := by decide +kernel
theorem dX10_work_249 : decode cX10_work 249 = .ok (.bipush 104, 2) := by decide +kernel
theorem dX10_work_251 : decode cX10_work 251 = .ok (.iadd, 1) := by decide +kernel
theorem dX10_work_252 : decode cX10_work 252 = .ok (.iload_n 3, 1) := by decide +kernel
theorem dX10_work_253 : decode cX10_work 253 = .ok (.iadd, 1) := by decide +kernel
theorem dX10_work_254 : decode cX10_work 254 = .ok (.dup2, 1) := by decide +kernel
theorem dX10_work_255 : decode cX10_work 255 = .ok (.iaload, 1) := by decide +kernel
theorem dX10_work_256 : decode cX10_work 256 = .ok (.iload 4, 2) := by decide +kernel
theorem dX10_work_258 : decode cX10_work 258 = .ok (.ifCond .lt 19, 3) := by decide +kernel
theorem dX10_work_261 : decode cX10_work 261 = .ok (.aload_n 0, 1) := by decide +kernel
theorem dX10_work_262 : decode cX10_work 262 = .ok (.getfield 29, 3) := by decide +kernel
theorem dX10_work_265 : decode cX10_work 265 = .ok (.iload 4, 2) := by decide +kernel
theorem dX10_work_267 : decode cX10_work 267 = .ok (.iaload, 1) := by decide +kernel
theorem dX10_work_268 : decode cX10_work 268 = .ok (.bipush 7, 2) := by decide +kernel
theorem dX10_work_270 : decode cX10_work 270 = .ok (.if_icmp .ne 7, 3) := by decide +kernel
theorem dX10_work_273 : decode cX10_work 273 = .ok (.iconst 1, 1) := by decide +kernel
theorem dX10_work_274 : decode cX10_work 274 = .ok (.goto 4, 3) := by decide +kernel
theorem dX10_work_277 : decode cX10_work 277 = .ok (.iconst 0, 1) := by decide +kernel
theorem dX10_work_278 : decode cX10_work 278 = .ok (.iadd, 1) := by decide +kernel
theorem dX10_work_279 : decode cX10_work 279 = .ok (.iastore, 1) := by decide +kernel
theorem dX10_work_280 : decode cX10_work 280 = .ok (.aload_n 0, 1) := by decide +kernel
theorem dX10_work_281 : decode cX10_work 281 = .ok (.getfield 39, 3) := by decide +kernel
theorem dX10_work_284 : decode cX10_work 284 = .ok (.iload_n 2, 1) := by decide +kernel
theorem dX10_work_285 : decode cX10_work 285 = .ok (.bipush 6, 2) := by decide +kernel
theorem dX10_work_287 : decode cX10_work 287 = .ok (.iload_n 3, 1) := by decide +kernel
theorem dX10_work_288 : decode cX10_work 288 = .ok (.imul, 1) := by decide +kernel
theorem dX10_work_289 : decode cX10_work 289 = .ok (.iadd, 1) := by decide +kernel
theorem dX10_work_290 : decode cX10_work 290 = .ok (.iconst 3, 1) := by decide +kernel
theorem dX10_work_291 : decode cX10_work 291 = .ok (.iadd, 1) := by decide +kernel
theorem dX10_work_292 : decode cX10_work 292 = .ok (.dup2, 1) := by decide +kernel
theorem dX10_work_293 : decode cX10_work 293 = .ok (.iaload, 1) := by decide +kernel
theorem dX10_work_294 : decode cX10_work 294 = .ok (.aload_n 0, 1) := by decide +kernel
theorem dX10_work_295 : decode cX10_work 295 = .ok (.getfield 39, 3) := by decide +kernel
theorem dX10_work_298 : decode cX10_work 298 = .ok (.iload_n 2, 1) := by decide +kernel
theorem dX10_work_299 : decode cX10_work 299 = .ok (.bipush 6, 2) := by decide +kernel
theorem dX10_work_301 : decode cX10_work 301 = .ok (.iload_n 3, 1) := by decide +kernel
theorem dX10_work_302 : decode cX10_work 302 = .ok (.imul, 1) := by decide +kernel
theorem dX10_work_303 : decode cX10_work 303 = .ok (.iadd, 1) := by decide +kernel
theorem dX10_work_304 : decode cX10_work 304 = .ok (.iconst 3, 1) := by decide +kernel
theorem dX10_work_305 : decode cX10_work 305 = .ok (.iadd, 1) := by decide +kernel
theorem dX10_work_306 : decode cX10_work 306 = .ok (.iaload, 1) := by decide +kernel
theorem dX10_work_307 : decode cX10_work 307 = .ok (.ifCond .le 7, 3) := by decide +kernel
theorem dX10_work_310 : decode cX10_work 310 = .ok (.iconst 1, 1) := by decide +kernel
theorem dX10_work_311 : decode cX10_work 311 = .ok (.goto 4, 3) := by decide +kernel
