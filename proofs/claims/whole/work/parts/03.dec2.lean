theorem dX6_letGo_19 : decode cX6_letGo 19 = .ok (.getfield 18, 3) := by decide +kernel
theorem dX6_letGo_22 : decode cX6_letGo 22 = .ok (.iload_n 3, 1) := by decide +kernel
theorem dX6_letGo_23 : decode cX6_letGo 23 = .ok (.iconst (-1), 1) := by decide +kernel
theorem dX6_letGo_24 : decode cX6_letGo 24 = .ok (.iastore, 1) := by decide +kernel
theorem dX6_letGo_25 : decode cX6_letGo 25 = .ok (.aload_n 0, 1) := by decide +kernel
theorem dX6_letGo_26 : decode cX6_letGo 26 = .ok (.getfield 9, 3) := by decide +kernel
theorem dX6_letGo_29 : decode cX6_letGo 29 = .ok (.iload_n 3, 1) := by decide +kernel
theorem dX6_letGo_30 : decode cX6_letGo 30 = .ok (.iload_n 2, 1) := by decide +kernel
theorem dX6_letGo_31 : decode cX6_letGo 31 = .ok (.iastore, 1) := by decide +kernel
theorem dX6_letGo_32 : decode cX6_letGo 32 = .ok (.return_, 1) := by decide +kernel
theorem dX6_hurt_0 : decode cX6_hurt 0 = .ok (.aload_n 0, 1) := by decide +kernel
theorem dX6_hurt_1 : decode cX6_hurt 1 = .ok (.getfield 15, 3) := by decide +kernel
theorem dX6_hurt_4 : decode cX6_hurt 4 = .ok (.iload_n 1, 1) := by decide +kernel
theorem dX6_hurt_5 : decode cX6_hurt 5 = .ok (.aload_n 0, 1) := by decide +kernel
theorem dX6_hurt_6 : decode cX6_hurt 6 = .ok (.getfield 15, 3) := by decide +kernel
theorem dX6_hurt_9 : decode cX6_hurt 9 = .ok (.iload_n 1, 1) := by decide +kernel
theorem dX6_hurt_10 : decode cX6_hurt 10 = .ok (.iaload, 1) := by decide +kernel
theorem dX6_hurt_11 : decode cX6_hurt 11 = .ok (.iload_n 2, 1) := by decide +kernel
theorem dX6_hurt_12 : decode cX6_hurt 12 = .ok (.if_icmp .le 14, 3) := by decide +kernel
theorem dX6_hurt_15 : decode cX6_hurt 15 = .ok (.aload_n 0, 1) := by decide +kernel
theorem dX6_hurt_16 : decode cX6_hurt 16 = .ok (.getfield 15, 3) := by decide +kernel
theorem dX6_hurt_19 : decode cX6_hurt 19 = .ok (.iload_n 1, 1) := by decide +kernel
theorem dX6_hurt_20 : decode cX6_hurt 20 = .ok (.iaload, 1) := by decide +kernel
theorem dX6_hurt_21 : decode cX6_hurt 21 = .ok (.iload_n 2, 1) := by decide +kernel
theorem dX6_hurt_22 : decode cX6_hurt 22 = .ok (.isub, 1) := by decide +kernel
theorem dX6_hurt_23 : decode cX6_hurt 23 = .ok (.goto 4, 3) := by decide +kernel
theorem dX6_hurt_26 : decode cX6_hurt 26 = .ok (.iconst 0, 1) := by decide +kernel
theorem dX6_hurt_27 : decode cX6_hurt 27 = .ok (.iastore, 1) := by decide +kernel
theorem dX6_hurt_28 : decode cX6_hurt 28 = .ok (.aload_n 0, 1) := by decide +kernel
theorem dX6_hurt_29 : decode cX6_hurt 29 = .ok (.getfield 15, 3) := by decide +kernel
theorem dX6_hurt_32 : decode cX6_hurt 32 = .ok (.iload_n 1, 1) := by decide +kernel
theorem dX6_hurt_33 : decode cX6_hurt 33 = .ok (.iaload, 1) := by decide +kernel
theorem dX6_hurt_34 : decode cX6_hurt 34 = .ok (.ifCond .ne 25, 3) := by decide +kernel
theorem dX6_hurt_37 : decode cX6_hurt 37 = .ok (.iload_n 1, 1) := by decide +kernel
theorem dX6_hurt_38 : decode cX6_hurt 38 = .ok (.aload_n 0, 1) := by decide +kernel
theorem dX6_hurt_39 : decode cX6_hurt 39 = .ok (.getfield 39, 3) := by decide +kernel
theorem dX6_hurt_42 : decode cX6_hurt 42 = .ok (.getfield 49, 3) := by decide +kernel
theorem dX6_hurt_45 : decode cX6_hurt 45 = .ok (.if_icmp .ge 14, 3) := by decide +kernel
theorem dX6_hurt_48 : decode cX6_hurt 48 = .ok (.aload_n 0, 1) := by decide +kernel
theorem dX6_hurt_49 : decode cX6_hurt 49 = .ok (.iload_n 1, 1) := by decide +kernel
theorem dX6_hurt_50 : decode cX6_hurt 50 = .ok (.aload_n 0, 1) := by decide +kernel
theorem dX6_hurt_51 : decode cX6_hurt 51 = .ok (.getfield 9, 3) := by decide +kernel
theorem dX6_hurt_54 : decode cX6_hurt 54 = .ok (.iload_n 1, 1) := by decide +kernel
theorem dX6_hurt_55 : decode cX6_hurt 55 = .ok (.iaload, 1) := by decide +kernel
theorem dX6_hurt_56 : decode cX6_hurt 56 = .ok (.invokevirtual 194, 3) := by decide +kernel
theorem dX6_hurt_59 : decode cX6_hurt 59 = .ok (.return_, 1) := by decide +kernel
theorem dX6_enterIfFree_0 : decode cX6_enterIfFree 0 = .ok (.aload_n 0, 1) := by decide +kernel
theorem dX6_enterIfFree_1 : decode cX6_enterIfFree 1 = .ok (.iload_n 2, 1) := by decide +kernel
theorem dX6_enterIfFree_2 : decode cX6_enterIfFree 2 = .ok (.invokevirtual 209, 3) := by decide +kernel
theorem dX6_enterIfFree_5 : decode cX6_enterIfFree 5 = .ok (.ifCond .ne 4, 3) := by decide +kernel
theorem dX6_enterIfFree_8 : decode cX6_enterIfFree 8 = .ok (.return_, 1) := by decide +kernel
theorem dX6_enterIfFree_9 : decode cX6_enterIfFree 9 = .ok (.aload_n 0, 1) := by decide +kernel
theorem dX6_enterIfFree_10 : decode cX6_enterIfFree 10 = .ok (.getfield 9, 3) := by decide +kernel
theorem dX6_enterIfFree_13 : decode cX6_enterIfFree 13 = .ok (.iload_n 1, 1) := by decide +kernel
theorem dX6_enterIfFree_14 : decode cX6_enterIfFree 14 = .ok (.iload_n 2, 1) := by decide +kernel
theorem dX6_enterIfFree_15 : decode cX6_enterIfFree 15 = .ok (.iastore, 1) := by decide +kernel
theorem dX6_enterIfFree_16 : decode cX6_enterIfFree 16 = .ok (.iload_n 1, 1) := by decide +kernel
theorem dX6_enterIfFree_17 : decode cX6_enterIfFree 17 = .ok (.aload_n 0, 1) := by decide +kernel
theorem dX6_enterIfFree_18 : decode cX6_enterIfFree 18 = .ok (.getfield 39, 3) := by decide +kernel
theorem dX6_enterIfFree_21 : decode cX6_enterIfFree 21 = .ok (.getfield 49, 3) := by decide +kernel
theorem dX6_enterIfFree_24 : decode cX6_enterIfFree 24 = .ok (.if_icmp .ge 7, 3) := by decide +kernel
theorem dX6_enterIfFree_27 : decode cX6_enterIfFree 27 = .ok (.iconst 1, 1) := by decide +kernel
theorem dX6_enterIfFree_28 : decode cX6_enterIfFree 28 = .ok (.goto 4, 3) := by decide +kernel
theorem dX6_enterIfFree_31 : decode cX6_enterIfFree 31 = .ok (.iconst 0, 1) := by decide +kernel
theorem dX6_enterIfFree_32 : decode cX6_enterIfFree 32 = .ok (.istore_n 3, 1) := by decide +kernel
theorem dX6_enterIfFree_33 : decode cX6_enterIfFree 33 = .ok (.iconst 0, 1) := by decide +kernel
theorem dX6_enterIfFree_34 : decode cX6_enterIfFree 34 = .ok (.istore 4, 2) := by decide +kernel
theorem dX6_enterIfFree_36 : decode cX6_enterIfFree 36 = .ok (.iload 4, 2) := by decide +kernel
theorem dX6_enterIfFree_38 : decode cX6_enterIfFree 38 = .ok (.aload_n 0, 1) := by decide +kernel
theorem dX6_enterIfFree_39 : decode cX6_enterIfFree 39 = .ok (.getfield 39, 3) := by decide +kernel
theorem dX6_enterIfFree_42 : decode cX6_enterIfFree 42 = .ok (.getfield 75, 3) := by decide +kernel
theorem dX6_enterIfFree_45 : decode cX6_enterIfFree 45 = .ok (.if_icmp .ge 127, 3) := by decide +kernel
theorem dX6_enterIfFree_48 : decode cX6_enterIfFree 48 = .ok (.aload_n 0, 1) := by decide +kernel
theorem dX6_enterIfFree_49 : decode cX6_enterIfFree 49 = .ok (.getfield 15, 3) := by decide +kernel
theorem dX6_enterIfFree_52 : decode cX6_enterIfFree 52 = .ok (.iload_n 1, 1) := by decide +kernel
theorem dX6_enterIfFree_53 : decode cX6_enterIfFree 53 = .ok (.iaload, 1) := by decide +kernel
theorem dX6_enterIfFree_54 : decode cX6_enterIfFree 54 = .ok (.ifCond .le 118, 3) := by decide +kernel
theorem dX6_enterIfFree_57 : decode cX6_enterIfFree 57 = .ok (.aload_n 0, 1) := by decide +kernel
theorem dX6_enterIfFree_58 : decode cX6_enterIfFree 58 = .ok (.getfield 9, 3) := by decide +kernel
theorem dX6_enterIfFree_61 : decode cX6_enterIfFree 61 = .ok (.iload 4, 2) := by decide +kernel
theorem dX6_enterIfFree_63 : decode cX6_enterIfFree 63 = .ok (.iaload, 1) := by decide +kernel
theorem dX6_enterIfFree_64 : decode cX6_enterIfFree 64 = .ok (.iload_n 2, 1) := by decide +kernel
theorem dX6_enterIfFree_65 : decode cX6_enterIfFree 65 = .ok (.if_icmp .ne 62, 3) := by decide +kernel
theorem dX6_enterIfFree_68 : decode cX6_enterIfFree 68 = .ok (.aload_n 0, 1) := by decide +kernel
theorem dX6_enterIfFree_69 : decode cX6_enterIfFree 69 = .ok (.getfield 39, 3) := by decide +kernel
theorem dX6_enterIfFree_72 : decode cX6_enterIfFree 72 = .ok (.getfield 72, 3) := by decide +kernel
theorem dX6_enterIfFree_75 : decode cX6_enterIfFree 75 = .ok (.iload 4, 2) := by decide +kernel
theorem dX6_enterIfFree_77 : decode cX6_enterIfFree 77 = .ok (.iaload, 1) := by decide +kernel
theorem dX6_enterIfFree_78 : decode cX6_enterIfFree 78 = .ok (.iconst 3, 1) := by decide +kernel
theorem dX6_enterIfFree_79 : decode cX6_enterIfFree 79 = .ok (.if_icmp .ne 48, 3) := by decide +kernel
theorem dX6_enterIfFree_82 : decode cX6_enterIfFree 82 = .ok (.iload_n 3, 1) := by decide +kernel
theorem dX6_enterIfFree_83 : decode cX6_enterIfFree 83 = .ok (.ifCond .eq 44, 3) := by decide +kernel
theorem dX6_enterIfFree_86 : decode cX6_enterIfFree 86 = .ok (.aload_n 0, 1) := by decide +kernel
theorem dX6_enterIfFree_87 : decode cX6_enterIfFree 87 = .ok (.getfield 9, 3) := by decide +kernel
theorem dX6_enterIfFree_90 : decode cX6_enterIfFree 90 = .ok (.iload 4, 2) := by decide +kernel
theorem dX6_enterIfFree_92 : decode cX6_enterIfFree 92 = .ok (.iconst (-1), 1) := by decide +kernel
theorem dX6_enterIfFree_93 : decode cX6_enterIfFree 93 = .ok (.iastore, 1) := by decide +kernel
theorem dX6_enterIfFree_94 : decode cX6_enterIfFree 94 = .ok (.aload_n 0, 1) := by decide +kernel
theorem dX6_enterIfFree_95 : decode cX6_enterIfFree 95 = .ok (.getfield 15, 3) := by decide +kernel
theorem dX6_enterIfFree_98 : decode cX6_enterIfFree 98 = .ok (.iload_n 1, 1) := by decide +kernel
theorem dX6_enterIfFree_99 : decode cX6_enterIfFree 99 = .ok (.aload_n 0, 1) := by decide +kernel
theorem dX6_enterIfFree_100 : decode cX6_enterIfFree 100 = .ok (.getfield 15, 3) := by decide +kernel
theorem dX6_enterIfFree_103 : decode cX6_enterIfFree 103 = .ok (.iload_n 1, 1) := by decide +kernel
theorem dX6_enterIfFree_104 : decode cX6_enterIfFree 104 = .ok (.iaload, 1) := by decide +kernel
theorem dX6_enterIfFree_105 : decode cX6_enterIfFree 105 = .ok (.iconst 2, 1) := by decide +kernel
theorem dX6_enterIfFree_106 : decode cX6_enterIfFree 106 = .ok (.iadd, 1) := by decide +kernel
theorem dX6_enterIfFree_107 : decode cX6_enterIfFree 107 = .ok (.iconst 5, 1) := by decide +kernel
theorem dX6_enterIfFree_108 : decode cX6_enterIfFree 108 = .ok (.if_icmp .ge 14, 3) := by decide +kernel
theorem dX6_enterIfFree_111 : decode cX6_enterIfFree 111 = .ok (.aload_n 0, 1) := by decide +kernel
theorem dX6_enterIfFree_112 : decode cX6_enterIfFree 112 = .ok (.getfield 15, 3) := by decide +kernel
theorem dX6_enterIfFree_115 : decode cX6_enterIfFree 115 = .ok (.iload_n 1, 1) := by decide +kernel
theorem dX6_enterIfFree_116 : decode cX6_enterIfFree 116 = .ok (.iaload, 1) := by decide +kernel
theorem dX6_enterIfFree_117 : decode cX6_enterIfFree 117 = .ok (.iconst 2, 1) := by decide +kernel
theorem dX6_enterIfFree_118 : decode cX6_enterIfFree 118 = .ok (.iadd, 1) := by decide +kernel
theorem dX6_enterIfFree_119 : decode cX6_enterIfFree 119 = .ok (.goto 4, 3) := by decide +kernel
theorem dX6_enterIfFree_122 : decode cX6_enterIfFree 122 = .ok (.iconst 5, 1) := by decide +kernel
theorem dX6_enterIfFree_123 : decode cX6_enterIfFree 123 = .ok (.iastore, 1) := by decide +kernel
theorem dX6_enterIfFree_124 : decode cX6_enterIfFree 124 = .ok (.goto 42, 3) := by decide +kernel
theorem dX6_enterIfFree_127 : decode cX6_enterIfFree 127 = .ok (.aload_n 0, 1) := by decide +kernel
theorem dX6_enterIfFree_128 : decode cX6_enterIfFree 128 = .ok (.getfield 9, 3) := by decide +kernel
theorem dX6_enterIfFree_131 : decode cX6_enterIfFree 131 = .ok (.iload 4, 2) := by decide +kernel
theorem dX6_enterIfFree_133 : decode cX6_enterIfFree 133 = .ok (.iaload, 1) := by decide +kernel
theorem dX6_enterIfFree_134 : decode cX6_enterIfFree 134 = .ok (.iload_n 2, 1) := by decide +kernel
theorem dX6_enterIfFree_135 : decode cX6_enterIfFree 135 = .ok (.if_icmp .ne 31, 3) := by decide +kernel
theorem dX6_enterIfFree_138 : decode cX6_enterIfFree 138 = .ok (.aload_n 0, 1) := by decide +kernel
theorem dX6_enterIfFree_139 : decode cX6_enterIfFree 139 = .ok (.getfield 39, 3) := by decide +kernel
theorem dX6_enterIfFree_142 : decode cX6_enterIfFree 142 = .ok (.getfield 72, 3) := by decide +kernel
theorem dX6_enterIfFree_145 : decode cX6_enterIfFree 145 = .ok (.iload 4, 2) := by decide +kernel
theorem dX6_enterIfFree_147 : decode cX6_enterIfFree 147 = .ok (.iaload, 1) := by decide +kernel
theorem dX6_enterIfFree_148 : decode cX6_enterIfFree 148 = .ok (.iconst 4, 1) := by decide +kernel
theorem dX6_enterIfFree_149 : decode cX6_enterIfFree 149 = .ok (.if_icmp .ne 17, 3) := by decide +kernel
theorem dX6_enterIfFree_152 : decode cX6_enterIfFree 152 = .ok (.aload_n 0, 1) := by decide +kernel
theorem dX6_enterIfFree_153 : decode cX6_enterIfFree 153 = .ok (.getfield 9, 3) := by decide +kernel
theorem dX6_enterIfFree_156 : decode cX6_enterIfFree 156 = .ok (.iload 4, 2) := by decide +kernel
theorem dX6_enterIfFree_158 : decode cX6_enterIfFree 158 = .ok (.iconst (-1), 1) := by decide +kernel
theorem dX6_enterIfFree_159 : decode cX6_enterIfFree 159 = .ok (.iastore, 1) := by decide +kernel
theorem dX6_enterIfFree_160 : decode cX6_enterIfFree 160 = .ok (.aload_n 0, 1) := by decide +kernel
theorem dX6_enterIfFree_161 : decode cX6_enterIfFree 161 = .ok (.iload_n 1, 1) := by decide +kernel
theorem dX6_enterIfFree_162 : decode cX6_enterIfFree 162 = .ok (.iconst 2, 1) := by decide +kernel
theorem dX6_enterIfFree_163 : decode cX6_enterIfFree 163 = .ok (.invokevirtual 203, 3) := by decide +kernel
theorem dX6_enterIfFree_166 : decode cX6_enterIfFree 166 = .ok (.iinc 4 1, 3) := by decide +kernel
theorem dX6_enterIfFree_169 : decode cX6_enterIfFree 169 = .ok (.goto (-133), 3) := by decide +kernel
theorem dX6_enterIfFree_172 : decode cX6_enterIfFree 172 = .ok (.return_, 1) := by decide +kernel
theorem dX6_moveBeasts_0 : decode cX6_moveBeasts 0 = .ok (.aload_n 0, 1) := by decide +kernel
theorem dX6_moveBeasts_1 : decode cX6_moveBeasts 1 = .ok (.getfield 39, 3) := by decide +kernel
theorem dX6_moveBeasts_4 : decode cX6_moveBeasts 4 = .ok (.getfield 49, 3) := by decide +kernel
theorem dX6_moveBeasts_7 : decode cX6_moveBeasts 7 = .ok (.istore_n 1, 1) := by decide +kernel
theorem dX6_moveBeasts_8 : decode cX6_moveBeasts 8 = .ok (.iload_n 1, 1) := by decide +kernel
theorem dX6_moveBeasts_9 : decode cX6_moveBeasts 9 = .ok (.aload_n 0, 1) := by decide +kernel
theorem dX6_moveBeasts_10 : decode cX6_moveBeasts 10 = .ok (.getfield 39, 3) := by decide +kernel
theorem dX6_moveBeasts_13 : decode cX6_moveBeasts 13 = .ok (.getfield 75, 3) := by decide +kernel
theorem dX6_moveBeasts_16 : decode cX6_moveBeasts 16 = .ok (.if_icmp .ge 118, 3) := by decide +kernel
theorem dX6_moveBeasts_19 : decode cX6_moveBeasts 19 = .ok (.aload_n 0, 1) := by decide +kernel
theorem dX6_moveBeasts_20 : decode cX6_moveBeasts 20 = .ok (.getfield 39, 3) := by decide +kernel
theorem dX6_moveBeasts_23 : decode cX6_moveBeasts 23 = .ok (.getfield 72, 3) := by decide +kernel
theorem dX6_moveBeasts_26 : decode cX6_moveBeasts 26 = .ok (.iload_n 1, 1) := by decide +kernel
theorem dX6_moveBeasts_27 : decode cX6_moveBeasts 27 = .ok (.iaload, 1) := by decide +kernel
theorem dX6_moveBeasts_28 : decode cX6_moveBeasts 28 = .ok (.iconst 2, 1) := by decide +kernel
theorem dX6_moveBeasts_29 : decode cX6_moveBeasts 29 = .ok (.if_icmp .ne 7, 3) := by decide +kernel
theorem dX6_moveBeasts_32 : decode cX6_moveBeasts 32 = .ok (.iconst 2, 1) := by decide +kernel
theorem dX6_moveBeasts_33 : decode cX6_moveBeasts 33 = .ok (.goto 4, 3) := by decide +kernel
theorem dX6_moveBeasts_36 : decode cX6_moveBeasts 36 = .ok (.iconst 1, 1) := by decide +kernel
theorem dX6_moveBeasts_37 : decode cX6_moveBeasts 37 = .ok (.istore_n 2, 1) := by decide +kernel
theorem dX6_moveBeasts_38 : decode cX6_moveBeasts 38 = .ok (.iconst 0, 1) := by decide +kernel
theorem dX6_moveBeasts_39 : decode cX6_moveBeasts 39 = .ok (.istore_n 3, 1) := by decide +kernel
theorem dX6_moveBeasts_40 : decode cX6_moveBeasts 40 = .ok (.iconst 0, 1) := by decide +kernel
theorem dX6_moveBeasts_41 : decode cX6_moveBeasts 41 = .ok (.istore 4, 2) := by decide +kernel
theorem dX6_moveBeasts_43 : decode cX6_moveBeasts 43 = .ok (.iload 4, 2) := by decide +kernel
theorem dX6_moveBeasts_45 : decode cX6_moveBeasts 45 = .ok (.iload_n 2, 1) := by decide +kernel
theorem dX6_moveBeasts_46 : decode cX6_moveBeasts 46 = .ok (.if_icmp .ge 82, 3) := by decide +kernel
theorem dX6_moveBeasts_49 : decode cX6_moveBeasts 49 = .ok (.aload_n 0, 1) := by decide +kernel
theorem dX6_moveBeasts_50 : decode cX6_moveBeasts 50 = .ok (.getfield 15, 3) := by decide +kernel
theorem dX6_moveBeasts_53 : decode cX6_moveBeasts 53 = .ok (.iload_n 1, 1) := by decide +kernel
theorem dX6_moveBeasts_54 : decode cX6_moveBeasts 54 = .ok (.iaload, 1) := by decide +kernel
theorem dX6_moveBeasts_55 : decode cX6_moveBeasts 55 = .ok (.ifCond .le 73, 3) := by decide +kernel
theorem dX6_moveBeasts_58 : decode cX6_moveBeasts 58 = .ok (.iload_n 3, 1) := by decide +kernel
theorem dX6_moveBeasts_59 : decode cX6_moveBeasts 59 = .ok (.ifCond .ne 69, 3) := by decide +kernel
theorem dX6_moveBeasts_62 : decode cX6_moveBeasts 62 = .ok (.aload_n 0, 1) := by decide +kernel
theorem dX6_moveBeasts_63 : decode cX6_moveBeasts 63 = .ok (.iload_n 1, 1) := by decide +kernel
theorem dX6_moveBeasts_64 : decode cX6_moveBeasts 64 = .ok (.invokevirtual 212, 3) := by decide +kernel
theorem dX6_moveBeasts_67 : decode cX6_moveBeasts 67 = .ok (.istore 5, 2) := by decide +kernel
theorem dX6_moveBeasts_69 : decode cX6_moveBeasts 69 = .ok (.iload 5, 2) := by decide +kernel
theorem dX6_moveBeasts_71 : decode cX6_moveBeasts 71 = .ok (.ifCond .lt 18, 3) := by decide +kernel
theorem dX6_moveBeasts_74 : decode cX6_moveBeasts 74 = .ok (.aload_n 0, 1) := by decide +kernel
theorem dX6_moveBeasts_75 : decode cX6_moveBeasts 75 = .ok (.iload_n 1, 1) := by decide +kernel
theorem dX6_moveBeasts_76 : decode cX6_moveBeasts 76 = .ok (.iload 5, 2) := by decide +kernel
theorem dX6_moveBeasts_78 : decode cX6_moveBeasts 78 = .ok (.invokevirtual 215, 3) := by decide +kernel
theorem dX6_moveBeasts_81 : decode cX6_moveBeasts 81 = .ok (.iconst 1, 1) := by decide +kernel
theorem dX6_moveBeasts_82 : decode cX6_moveBeasts 82 = .ok (.if_icmp .ne 7, 3) := by decide +kernel
theorem dX6_moveBeasts_85 : decode cX6_moveBeasts 85 = .ok (.iconst 1, 1) := by decide +kernel
theorem dX6_moveBeasts_86 : decode cX6_moveBeasts 86 = .ok (.goto 4, 3) := by decide +kernel
theorem dX6_moveBeasts_89 : decode cX6_moveBeasts 89 = .ok (.iconst 0, 1) := by decide +kernel
theorem dX6_moveBeasts_90 : decode cX6_moveBeasts 90 = .ok (.istore_n 3, 1) := by decide +kernel
theorem dX6_moveBeasts_91 : decode cX6_moveBeasts 91 = .ok (.iload_n 3, 1) := by decide +kernel
theorem dX6_moveBeasts_92 : decode cX6_moveBeasts 92 = .ok (.ifCond .eq 13, 3) := by decide +kernel
theorem dX6_moveBeasts_95 : decode cX6_moveBeasts 95 = .ok (.aload_n 0, 1) := by decide +kernel
theorem dX6_moveBeasts_96 : decode cX6_moveBeasts 96 = .ok (.iload 5, 2) := by decide +kernel
theorem dX6_moveBeasts_98 : decode cX6_moveBeasts 98 = .ok (.iconst 1, 1) := by decide +kernel
theorem dX6_moveBeasts_99 : decode cX6_moveBeasts 99 = .ok (.invokevirtual 203, 3) := by decide +kernel
theorem dX6_moveBeasts_102 : decode cX6_moveBeasts 102 = .ok (.goto 20, 3) := by decide +kernel
theorem dX6_moveBeasts_105 : decode cX6_moveBeasts 105 = .ok (.iload 5, 2) := by decide +kernel
theorem dX6_moveBeasts_107 : decode cX6_moveBeasts 107 = .ok (.ifCond .lt 15, 3) := by decide +kernel
theorem dX6_moveBeasts_110 : decode cX6_moveBeasts 110 = .ok (.aload_n 0, 1) := by decide +kernel
theorem dX6_moveBeasts_111 : decode cX6_moveBeasts 111 = .ok (.iload_n 1, 1) := by decide +kernel
theorem dX6_moveBeasts_112 : decode cX6_moveBeasts 112 = .ok (.aload_n 0, 1) := by decide +kernel
theorem dX6_moveBeasts_113 : decode cX6_moveBeasts 113 = .ok (.iload_n 1, 1) := by decide +kernel
theorem dX6_moveBeasts_114 : decode cX6_moveBeasts 114 = .ok (.iload 5, 2) := by decide +kernel
theorem dX6_moveBeasts_116 : decode cX6_moveBeasts 116 = .ok (.invokevirtual 218, 3) := by decide +kernel
theorem dX6_moveBeasts_119 : decode cX6_moveBeasts 119 = .ok (.invokevirtual 177, 3) := by decide +kernel
theorem dX6_moveBeasts_122 : decode cX6_moveBeasts 122 = .ok (.iinc 4 1, 3) := by decide +kernel
theorem dX6_moveBeasts_125 : decode cX6_moveBeasts 125 = .ok (.goto (-82), 3) := by decide +kernel
theorem dX6_moveBeasts_128 : decode cX6_moveBeasts 128 = .ok (.iinc 1 1, 3) := by decide +kernel
theorem dX6_moveBeasts_131 : decode cX6_moveBeasts 131 = .ok (.goto (-123), 3) := by decide +kernel
theorem dX6_moveBeasts_134 : decode cX6_moveBeasts 134 = .ok (.return_, 1) := by decide +kernel
theorem dX6_nearestTo_0 : decode cX6_nearestTo 0 = .ok (.iconst (-1), 1) := by decide +kernel
theorem dX6_nearestTo_1 : decode cX6_nearestTo 1 = .ok (.istore_n 2, 1) := by decide +kernel
theorem dX6_nearestTo_2 : decode cX6_nearestTo 2 = .ok (.iconst 0, 1) := by decide +kernel
theorem dX6_nearestTo_3 : decode cX6_nearestTo 3 = .ok (.istore_n 3, 1) := by decide +kernel
theorem dX6_nearestTo_4 : decode cX6_nearestTo 4 = .ok (.iload_n 3, 1) := by decide +kernel
theorem dX6_nearestTo_5 : decode cX6_nearestTo 5 = .ok (.aload_n 0, 1) := by decide +kernel
theorem dX6_nearestTo_6 : decode cX6_nearestTo 6 = .ok (.getfield 39, 3) := by decide +kernel
theorem dX6_nearestTo_9 : decode cX6_nearestTo 9 = .ok (.getfield 49, 3) := by decide +kernel
theorem dX6_nearestTo_12 : decode cX6_nearestTo 12 = .ok (.if_icmp .ge 59, 3) := by decide +kernel
theorem dX6_nearestTo_15 : decode cX6_nearestTo 15 = .ok (.aload_n 0, 1) := by decide +kernel
theorem dX6_nearestTo_16 : decode cX6_nearestTo 16 = .ok (.getfield 15, 3) := by decide +kernel
theorem dX6_nearestTo_19 : decode cX6_nearestTo 19 = .ok (.iload_n 3, 1) := by decide +kernel
theorem dX6_nearestTo_20 : decode cX6_nearestTo 20 = .ok (.iaload, 1) := by decide +kernel
theorem dX6_nearestTo_21 : decode cX6_nearestTo 21 = .ok (.ifCond .le 44, 3) := by decide +kernel
theorem dX6_nearestTo_24 : decode cX6_nearestTo 24 = .ok (.aload_n 0, 1) := by decide +kernel
theorem dX6_nearestTo_25 : decode cX6_nearestTo 25 = .ok (.aload_n 0, 1) := by decide +kernel
theorem dX6_nearestTo_26 : decode cX6_nearestTo 26 = .ok (.getfield 9, 3) := by decide +kernel
theorem dX6_nearestTo_29 : decode cX6_nearestTo 29 = .ok (.iload_n 1, 1) := by decide +kernel
theorem dX6_nearestTo_30 : decode cX6_nearestTo 30 = .ok (.iaload, 1) := by decide +kernel
theorem dX6_nearestTo_31 : decode cX6_nearestTo 31 = .ok (.aload_n 0, 1) := by decide +kernel
theorem dX6_nearestTo_32 : decode cX6_nearestTo 32 = .ok (.getfield 9, 3) := by decide +kernel
theorem dX6_nearestTo_35 : decode cX6_nearestTo 35 = .ok (.iload_n 3, 1) := by decide +kernel
theorem dX6_nearestTo_36 : decode cX6_nearestTo 36 = .ok (.iaload, 1) := by decide +kernel
theorem dX6_nearestTo_37 : decode cX6_nearestTo 37 = .ok (.iconst 4, 1) := by decide +kernel
theorem dX6_nearestTo_38 : decode cX6_nearestTo 38 = .ok (.invokevirtual 116, 3) := by decide +kernel
theorem dX6_nearestTo_41 : decode cX6_nearestTo 41 = .ok (.ifCond .eq 24, 3) := by decide +kernel
theorem dX6_nearestTo_44 : decode cX6_nearestTo 44 = .ok (.iload_n 2, 1) := by decide +kernel
theorem dX6_nearestTo_45 : decode cX6_nearestTo 45 = .ok (.ifCond .lt 18, 3) := by decide +kernel
theorem dX6_nearestTo_48 : decode cX6_nearestTo 48 = .ok (.aload_n 0, 1) := by decide +kernel
theorem dX6_nearestTo_49 : decode cX6_nearestTo 49 = .ok (.iload_n 1, 1) := by decide +kernel
theorem dX6_nearestTo_50 : decode cX6_nearestTo 50 = .ok (.iload_n 3, 1) := by decide +kernel
theorem dX6_nearestTo_51 : decode cX6_nearestTo 51 = .ok (.invokevirtual 215, 3) := by decide +kernel
theorem dX6_nearestTo_54 : decode cX6_nearestTo 54 = .ok (.aload_n 0, 1) := by decide +kernel
theorem dX6_nearestTo_55 : decode cX6_nearestTo 55 = .ok (.iload_n 1, 1) := by decide +kernel
theorem dX6_nearestTo_56 : decode cX6_nearestTo 56 = .ok (.iload_n 2, 1) := by decide +kernel
theorem dX6_nearestTo_57 : decode cX6_nearestTo 57 = .ok (.invokevirtual 215, 3) := by decide +kernel
theorem dX6_nearestTo_60 : decode cX6_nearestTo 60 = .ok (.if_icmp .ge 5, 3) := by decide +kernel
theorem dX6_nearestTo_63 : decode cX6_nearestTo 63 = .ok (.iload_n 3, 1) := by decide +kernel
theorem dX6_nearestTo_64 : decode cX6_nearestTo 64 = .ok (.istore_n 2, 1) := by decide +kernel
theorem dX6_nearestTo_65 : decode cX6_nearestTo 65 = .ok (.iinc 3 1, 3) := by decide +kernel
theorem dX6_nearestTo_68 : decode cX6_nearestTo 68 = .ok (.goto (-64), 3) := by decide +kernel
theorem dX6_nearestTo_71 : decode cX6_nearestTo 71 = .ok (.iload_n 2, 1) := by decide +kernel
theorem dX6_nearestTo_72 : decode cX6_nearestTo 72 = .ok (.ireturn, 1) := by decide +kernel
theorem dX6_columnsBetween_0 : decode cX6_columnsBetween 0 = .ok (.aload_n 0, 1) := by decide +kernel
theorem dX6_columnsBetween_1 : decode cX6_columnsBetween 1 = .ok (.getfield 39, 3) := by decide +kernel
theorem dX6_columnsBetween_4 : decode cX6_columnsBetween 4 = .ok (.getfield 91, 3) := by decide +kernel
theorem dX6_columnsBetween_7 : decode cX6_columnsBetween 7 = .ok (.aload_n 0, 1) := by decide +kernel
theorem dX6_columnsBetween_8 : decode cX6_columnsBetween 8 = .ok (.getfield 9, 3) := by decide +kernel
theorem dX6_columnsBetween_11 : decode cX6_columnsBetween 11 = .ok (.iload_n 2, 1) := by decide +kernel
theorem dX6_columnsBetween_12 : decode cX6_columnsBetween 12 = .ok (.iaload, 1) := by decide +kernel
theorem dX6_columnsBetween_13 : decode cX6_columnsBetween 13 = .ok (.iaload, 1) := by decide +kernel
theorem dX6_columnsBetween_14 : decode cX6_columnsBetween 14 = .ok (.aload_n 0, 1) := by decide +kernel
theorem dX6_columnsBetween_15 : decode cX6_columnsBetween 15 = .ok (.getfield 39, 3) := by decide +kernel
theorem dX6_columnsBetween_18 : decode cX6_columnsBetween 18 = .ok (.getfield 91, 3) := by decide +kernel
theorem dX6_columnsBetween_21 : decode cX6_columnsBetween 21 = .ok (.aload_n 0, 1) := by decide +kernel
theorem dX6_columnsBetween_22 : decode cX6_columnsBetween 22 = .ok (.getfield 9, 3) := by decide +kernel
theorem dX6_columnsBetween_25 : decode cX6_columnsBetween 25 = .ok (.iload_n 1, 1) := by decide +kernel
theorem dX6_columnsBetween_26 : decode cX6_columnsBetween 26 = .ok (.iaload, 1) := by decide +kernel
theorem dX6_columnsBetween_27 : decode cX6_columnsBetween 27 = .ok (.iaload, 1) := by decide +kernel
theorem dX6_columnsBetween_28 : decode cX6_columnsBetween 28 = .ok (.isub, 1) := by decide +kernel
theorem dX6_columnsBetween_29 : decode cX6_columnsBetween 29 = .ok (.ireturn, 1) := by decide +kernel
theorem dX6_rowsBetween_0 : decode cX6_rowsBetween 0 = .ok (.aload_n 0, 1) := by decide +kernel
theorem dX6_rowsBetween_1 : decode cX6_rowsBetween 1 = .ok (.getfield 39, 3) := by decide +kernel
theorem dX6_rowsBetween_4 : decode cX6_rowsBetween 4 = .ok (.getfield 94, 3) := by decide +kernel
theorem dX6_rowsBetween_7 : decode cX6_rowsBetween 7 = .ok (.aload_n 0, 1) := by decide +kernel
theorem dX6_rowsBetween_8 : decode cX6_rowsBetween 8 = .ok (.getfield 9, 3) := by decide +kernel
theorem dX6_rowsBetween_11 : decode cX6_rowsBetween 11 = .ok (.iload_n 2, 1) := by decide +kernel
theorem dX6_rowsBetween_12 : decode cX6_rowsBetween 12 = .ok (.iaload, 1) := by decide +kernel
theorem dX6_rowsBetween_13 : decode cX6_rowsBetween 13 = .ok (.iaload, 1) := by decide +kernel
theorem dX6_rowsBetween_14 : decode cX6_rowsBetween 14 = .ok (.aload_n 0, 1) := by decide +kernel
theorem dX6_rowsBetween_15 : decode cX6_rowsBetween 15 = .ok (.getfield 39, 3) := by decide +kernel
theorem dX6_rowsBetween_18 : decode cX6_rowsBetween 18 = .ok (.getfield 94, 3) := by decide +kernel
theorem dX6_rowsBetween_21 : decode cX6_rowsBetween 21 = .ok (.aload_n 0, 1) := by decide +kernel
theorem dX6_rowsBetween_22 : decode cX6_rowsBetween 22 = .ok (.getfield 9, 3) := by decide +kernel
theorem dX6_rowsBetween_25 : decode cX6_rowsBetween 25 = .ok (.iload_n 1, 1) := by decide +kernel
theorem dX6_rowsBetween_26 : decode cX6_rowsBetween 26 = .ok (.iaload, 1) := by decide +kernel
theorem dX6_rowsBetween_27 : decode cX6_rowsBetween 27 = .ok (.iaload, 1) := by decide +kernel
theorem dX6_rowsBetween_28 : decode cX6_rowsBetween 28 = .ok (.isub, 1) := by decide +kernel
theorem dX6_rowsBetween_29 : decode cX6_rowsBetween 29 = .ok (.ireturn, 1) := by decide +kernel
theorem dX6_distance_0 : decode cX6_distance 0 = .ok (.aload_n 0, 1) := by decide +kernel
theorem dX6_distance_1 : decode cX6_distance 1 = .ok (.iload_n 1, 1) := by decide +kernel
theorem dX6_distance_2 : decode cX6_distance 2 = .ok (.iload_n 2, 1) := by decide +kernel
theorem dX6_distance_3 : decode cX6_distance 3 = .ok (.invokevirtual 221, 3) := by decide +kernel
theorem dX6_distance_6 : decode cX6_distance 6 = .ok (.invokestatic 97, 3) := by decide +kernel
theorem dX6_distance_9 : decode cX6_distance 9 = .ok (.aload_n 0, 1) := by decide +kernel
theorem dX6_distance_10 : decode cX6_distance 10 = .ok (.iload_n 1, 1) := by decide +kernel
theorem dX6_distance_11 : decode cX6_distance 11 = .ok (.iload_n 2, 1) := by decide +kernel
theorem dX6_distance_12 : decode cX6_distance 12 = .ok (.invokevirtual 224, 3) := by decide +kernel
theorem dX6_distance_15 : decode cX6_distance 15 = .ok (.invokestatic 97, 3) := by decide +kernel
theorem dX6_distance_18 : decode cX6_distance 18 = .ok (.iadd, 1) := by decide +kernel
theorem dX6_distance_19 : decode cX6_distance 19 = .ok (.ireturn, 1) := by decide +kernel
theorem dX6_cellTowards_0 : decode cX6_cellTowards 0 = .ok (.aload_n 0, 1) := by decide +kernel
theorem dX6_cellTowards_1 : decode cX6_cellTowards 1 = .ok (.iload_n 1, 1) := by decide +kernel
theorem dX6_cellTowards_2 : decode cX6_cellTowards 2 = .ok (.iload_n 2, 1) := by decide +kernel
theorem dX6_cellTowards_3 : decode cX6_cellTowards 3 = .ok (.invokevirtual 221, 3) := by decide +kernel
theorem dX6_cellTowards_6 : decode cX6_cellTowards 6 = .ok (.istore_n 3, 1) := by decide +kernel
theorem dX6_cellTowards_7 : decode cX6_cellTowards 7 = .ok (.aload_n 0, 1) := by decide +kernel
theorem dX6_cellTowards_8 : decode cX6_cellTowards 8 = .ok (.iload_n 1, 1) := by decide +kernel
theorem dX6_cellTowards_9 : decode cX6_cellTowards 9 = .ok (.iload_n 2, 1) := by decide +kernel
theorem dX6_cellTowards_10 : decode cX6_cellTowards 10 = .ok (.invokevirtual 224, 3) := by decide +kernel
theorem dX6_cellTowards_13 : decode cX6_cellTowards 13 = .ok (.istore 4, 2) := by decide +kernel
theorem dX6_cellTowards_15 : decode cX6_cellTowards 15 = .ok (.iload_n 3, 1) := by decide +kernel
theorem dX6_cellTowards_16 : decode cX6_cellTowards 16 = .ok (.ifCond .ne 7, 3) := by decide +kernel
theorem dX6_cellTowards_19 : decode cX6_cellTowards 19 = .ok (.iconst (-1), 1) := by decide +kernel
theorem dX6_cellTowards_20 : decode cX6_cellTowards 20 = .ok (.goto 25, 3) := by decide +kernel
theorem dX6_cellTowards_23 : decode cX6_cellTowards 23 = .ok (.aload_n 0, 1) := by decide +kernel
theorem dX6_cellTowards_24 : decode cX6_cellTowards 24 = .ok (.getfield 39, 3) := by decide +kernel
theorem dX6_cellTowards_27 : decode cX6_cellTowards 27 = .ok (.aload_n 0, 1) := by decide +kernel
theorem dX6_cellTowards_28 : decode cX6_cellTowards 28 = .ok (.getfield 9, 3) := by decide +kernel
theorem dX6_cellTowards_31 : decode cX6_cellTowards 31 = .ok (.iload_n 1, 1) := by decide +kernel
theorem dX6_cellTowards_32 : decode cX6_cellTowards 32 = .ok (.iaload, 1) := by decide +kernel
theorem dX6_cellTowards_33 : decode cX6_cellTowards 33 = .ok (.iload_n 3, 1) := by decide +kernel
theorem dX6_cellTowards_34 : decode cX6_cellTowards 34 = .ok (.ifCond .le 7, 3) := by decide +kernel
theorem dX6_cellTowards_37 : decode cX6_cellTowards 37 = .ok (.iconst 1, 1) := by decide +kernel
theorem dX6_cellTowards_38 : decode cX6_cellTowards 38 = .ok (.goto 4, 3) := by decide +kernel
theorem dX6_cellTowards_41 : decode cX6_cellTowards 41 = .ok (.iconst 3, 1) := by decide +kernel
theorem dX6_cellTowards_42 : decode cX6_cellTowards 42 = .ok (.invokevirtual 146, 3) := by decide +kernel
theorem dX6_cellTowards_45 : decode cX6_cellTowards 45 = .ok (.istore 5, 2) := by decide +kernel
theorem dX6_cellTowards_47 : decode cX6_cellTowards 47 = .ok (.iload 4, 2) := by decide +kernel
theorem dX6_cellTowards_49 : decode cX6_cellTowards 49 = .ok (.ifCond .ne 7, 3) := by decide +kernel
theorem dX6_cellTowards_52 : decode cX6_cellTowards 52 = .ok (.iconst (-1), 1) := by decide +kernel
theorem dX6_cellTowards_53 : decode cX6_cellTowards 53 = .ok (.goto 26, 3) := by decide +kernel
theorem dX6_cellTowards_56 : decode cX6_cellTowards 56 = .ok (.aload_n 0, 1) := by decide +kernel
theorem dX6_cellTowards_57 : decode cX6_cellTowards 57 = .ok (.getfield 39, 3) := by decide +kernel
theorem dX6_cellTowards_60 : decode cX6_cellTowards 60 = .ok (.aload_n 0, 1) := by decide +kernel
theorem dX6_cellTowards_61 : decode cX6_cellTowards 61 = .ok (.getfield 9, 3) := by decide +kernel
theorem dX6_cellTowards_64 : decode cX6_cellTowards 64 = .ok (.iload_n 1, 1) := by decide +kernel
theorem dX6_cellTowards_65 : decode cX6_cellTowards 65 = .ok (.iaload, 1) := by decide +kernel
theorem dX6_cellTowards_66 : decode cX6_cellTowards 66 = .ok (.iload 4, 2) := by decide +kernel
theorem dX6_cellTowards_68 : decode cX6_cellTowards 68 = .ok (.ifCond .le 7, 3) := by decide +kernel
theorem dX6_cellTowards_71 : decode cX6_cellTowards 71 = .ok (.iconst 2, 1) := by decide +kernel
theorem dX6_cellTowards_72 : decode cX6_cellTowards 72 = .ok (.goto 4, 3) := by decide +kernel
theorem dX6_cellTowards_75 : decode cX6_cellTowards 75 = .ok (.iconst 0, 1) := by decide +kernel
theorem dX6_cellTowards_76 : decode cX6_cellTowards 76 = .ok (.invokevirtual 146, 3) := by decide +kernel
theorem dX6_cellTowards_79 : decode cX6_cellTowards 79 = .ok (.istore 6, 2) := by decide +kernel
theorem dX6_cellTowards_81 : decode cX6_cellTowards 81 = .ok (.iload_n 3, 1) := by decide +kernel
theorem dX6_cellTowards_82 : decode cX6_cellTowards 82 = .ok (.invokestatic 97, 3) := by decide +kernel
theorem dX6_cellTowards_85 : decode cX6_cellTowards 85 = .ok (.iload 4, 2) := by decide +kernel
theorem dX6_cellTowards_87 : decode cX6_cellTowards 87 = .ok (.invokestatic 97, 3) := by decide +kernel
theorem dX6_cellTowards_90 : decode cX6_cellTowards 90 = .ok (.if_icmp .lt 20, 3) := by decide +kernel
theorem dX6_cellTowards_93 : decode cX6_cellTowards 93 = .ok (.aload_n 0, 1) := by decide +kernel
theorem dX6_cellTowards_94 : decode cX6_cellTowards 94 = .ok (.iload 5, 2) := by decide +kernel
theorem dX6_cellTowards_96 : decode cX6_cellTowards 96 = .ok (.invokevirtual 209, 3) := by decide +kernel
theorem dX6_cellTowards_99 : decode cX6_cellTowards 99 = .ok (.ifCond .eq 8, 3) := by decide +kernel
theorem dX6_cellTowards_102 : decode cX6_cellTowards 102 = .ok (.iload 5, 2) := by decide +kernel
theorem dX6_cellTowards_104 : decode cX6_cellTowards 104 = .ok (.goto 5, 3) := by decide +kernel
theorem dX6_cellTowards_107 : decode cX6_cellTowards 107 = .ok (.iload 6, 2) := by decide +kernel
theorem dX6_cellTowards_109 : decode cX6_cellTowards 109 = .ok (.ireturn, 1) := by decide +kernel
theorem dX6_cellTowards_110 : decode cX6_cellTowards 110 = .ok (.aload_n 0, 1) := by decide +kernel
theorem dX6_cellTowards_111 : decode cX6_cellTowards 111 = .ok (.iload 6, 2) := by decide +kernel
theorem dX6_cellTowards_113 : decode cX6_cellTowards 113 = .ok (.invokevirtual 209, 3) := by decide +kernel
theorem dX6_cellTowards_116 : decode cX6_cellTowards 116 = .ok (.ifCond .eq 8, 3) := by decide +kernel
theorem dX6_cellTowards_119 : decode cX6_cellTowards 119 = .ok (.iload 6, 2) := by decide +kernel
theorem dX6_cellTowards_121 : decode cX6_cellTowards 121 = .ok (.goto 5, 3) := by decide +kernel
theorem dX6_cellTowards_124 : decode cX6_cellTowards 124 = .ok (.iload 5, 2) := by decide +kernel
theorem dX6_cellTowards_126 : decode cX6_cellTowards 126 = .ok (.ireturn, 1) := by decide +kernel
theorem dX6_endTick_0 : decode cX6_endTick 0 = .ok (.iconst 0, 1) := by decide +kernel
theorem dX6_endTick_1 : decode cX6_endTick 1 = .ok (.istore_n 1, 1) := by decide +kernel
theorem dX6_endTick_2 : decode cX6_endTick 2 = .ok (.iload_n 1, 1) := by decide +kernel
theorem dX6_endTick_3 : decode cX6_endTick 3 = .ok (.aload_n 0, 1) := by decide +kernel
theorem dX6_endTick_4 : decode cX6_endTick 4 = .ok (.getfield 39, 3) := by decide +kernel
theorem dX6_endTick_7 : decode cX6_endTick 7 = .ok (.getfield 49, 3) := by decide +kernel
theorem dX6_endTick_10 : decode cX6_endTick 10 = .ok (.if_icmp .ge 48, 3) := by decide +kernel
theorem dX6_endTick_13 : decode cX6_endTick 13 = .ok (.aload_n 0, 1) := by decide +kernel
theorem dX6_endTick_14 : decode cX6_endTick 14 = .ok (.iload_n 1, 1) := by decide +kernel
theorem dX6_endTick_15 : decode cX6_endTick 15 = .ok (.bipush 7, 2) := by decide +kernel
theorem dX6_endTick_17 : decode cX6_endTick 17 = .ok (.invokevirtual 112, 3) := by decide +kernel
theorem dX6_endTick_20 : decode cX6_endTick 20 = .ok (.ifCond .eq 13, 3) := by decide +kernel
theorem dX6_endTick_23 : decode cX6_endTick 23 = .ok (.aload_n 0, 1) := by decide +kernel
theorem dX6_endTick_24 : decode cX6_endTick 24 = .ok (.getfield 30, 3) := by decide +kernel
theorem dX6_endTick_27 : decode cX6_endTick 27 = .ok (.iload_n 1, 1) := by decide +kernel
theorem dX6_endTick_28 : decode cX6_endTick 28 = .ok (.dup2, 1) := by decide +kernel
theorem dX6_endTick_29 : decode cX6_endTick 29 = .ok (.iaload, 1) := by decide +kernel
theorem dX6_endTick_30 : decode cX6_endTick 30 = .ok (.iconst 1, 1) := by decide +kernel
theorem dX6_endTick_31 : decode cX6_endTick 31 = .ok (.iadd, 1) := by decide +kernel
theorem dX6_endTick_32 : decode cX6_endTick 32 = .ok (.iastore, 1) := by decide +kernel
theorem dX6_endTick_33 : decode cX6_endTick 33 = .ok (.aload_n 0, 1) := by decide +kernel
theorem dX6_endTick_34 : decode cX6_endTick 34 = .ok (.getfield 24, 3) := by decide +kernel
theorem dX6_endTick_37 : decode cX6_endTick 37 = .ok (.iload_n 1, 1) := by decide +kernel
theorem dX6_endTick_38 : decode cX6_endTick 38 = .ok (.iaload, 1) := by decide +kernel
theorem dX6_endTick_39 : decode cX6_endTick 39 = .ok (.ifCond .le 13, 3) := by decide +kernel
theorem dX6_endTick_42 : decode cX6_endTick 42 = .ok (.aload_n 0, 1) := by decide +kernel
theorem dX6_endTick_43 : decode cX6_endTick 43 = .ok (.getfield 24, 3) := by decide +kernel
theorem dX6_endTick_46 : decode cX6_endTick 46 = .ok (.iload_n 1, 1) := by decide +kernel
theorem dX6_endTick_47 : decode cX6_endTick 47 = .ok (.dup2, 1) := by decide +kernel
theorem dX6_endTick_48 : decode cX6_endTick 48 = .ok (.iaload, 1) := by decide +kernel
theorem dX6_endTick_49 : decode cX6_endTick 49 = .ok (.iconst 1, 1) := by decide +kernel
theorem dX6_endTick_50 : decode cX6_endTick 50 = .ok (.isub, 1) := by decide +kernel
theorem dX6_endTick_51 : decode cX6_endTick 51 = .ok (.iastore, 1) := by decide +kernel
theorem dX6_endTick_52 : decode cX6_endTick 52 = .ok (.iinc 1 1, 3) := by decide +kernel
theorem dX6_endTick_55 : decode cX6_endTick 55 = .ok (.goto (-53), 3) := by decide +kernel
theorem dX6_endTick_58 : decode cX6_endTick 58 = .ok (.aload_n 0, 1) := by decide +kernel
theorem dX6_endTick_59 : decode cX6_endTick 59 = .ok (.invokevirtual 227, 3) := by decide +kernel
theorem dX6_endTick_62 : decode cX6_endTick 62 = .ok (.return_, 1) := by decide +kernel
theorem dX6_readPlates_0 : decode cX6_readPlates 0 = .ok (.iconst 0, 1) := by decide +kernel
theorem dX6_readPlates_1 : decode cX6_readPlates 1 = .ok (.istore_n 1, 1) := by decide +kernel
theorem dX6_readPlates_2 : decode cX6_readPlates 2 = .ok (.iload_n 1, 1) := by decide +kernel
theorem dX6_readPlates_3 : decode cX6_readPlates 3 = .ok (.aload_n 0, 1) := by decide +kernel
theorem dX6_readPlates_4 : decode cX6_readPlates 4 = .ok (.getfield 39, 3) := by decide +kernel
theorem dX6_readPlates_7 : decode cX6_readPlates 7 = .ok (.getfield 49, 3) := by decide +kernel
theorem dX6_readPlates_10 : decode cX6_readPlates 10 = .ok (.if_icmp .ge 61, 3) := by decide +kernel
theorem dX6_readPlates_13 : decode cX6_readPlates 13 = .ok (.aload_n 0, 1) := by decide +kernel
theorem dX6_readPlates_14 : decode cX6_readPlates 14 = .ok (.getfield 15, 3) := by decide +kernel
theorem dX6_readPlates_17 : decode cX6_readPlates 17 = .ok (.iload_n 1, 1) := by decide +kernel
theorem dX6_readPlates_18 : decode cX6_readPlates 18 = .ok (.iaload, 1) := by decide +kernel
theorem dX6_readPlates_19 : decode cX6_readPlates 19 = .ok (.ifCond .le 46, 3) := by decide +kernel
theorem dX6_readPlates_22 : decode cX6_readPlates 22 = .ok (.aload_n 0, 1) := by decide +kernel
theorem dX6_readPlates_23 : decode cX6_readPlates 23 = .ok (.getfield 39, 3) := by decide +kernel
theorem dX6_readPlates_26 : decode cX6_readPlates 26 = .ok (.getfield 78, 3) := by decide +kernel
theorem dX6_readPlates_29 : decode cX6_readPlates 29 = .ok (.aload_n 0, 1) := by decide +kernel
theorem dX6_readPlates_30 : decode cX6_readPlates 30 = .ok (.getfield 9, 3) := by decide +kernel
theorem dX6_readPlates_33 : decode cX6_readPlates 33 = .ok (.iload_n 1, 1) := by decide +kernel
theorem dX6_readPlates_34 : decode cX6_readPlates 34 = .ok (.iaload, 1) := by decide +kernel
theorem dX6_readPlates_35 : decode cX6_readPlates 35 = .ok (.iaload, 1) := by decide +kernel
theorem dX6_readPlates_36 : decode cX6_readPlates 36 = .ok (.iconst 3, 1) := by decide +kernel
theorem dX6_readPlates_37 : decode cX6_readPlates 37 = .ok (.if_icmp .ne 28, 3) := by decide +kernel
theorem dX6_readPlates_40 : decode cX6_readPlates 40 = .ok (.aload_n 0, 1) := by decide +kernel
theorem dX6_readPlates_41 : decode cX6_readPlates 41 = .ok (.getfield 33, 3) := by decide +kernel
theorem dX6_readPlates_44 : decode cX6_readPlates 44 = .ok (.iload_n 1, 1) := by decide +kernel
theorem dX6_readPlates_45 : decode cX6_readPlates 45 = .ok (.dup2, 1) := by decide +kernel
theorem dX6_readPlates_46 : decode cX6_readPlates 46 = .ok (.iaload, 1) := by decide +kernel
theorem dX6_readPlates_47 : decode cX6_readPlates 47 = .ok (.iconst 1, 1) := by decide +kernel
theorem dX6_readPlates_48 : decode cX6_readPlates 48 = .ok (.aload_n 0, 1) := by decide +kernel
theorem dX6_readPlates_49 : decode cX6_readPlates 49 = .ok (.getfield 39, 3) := by decide +kernel
theorem dX6_readPlates_52 : decode cX6_readPlates 52 = .ok (.getfield 81, 3) := by decide +kernel
theorem dX6_readPlates_55 : decode cX6_readPlates 55 = .ok (.aload_n 0, 1) := by decide +kernel
theorem dX6_readPlates_56 : decode cX6_readPlates 56 = .ok (.getfield 9, 3) := by decide +kernel
theorem dX6_readPlates_59 : decode cX6_readPlates 59 = .ok (.iload_n 1, 1) := by decide +kernel
theorem dX6_readPlates_60 : decode cX6_readPlates 60 = .ok (.iaload, 1) := by decide +kernel
theorem dX6_readPlates_61 : decode cX6_readPlates 61 = .ok (.iaload, 1) := by decide +kernel
theorem dX6_readPlates_62 : decode cX6_readPlates 62 = .ok (.ishl, 1) := by decide +kernel
theorem dX6_readPlates_63 : decode cX6_readPlates 63 = .ok (.ior, 1) := by decide +kernel
theorem dX6_readPlates_64 : decode cX6_readPlates 64 = .ok (.iastore, 1) := by decide +kernel
theorem dX6_readPlates_65 : decode cX6_readPlates 65 = .ok (.iinc 1 1, 3) := by decide +kernel
theorem dX6_readPlates_68 : decode cX6_readPlates 68 = .ok (.goto (-66), 3) := by decide +kernel
theorem dX6_readPlates_71 : decode cX6_readPlates 71 = .ok (.return_, 1) := by decide +kernel
theorem dX7_init_0 : decode cX7_init 0 = .ok (.aload_n 0, 1) := by decide +kernel
theorem dX7_init_1 : decode cX7_init 1 = .ok (.invokespecial 3, 3) := by decide +kernel
theorem dX7_init_4 : decode cX7_init 4 = .ok (.aload_n 0, 1) := by decide +kernel
theorem dX7_init_5 : decode cX7_init 5 = .ok (.new 9, 3) := by decide +kernel
theorem dX7_init_8 : decode cX7_init 8 = .ok (.dup, 1) := by decide +kernel
theorem dX7_init_9 : decode cX7_init 9 = .ok (.invokespecial 11, 3) := by decide +kernel
theorem dX7_init_12 : decode cX7_init 12 = .ok (.putfield 12, 3) := by decide +kernel
theorem dX7_init_15 : decode cX7_init 15 = .ok (.aload_n 0, 1) := by decide +kernel
theorem dX7_init_16 : decode cX7_init 16 = .ok (.new 9, 3) := by decide +kernel
theorem dX7_init_19 : decode cX7_init 19 = .ok (.dup, 1) := by decide +kernel
theorem dX7_init_20 : decode cX7_init 20 = .ok (.invokespecial 11, 3) := by decide +kernel
theorem dX7_init_23 : decode cX7_init 23 = .ok (.putfield 18, 3) := by decide +kernel
theorem dX7_init_26 : decode cX7_init 26 = .ok (.return_, 1) := by decide +kernel
theorem dX7_wipe_0 : decode cX7_wipe 0 = .ok (.aload_n 0, 1) := by decide +kernel
theorem dX7_wipe_1 : decode cX7_wipe 1 = .ok (.getfield 12, 3) := by decide +kernel
theorem dX7_wipe_4 : decode cX7_wipe 4 = .ok (.invokevirtual 21, 3) := by decide +kernel
theorem dX7_wipe_7 : decode cX7_wipe 7 = .ok (.aload_n 0, 1) := by decide +kernel
theorem dX7_wipe_8 : decode cX7_wipe 8 = .ok (.getfield 18, 3) := by decide +kernel
theorem dX7_wipe_11 : decode cX7_wipe 11 = .ok (.invokevirtual 21, 3) := by decide +kernel
theorem dX7_wipe_14 : decode cX7_wipe 14 = .ok (.aload_n 0, 1) := by decide +kernel
theorem dX7_wipe_15 : decode cX7_wipe 15 = .ok (.iconst 0, 1) := by decide +kernel
theorem dX7_wipe_16 : decode cX7_wipe 16 = .ok (.putfield 24, 3) := by decide +kernel
theorem dX7_wipe_19 : decode cX7_wipe 19 = .ok (.aload_n 0, 1) := by decide +kernel
theorem dX7_wipe_20 : decode cX7_wipe 20 = .ok (.iconst 0, 1) := by decide +kernel
theorem dX7_wipe_21 : decode cX7_wipe 21 = .ok (.putfield 28, 3) := by decide +kernel
theorem dX7_wipe_24 : decode cX7_wipe 24 = .ok (.aload_n 0, 1) := by decide +kernel
theorem dX7_wipe_25 : decode cX7_wipe 25 = .ok (.iconst (-1), 1) := by decide +kernel
theorem dX7_wipe_26 : decode cX7_wipe 26 = .ok (.putfield 31, 3) := by decide +kernel
theorem dX7_wipe_29 : decode cX7_wipe 29 = .ok (.aload_n 0, 1) := by decide +kernel
theorem dX7_wipe_30 : decode cX7_wipe 30 = .ok (.iconst (-1), 1) := by decide +kernel
theorem dX7_wipe_31 : decode cX7_wipe 31 = .ok (.putfield 34, 3) := by decide +kernel
theorem dX7_wipe_34 : decode cX7_wipe 34 = .ok (.return_, 1) := by decide +kernel
theorem dX7_countHit_0 : decode cX7_countHit 0 = .ok (.iload_n 1, 1) := by decide +kernel
theorem dX7_countHit_1 : decode cX7_countHit 1 = .ok (.ifCond .eq 16, 3) := by decide +kernel
theorem dX7_countHit_4 : decode cX7_countHit 4 = .ok (.aload_n 0, 1) := by decide +kernel
theorem dX7_countHit_5 : decode cX7_countHit 5 = .ok (.dup, 1) := by decide +kernel
theorem dX7_countHit_6 : decode cX7_countHit 6 = .ok (.getfield 28, 3) := by decide +kernel
theorem dX7_countHit_9 : decode cX7_countHit 9 = .ok (.iconst 1, 1) := by decide +kernel
theorem dX7_countHit_10 : decode cX7_countHit 10 = .ok (.iadd, 1) := by decide +kernel
theorem dX7_countHit_11 : decode cX7_countHit 11 = .ok (.putfield 28, 3) := by decide +kernel
theorem dX7_countHit_14 : decode cX7_countHit 14 = .ok (.goto 13, 3) := by decide +kernel
theorem dX7_countHit_17 : decode cX7_countHit 17 = .ok (.aload_n 0, 1) := by decide +kernel
theorem dX7_countHit_18 : decode cX7_countHit 18 = .ok (.dup, 1) := by decide +kernel
theorem dX7_countHit_19 : decode cX7_countHit 19 = .ok (.getfield 24, 3) := by decide +kernel
theorem dX7_countHit_22 : decode cX7_countHit 22 = .ok (.iconst 1, 1) := by decide +kernel
theorem dX7_countHit_23 : decode cX7_countHit 23 = .ok (.iadd, 1) := by decide +kernel
theorem dX7_countHit_24 : decode cX7_countHit 24 = .ok (.putfield 24, 3) := by decide +kernel
theorem dX7_countHit_27 : decode cX7_countHit 27 = .ok (.return_, 1) := by decide +kernel
theorem dX7_lookAtGap_0 : decode cX7_lookAtGap 0 = .ok (.aload_n 0, 1) := by decide +kernel
theorem dX7_lookAtGap_1 : decode cX7_lookAtGap 1 = .ok (.getfield 31, 3) := by decide +kernel
theorem dX7_lookAtGap_4 : decode cX7_lookAtGap 4 = .ok (.ifCond .lt 49, 3) := by decide +kernel
theorem dX7_lookAtGap_7 : decode cX7_lookAtGap 7 = .ok (.iload_n 1, 1) := by decide +kernel
theorem dX7_lookAtGap_8 : decode cX7_lookAtGap 8 = .ok (.aload_n 0, 1) := by decide +kernel
theorem dX7_lookAtGap_9 : decode cX7_lookAtGap 9 = .ok (.getfield 31, 3) := by decide +kernel
theorem dX7_lookAtGap_12 : decode cX7_lookAtGap 12 = .ok (.isub, 1) := by decide +kernel
theorem dX7_lookAtGap_13 : decode cX7_lookAtGap 13 = .ok (.istore 4, 2) := by decide +kernel
theorem dX7_lookAtGap_15 : decode cX7_lookAtGap 15 = .ok (.aload_n 0, 1) := by decide +kernel
theorem dX7_lookAtGap_16 : decode cX7_lookAtGap 16 = .ok (.getfield 34, 3) := by decide +kernel
theorem dX7_lookAtGap_19 : decode cX7_lookAtGap 19 = .ok (.ifCond .lt 28, 3) := by decide +kernel
theorem dX7_lookAtGap_22 : decode cX7_lookAtGap 22 = .ok (.aload_n 0, 1) := by decide +kernel
theorem dX7_lookAtGap_23 : decode cX7_lookAtGap 23 = .ok (.getfield 18, 3) := by decide +kernel
theorem dX7_lookAtGap_26 : decode cX7_lookAtGap 26 = .ok (.ldc 37, 2) := by decide +kernel
theorem dX7_lookAtGap_28 : decode cX7_lookAtGap 28 = .ok (.iload 4, 2) := by decide +kernel
theorem dX7_lookAtGap_30 : decode cX7_lookAtGap 30 = .ok (.aload_n 0, 1) := by decide +kernel
theorem dX7_lookAtGap_31 : decode cX7_lookAtGap 31 = .ok (.getfield 34, 3) := by decide +kernel
theorem dX7_lookAtGap_34 : decode cX7_lookAtGap 34 = .ok (.if_icmp .ne 7, 3) := by decide +kernel
theorem dX7_lookAtGap_37 : decode cX7_lookAtGap 37 = .ok (.iconst 1, 1) := by decide +kernel
theorem dX7_lookAtGap_38 : decode cX7_lookAtGap 38 = .ok (.goto 4, 3) := by decide +kernel
theorem dX7_lookAtGap_41 : decode cX7_lookAtGap 41 = .ok (.iconst 0, 1) := by decide +kernel
theorem dX7_lookAtGap_42 : decode cX7_lookAtGap 42 = .ok (.iload_n 2, 1) := by decide +kernel
theorem dX7_lookAtGap_43 : decode cX7_lookAtGap 43 = .ok (.iload_n 3, 1) := by decide +kernel
theorem dX7_lookAtGap_44 : decode cX7_lookAtGap 44 = .ok (.invokevirtual 38, 3) := by decide +kernel
theorem dX7_lookAtGap_47 : decode cX7_lookAtGap 47 = .ok (.aload_n 0, 1) := by decide +kernel
theorem dX7_lookAtGap_48 : decode cX7_lookAtGap 48 = .ok (.iload 4, 2) := by decide +kernel
theorem dX7_lookAtGap_50 : decode cX7_lookAtGap 50 = .ok (.putfield 34, 3) := by decide +kernel
theorem dX7_lookAtGap_53 : decode cX7_lookAtGap 53 = .ok (.aload_n 0, 1) := by decide +kernel
theorem dX7_lookAtGap_54 : decode cX7_lookAtGap 54 = .ok (.iload_n 1, 1) := by decide +kernel
theorem dX7_lookAtGap_55 : decode cX7_lookAtGap 55 = .ok (.putfield 31, 3) := by decide +kernel
theorem dX7_lookAtGap_58 : decode cX7_lookAtGap 58 = .ok (.return_, 1) := by decide +kernel
theorem dX8_init_0 : decode cX8_init 0 = .ok (.aload_n 0, 1) := by decide +kernel
theorem dX8_init_1 : decode cX8_init 1 = .ok (.invokespecial 3, 3) := by decide +kernel
theorem dX8_init_4 : decode cX8_init 4 = .ok (.aload_n 0, 1) := by decide +kernel
theorem dX8_init_5 : decode cX8_init 5 = .ok (.bipush 80, 2) := by decide +kernel
theorem dX8_init_7 : decode cX8_init 7 = .ok (.newarray .long, 2) := by decide +kernel
theorem dX8_init_9 : decode cX8_init 9 = .ok (.putfield 9, 3) := by decide +kernel
theorem dX8_init_12 : decode cX8_init 12 = .ok (.aload_n 0, 1) := by decide +kernel
theorem dX8_init_13 : decode cX8_init 13 = .ok (.bipush 100, 2) := by decide +kernel
theorem dX8_init_15 : decode cX8_init 15 = .ok (.newarray .int, 2) := by decide +kernel
theorem dX8_init_17 : decode cX8_init 17 = .ok (.putfield 15, 3) := by decide +kernel
theorem dX8_init_20 : decode cX8_init 20 = .ok (.return_, 1) := by decide +kernel
theorem dX8_holdRow_0 : decode cX8_holdRow 0 = .ok (.aload_n 0, 1) := by decide +kernel
theorem dX8_holdRow_1 : decode cX8_holdRow 1 = .ok (.iload_n 1, 1) := by decide +kernel
theorem dX8_holdRow_2 : decode cX8_holdRow 2 = .ok (.putfield 19, 3) := by decide +kernel
theorem dX8_holdRow_5 : decode cX8_holdRow 5 = .ok (.aload_n 0, 1) := by decide +kernel
theorem dX8_holdRow_6 : decode cX8_holdRow 6 = .ok (.iload_n 2, 1) := by decide +kernel
theorem dX8_holdRow_7 : decode cX8_holdRow 7 = .ok (.putfield 23, 3) := by decide +kernel
theorem dX8_holdRow_10 : decode cX8_holdRow 10 = .ok (.aload_n 0, 1) := by decide +kernel
theorem dX8_holdRow_11 : decode cX8_holdRow 11 = .ok (.getfield 9, 3) := by decide +kernel
theorem dX8_holdRow_14 : decode cX8_holdRow 14 = .ok (.lconst 0, 1) := by decide +kernel
theorem dX8_holdRow_15 : decode cX8_holdRow 15 = .ok (.invokestatic 26, 3) := by decide +kernel
theorem dX8_holdRow_18 : decode cX8_holdRow 18 = .ok (.return_, 1) := by decide +kernel
theorem dX8_holdView_0 : decode cX8_holdView 0 = .ok (.aload_n 0, 1) := by decide +kernel
theorem dX8_holdView_1 : decode cX8_holdView 1 = .ok (.iconst 5, 1) := by decide +kernel
theorem dX8_holdView_2 : decode cX8_holdView 2 = .ok (.putfield 19, 3) := by decide +kernel
theorem dX8_holdView_5 : decode cX8_holdView 5 = .ok (.aload_n 0, 1) := by decide +kernel
theorem dX8_holdView_6 : decode cX8_holdView 6 = .ok (.aload_n 1, 1) := by decide +kernel
theorem dX8_holdView_7 : decode cX8_holdView 7 = .ok (.getfield 32, 3) := by decide +kernel
theorem dX8_holdView_10 : decode cX8_holdView 10 = .ok (.getfield 38, 3) := by decide +kernel
theorem dX8_holdView_13 : decode cX8_holdView 13 = .ok (.putfield 23, 3) := by decide +kernel
theorem dX8_holdView_16 : decode cX8_holdView 16 = .ok (.aload_n 0, 1) := by decide +kernel
theorem dX8_holdView_17 : decode cX8_holdView 17 = .ok (.iconst 0, 1) := by decide +kernel
theorem dX8_holdView_18 : decode cX8_holdView 18 = .ok (.putfield 43, 3) := by decide +kernel
theorem dX8_holdView_21 : decode cX8_holdView 21 = .ok (.iconst 0, 1) := by decide +kernel
theorem dX8_holdView_22 : decode cX8_holdView 22 = .ok (.istore_n 3, 1) := by decide +kernel
theorem dX8_holdView_23 : decode cX8_holdView 23 = .ok (.iload_n 3, 1) := by decide +kernel
theorem dX8_holdView_24 : decode cX8_holdView 24 = .ok (.aload_n 0, 1) := by decide +kernel
theorem dX8_holdView_25 : decode cX8_holdView 25 = .ok (.getfield 23, 3) := by decide +kernel
theorem dX8_holdView_28 : decode cX8_holdView 28 = .ok (.if_icmp .ge 40, 3) := by decide +kernel
theorem dX8_holdView_31 : decode cX8_holdView 31 = .ok (.aload_n 0, 1) := by decide +kernel
theorem dX8_holdView_32 : decode cX8_holdView 32 = .ok (.getfield 15, 3) := by decide +kernel
theorem dX8_holdView_35 : decode cX8_holdView 35 = .ok (.iload_n 3, 1) := by decide +kernel
theorem dX8_holdView_36 : decode cX8_holdView 36 = .ok (.aload_n 1, 1) := by decide +kernel
theorem dX8_holdView_37 : decode cX8_holdView 37 = .ok (.iload_n 2, 1) := by decide +kernel
theorem dX8_holdView_38 : decode cX8_holdView 38 = .ok (.iload_n 3, 1) := by decide +kernel
theorem dX8_holdView_39 : decode cX8_holdView 39 = .ok (.invokevirtual 46, 3) := by decide +kernel
theorem dX8_holdView_42 : decode cX8_holdView 42 = .ok (.iastore, 1) := by decide +kernel
theorem dX8_holdView_43 : decode cX8_holdView 43 = .ok (.aload_n 0, 1) := by decide +kernel
theorem dX8_holdView_44 : decode cX8_holdView 44 = .ok (.getfield 15, 3) := by decide +kernel
theorem dX8_holdView_47 : decode cX8_holdView 47 = .ok (.iload_n 3, 1) := by decide +kernel
theorem dX8_holdView_48 : decode cX8_holdView 48 = .ok (.iaload, 1) := by decide +kernel
theorem dX8_holdView_49 : decode cX8_holdView 49 = .ok (.ifCond .lt 13, 3) := by decide +kernel
theorem dX8_holdView_52 : decode cX8_holdView 52 = .ok (.aload_n 0, 1) := by decide +kernel
theorem dX8_holdView_53 : decode cX8_holdView 53 = .ok (.dup, 1) := by decide +kernel
theorem dX8_holdView_54 : decode cX8_holdView 54 = .ok (.getfield 43, 3) := by decide +kernel
theorem dX8_holdView_57 : decode cX8_holdView 57 = .ok (.iconst 1, 1) := by decide +kernel
theorem dX8_holdView_58 : decode cX8_holdView 58 = .ok (.iadd, 1) := by decide +kernel
theorem dX8_holdView_59 : decode cX8_holdView 59 = .ok (.putfield 43, 3) := by decide +kernel
theorem dX8_holdView_62 : decode cX8_holdView 62 = .ok (.iinc 3 1, 3) := by decide +kernel
theorem dX8_holdView_65 : decode cX8_holdView 65 = .ok (.goto (-42), 3) := by decide +kernel
theorem dX8_holdView_68 : decode cX8_holdView 68 = .ok (.return_, 1) := by decide +kernel
theorem dX8_isRow_0 : decode cX8_isRow 0 = .ok (.aload_n 0, 1) := by decide +kernel
theorem dX8_isRow_1 : decode cX8_isRow 1 = .ok (.getfield 19, 3) := by decide +kernel
theorem dX8_isRow_4 : decode cX8_isRow 4 = .ok (.iconst 1, 1) := by decide +kernel
theorem dX8_isRow_5 : decode cX8_isRow 5 = .ok (.if_icmp .lt 15, 3) := by decide +kernel
theorem dX8_isRow_8 : decode cX8_isRow 8 = .ok (.aload_n 0, 1) := by decide +kernel
theorem dX8_isRow_9 : decode cX8_isRow 9 = .ok (.getfield 19, 3) := by decide +kernel
theorem dX8_isRow_12 : decode cX8_isRow 12 = .ok (.iconst 4, 1) := by decide +kernel
theorem dX8_isRow_13 : decode cX8_isRow 13 = .ok (.if_icmp .gt 7, 3) := by decide +kernel
theorem dX8_isRow_16 : decode cX8_isRow 16 = .ok (.iconst 1, 1) := by decide +kernel
theorem dX8_isRow_17 : decode cX8_isRow 17 = .ok (.goto 4, 3) := by decide +kernel
theorem dX8_isRow_20 : decode cX8_isRow 20 = .ok (.iconst 0, 1) := by decide +kernel
theorem dX8_isRow_21 : decode cX8_isRow 21 = .ok (.ireturn, 1) := by decide +kernel
theorem dX8_hasPlace_0 : decode cX8_hasPlace 0 = .ok (.iload_n 1, 1) := by decide +kernel
theorem dX8_hasPlace_1 : decode cX8_hasPlace 1 = .ok (.ifCond .lt 15, 3) := by decide +kernel
theorem dX8_hasPlace_4 : decode cX8_hasPlace 4 = .ok (.iload_n 1, 1) := by decide +kernel
theorem dX8_hasPlace_5 : decode cX8_hasPlace 5 = .ok (.aload_n 0, 1) := by decide +kernel
theorem dX8_hasPlace_6 : decode cX8_hasPlace 6 = .ok (.getfield 23, 3) := by decide +kernel
theorem dX8_hasPlace_9 : decode cX8_hasPlace 9 = .ok (.if_icmp .ge 7, 3) := by decide +kernel
theorem dX8_hasPlace_12 : decode cX8_hasPlace 12 = .ok (.iconst 1, 1) := by decide +kernel
theorem dX8_hasPlace_13 : decode cX8_hasPlace 13 = .ok (.goto 4, 3) := by decide +kernel
theorem dX8_hasPlace_16 : decode cX8_hasPlace 16 = .ok (.iconst 0, 1) := by decide +kernel
theorem dX8_hasPlace_17 : decode cX8_hasPlace 17 = .ok (.ireturn, 1) := by decide +kernel
theorem dX8_hasPlaces_0 : decode cX8_hasPlaces 0 = .ok (.iload_n 1, 1) := by decide +kernel
theorem dX8_hasPlaces_1 : decode cX8_hasPlaces 1 = .ok (.ifCond .lt 29, 3) := by decide +kernel
theorem dX8_hasPlaces_4 : decode cX8_hasPlaces 4 = .ok (.iload_n 2, 1) := by decide +kernel
theorem dX8_hasPlaces_5 : decode cX8_hasPlaces 5 = .ok (.ifCond .lt 25, 3) := by decide +kernel
theorem dX8_hasPlaces_8 : decode cX8_hasPlaces 8 = .ok (.iload_n 1, 1) := by decide +kernel
theorem dX8_hasPlaces_9 : decode cX8_hasPlaces 9 = .ok (.aload_n 0, 1) := by decide +kernel
theorem dX8_hasPlaces_10 : decode cX8_hasPlaces 10 = .ok (.getfield 23, 3) := by decide +kernel
theorem dX8_hasPlaces_13 : decode cX8_hasPlaces 13 = .ok (.if_icmp .gt 17, 3) := by decide +kernel
theorem dX8_hasPlaces_16 : decode cX8_hasPlaces 16 = .ok (.iload_n 2, 1) := by decide +kernel
theorem dX8_hasPlaces_17 : decode cX8_hasPlaces 17 = .ok (.aload_n 0, 1) := by decide +kernel
theorem dX8_hasPlaces_18 : decode cX8_hasPlaces 18 = .ok (.getfield 23, 3) := by decide +kernel
theorem dX8_hasPlaces_21 : decode cX8_hasPlaces 21 = .ok (.iload_n 1, 1) := by decide +kernel
theorem dX8_hasPlaces_22 : decode cX8_hasPlaces 22 = .ok (.isub, 1) := by decide +kernel
theorem dX8_hasPlaces_23 : decode cX8_hasPlaces 23 = .ok (.if_icmp .gt 7, 3) := by decide +kernel
theorem dX8_hasPlaces_26 : decode cX8_hasPlaces 26 = .ok (.iconst 1, 1) := by decide +kernel
theorem dX8_hasPlaces_27 : decode cX8_hasPlaces 27 = .ok (.goto 4, 3) := by decide +kernel
theorem dX8_hasPlaces_30 : decode cX8_hasPlaces 30 = .ok (.iconst 0, 1) := by decide +kernel
theorem dX8_hasPlaces_31 : decode cX8_hasPlaces 31 = .ok (.ireturn, 1) := by decide +kernel
theorem dX8_narrowed_0 : decode cX8_narrowed 0 = .ok (.aload_n 0, 1) := by decide +kernel
theorem dX8_narrowed_1 : decode cX8_narrowed 1 = .ok (.getfield 19, 3) := by decide +kernel
theorem dX8_narrowed_4 : decode cX8_narrowed 4 = .ok (.tableswitch 42 1 3 #[28, 33, 38], 28) := by decide +kernel
theorem dX8_narrowed_32 : decode cX8_narrowed 32 = .ok (.lload_n 1, 1) := by decide +kernel
theorem dX8_narrowed_33 : decode cX8_narrowed 33 = .ok (.l2i, 1) := by decide +kernel
theorem dX8_narrowed_34 : decode cX8_narrowed 34 = .ok (.i2b, 1) := by decide +kernel
theorem dX8_narrowed_35 : decode cX8_narrowed 35 = .ok (.i2l, 1) := by decide +kernel
theorem dX8_narrowed_36 : decode cX8_narrowed 36 = .ok (.lreturn, 1) := by decide +kernel
theorem dX8_narrowed_37 : decode cX8_narrowed 37 = .ok (.lload_n 1, 1) := by decide +kernel
theorem dX8_narrowed_38 : decode cX8_narrowed 38 = .ok (.l2i, 1) := by decide +kernel
theorem dX8_narrowed_39 : decode cX8_narrowed 39 = .ok (.i2s, 1) := by decide +kernel
theorem dX8_narrowed_40 : decode cX8_narrowed 40 = .ok (.i2l, 1) := by decide +kernel
theorem dX8_narrowed_41 : decode cX8_narrowed 41 = .ok (.lreturn, 1) := by decide +kernel
theorem dX8_narrowed_42 : decode cX8_narrowed 42 = .ok (.lload_n 1, 1) := by decide +kernel
theorem dX8_narrowed_43 : decode cX8_narrowed 43 = .ok (.l2i, 1) := by decide +kernel
theorem dX8_narrowed_44 : decode cX8_narrowed 44 = .ok (.i2l, 1) := by decide +kernel
theorem dX8_narrowed_45 : decode cX8_narrowed 45 = .ok (.lreturn, 1) := by decide +kernel
theorem dX8_narrowed_46 : decode cX8_narrowed 46 = .ok (.lload_n 1, 1) := by decide +kernel
theorem dX8_narrowed_47 : decode cX8_narrowed 47 = .ok (.lreturn, 1) := by decide +kernel
theorem dX8_throwFailure_0 : decode cX8_throwFailure 0 = .ok (.aload_n 0, 1) := by decide +kernel
theorem dX8_throwFailure_1 : decode cX8_throwFailure 1 = .ok (.getfield 43, 3) := by decide +kernel
theorem dX8_throwFailure_4 : decode cX8_throwFailure 4 = .ok (.ifCond .le 13, 3) := by decide +kernel
theorem dX8_throwFailure_7 : decode cX8_throwFailure 7 = .ok (.new 50, 3) := by decide +kernel
theorem dX8_throwFailure_10 : decode cX8_throwFailure 10 = .ok (.dup, 1) := by decide +kernel
theorem dX8_throwFailure_11 : decode cX8_throwFailure 11 = .ok (.ldc 52, 2) := by decide +kernel
theorem dX8_throwFailure_13 : decode cX8_throwFailure 13 = .ok (.invokespecial 54, 3) := by decide +kernel
theorem dX8_throwFailure_16 : decode cX8_throwFailure 16 = .ok (.athrow, 1) := by decide +kernel
theorem dX8_throwFailure_17 : decode cX8_throwFailure 17 = .ok (.return_, 1) := by decide +kernel
theorem dX9_init_0 : decode cX9_init 0 = .ok (.aload_n 0, 1) := by decide +kernel
theorem dX9_init_1 : decode cX9_init 1 = .ok (.invokespecial 1, 3) := by decide +kernel
theorem dX9_init_4 : decode cX9_init 4 = .ok (.aload_n 0, 1) := by decide +kernel
theorem dX9_init_5 : decode cX9_init 5 = .ok (.new 7, 3) := by decide +kernel
theorem dX9_init_8 : decode cX9_init 8 = .ok (.dup, 1) := by decide +kernel
theorem dX9_init_9 : decode cX9_init 9 = .ok (.invokespecial 9, 3) := by decide +kernel
theorem dX9_init_12 : decode cX9_init 12 = .ok (.putfield 10, 3) := by decide +kernel
theorem dX9_init_15 : decode cX9_init 15 = .ok (.aload_n 0, 1) := by decide +kernel
theorem dX9_init_16 : decode cX9_init 16 = .ok (.new 16, 3) := by decide +kernel
theorem dX9_init_19 : decode cX9_init 19 = .ok (.dup, 1) := by decide +kernel
theorem dX9_init_20 : decode cX9_init 20 = .ok (.aload_n 0, 1) := by decide +kernel
theorem dX9_init_21 : decode cX9_init 21 = .ok (.getfield 10, 3) := by decide +kernel
theorem dX9_init_24 : decode cX9_init 24 = .ok (.invokespecial 18, 3) := by decide +kernel
theorem dX9_init_27 : decode cX9_init 27 = .ok (.putfield 21, 3) := by decide +kernel
theorem dX9_init_30 : decode cX9_init 30 = .ok (.aload_n 0, 1) := by decide +kernel
theorem dX9_init_31 : decode cX9_init 31 = .ok (.new 25, 3) := by decide +kernel
theorem dX9_init_34 : decode cX9_init 34 = .ok (.dup, 1) := by decide +kernel
theorem dX9_init_35 : decode cX9_init 35 = .ok (.bipush 16, 2) := by decide +kernel
theorem dX9_init_37 : decode cX9_init 37 = .ok (.aload_n 0, 1) := by decide +kernel
theorem dX9_init_38 : decode cX9_init 38 = .ok (.getfield 10, 3) := by decide +kernel
theorem dX9_init_41 : decode cX9_init 41 = .ok (.invokespecial 27, 3) := by decide +kernel
theorem dX9_init_44 : decode cX9_init 44 = .ok (.putfield 30, 3) := by decide +kernel
theorem dX9_init_47 : decode cX9_init 47 = .ok (.aload_n 0, 1) := by decide +kernel
theorem dX9_init_48 : decode cX9_init 48 = .ok (.new 25, 3) := by decide +kernel
theorem dX9_init_51 : decode cX9_init 51 = .ok (.dup, 1) := by decide +kernel
theorem dX9_init_52 : decode cX9_init 52 = .ok (.iconst 1, 1) := by decide +kernel
theorem dX9_init_53 : decode cX9_init 53 = .ok (.aload_n 0, 1) := by decide +kernel
theorem dX9_init_54 : decode cX9_init 54 = .ok (.getfield 10, 3) := by decide +kernel
theorem dX9_init_57 : decode cX9_init 57 = .ok (.invokespecial 27, 3) := by decide +kernel
theorem dX9_init_60 : decode cX9_init 60 = .ok (.putfield 34, 3) := by decide +kernel
theorem dX9_init_63 : decode cX9_init 63 = .ok (.aload_n 0, 1) := by decide +kernel
theorem dX9_init_64 : decode cX9_init 64 = .ok (.new 37, 3) := by decide +kernel
theorem dX9_init_67 : decode cX9_init 67 = .ok (.dup, 1) := by decide +kernel
theorem dX9_init_68 : decode cX9_init 68 = .ok (.invokespecial 39, 3) := by decide +kernel
theorem dX9_init_71 : decode cX9_init 71 = .ok (.putfield 40, 3) := by decide +kernel
theorem dX9_init_74 : decode cX9_init 74 = .ok (.aload_n 0, 1) := by decide +kernel
theorem dX9_init_75 : decode cX9_init 75 = .ok (.new 44, 3) := by decide +kernel
theorem dX9_init_78 : decode cX9_init 78 = .ok (.dup, 1) := by decide +kernel
theorem dX9_init_79 : decode cX9_init 79 = .ok (.invokespecial 46, 3) := by decide +kernel
theorem dX9_init_82 : decode cX9_init 82 = .ok (.putfield 47, 3) := by decide +kernel
theorem dX9_init_85 : decode cX9_init 85 = .ok (.aload_n 0, 1) := by decide +kernel
theorem dX9_init_86 : decode cX9_init 86 = .ok (.iconst 4, 1) := by decide +kernel
theorem dX9_init_87 : decode cX9_init 87 = .ok (.anewarray 51, 3) := by decide +kernel
theorem dX9_init_90 : decode cX9_init 90 = .ok (.putfield 53, 3) := by decide +kernel
theorem dX9_init_93 : decode cX9_init 93 = .ok (.iconst 0, 1) := by decide +kernel
theorem dX9_init_94 : decode cX9_init 94 = .ok (.istore_n 1, 1) := by decide +kernel
theorem dX9_init_95 : decode cX9_init 95 = .ok (.iload_n 1, 1) := by decide +kernel
theorem dX9_init_96 : decode cX9_init 96 = .ok (.iconst 4, 1) := by decide +kernel
theorem dX9_init_97 : decode cX9_init 97 = .ok (.if_icmp .ge 22, 3) := by decide +kernel
theorem dX9_init_100 : decode cX9_init 100 = .ok (.aload_n 0, 1) := by decide +kernel
theorem dX9_init_101 : decode cX9_init 101 = .ok (.getfield 53, 3) := by decide +kernel
theorem dX9_init_104 : decode cX9_init 104 = .ok (.iload_n 1, 1) := by decide +kernel
theorem dX9_init_105 : decode cX9_init 105 = .ok (.new 51, 3) := by decide +kernel
theorem dX9_init_108 : decode cX9_init 108 = .ok (.dup, 1) := by decide +kernel
theorem dX9_init_109 : decode cX9_init 109 = .ok (.invokespecial 57, 3) := by decide +kernel
theorem dX9_init_112 : decode cX9_init 112 = .ok (.aastore, 1) := by decide +kernel
theorem dX9_init_113 : decode cX9_init 113 = .ok (.iinc 1 1, 3) := by decide +kernel
theorem dX9_init_116 : decode cX9_init 116 = .ok (.goto (-21), 3) := by decide +kernel
theorem dX9_init_119 : decode cX9_init 119 = .ok (.aload_n 0, 1) := by decide +kernel
theorem dX9_init_120 : decode cX9_init 120 = .ok (.bipush 6, 2) := by decide +kernel
theorem dX9_init_122 : decode cX9_init 122 = .ok (.anewarray 58, 3) := by decide +kernel
theorem dX9_init_125 : decode cX9_init 125 = .ok (.putfield 60, 3) := by decide +kernel
theorem dX9_init_128 : decode cX9_init 128 = .ok (.iconst 0, 1) := by decide +kernel
theorem dX9_init_129 : decode cX9_init 129 = .ok (.istore_n 1, 1) := by decide +kernel
theorem dX9_init_130 : decode cX9_init 130 = .ok (.iload_n 1, 1) := by decide +kernel
theorem dX9_init_131 : decode cX9_init 131 = .ok (.bipush 6, 2) := by decide +kernel
theorem dX9_init_133 : decode cX9_init 133 = .ok (.if_icmp .ge 22, 3) := by decide +kernel
theorem dX9_init_136 : decode cX9_init 136 = .ok (.aload_n 0, 1) := by decide +kernel
theorem dX9_init_137 : decode cX9_init 137 = .ok (.getfield 60, 3) := by decide +kernel
theorem dX9_init_140 : decode cX9_init 140 = .ok (.iload_n 1, 1) := by decide +kernel
theorem dX9_init_141 : decode cX9_init 141 = .ok (.new 58, 3) := by decide +kernel
theorem dX9_init_144 : decode cX9_init 144 = .ok (.dup, 1) := by decide +kernel
theorem dX9_init_145 : decode cX9_init 145 = .ok (.invokespecial 64, 3) := by decide +kernel
theorem dX9_init_148 : decode cX9_init 148 = .ok (.aastore, 1) := by decide +kernel
theorem dX9_init_149 : decode cX9_init 149 = .ok (.iinc 1 1, 3) := by decide +kernel
theorem dX9_init_152 : decode cX9_init 152 = .ok (.goto (-22), 3) := by decide +kernel
theorem dX9_init_155 : decode cX9_init 155 = .ok (.aload_n 0, 1) := by decide +kernel
theorem dX9_init_156 : decode cX9_init 156 = .ok (.iconst 4, 1) := by decide +kernel
theorem dX9_init_157 : decode cX9_init 157 = .ok (.newarray .int, 2) := by decide +kernel
theorem dX9_init_159 : decode cX9_init 159 = .ok (.putfield 65, 3) := by decide +kernel
theorem dX9_init_162 : decode cX9_init 162 = .ok (.aload_n 0, 1) := by decide +kernel
theorem dX9_init_163 : decode cX9_init 163 = .ok (.bipush 7, 2) := by decide +kernel
theorem dX9_init_165 : decode cX9_init 165 = .ok (.bipush 7, 2) := by decide +kernel
theorem dX9_init_167 : decode cX9_init 167 = .ok (.iconst 2, 1) := by decide +kernel
theorem dX9_init_168 : decode cX9_init 168 = .ok (.invokevirtual 69, 3) := by decide +kernel
theorem dX9_init_171 : decode cX9_init 171 = .ok (.return_, 1) := by decide +kernel
theorem dX9_begin_0 : decode cX9_begin 0 = .ok (.iload_n 1, 1) := by decide +kernel
theorem dX9_begin_1 : decode cX9_begin 1 = .ok (.iconst 3, 1) := by decide +kernel
theorem dX9_begin_2 : decode cX9_begin 2 = .ok (.if_icmp .lt 30, 3) := by decide +kernel
theorem dX9_begin_5 : decode cX9_begin 5 = .ok (.iload_n 1, 1) := by decide +kernel
theorem dX9_begin_6 : decode cX9_begin 6 = .ok (.bipush 10, 2) := by decide +kernel
theorem dX9_begin_8 : decode cX9_begin 8 = .ok (.if_icmp .gt 24, 3) := by decide +kernel
theorem dX9_begin_11 : decode cX9_begin 11 = .ok (.iload_n 2, 1) := by decide +kernel
theorem dX9_begin_12 : decode cX9_begin 12 = .ok (.iconst 3, 1) := by decide +kernel
theorem dX9_begin_13 : decode cX9_begin 13 = .ok (.if_icmp .lt 19, 3) := by decide +kernel
theorem dX9_begin_16 : decode cX9_begin 16 = .ok (.iload_n 2, 1) := by decide +kernel
theorem dX9_begin_17 : decode cX9_begin 17 = .ok (.bipush 10, 2) := by decide +kernel
theorem dX9_begin_19 : decode cX9_begin 19 = .ok (.if_icmp .gt 13, 3) := by decide +kernel
theorem dX9_begin_22 : decode cX9_begin 22 = .ok (.iload_n 3, 1) := by decide +kernel
theorem dX9_begin_23 : decode cX9_begin 23 = .ok (.iconst 1, 1) := by decide +kernel
theorem dX9_begin_24 : decode cX9_begin 24 = .ok (.if_icmp .lt 8, 3) := by decide +kernel
theorem dX9_begin_27 : decode cX9_begin 27 = .ok (.iload_n 3, 1) := by decide +kernel
theorem dX9_begin_28 : decode cX9_begin 28 = .ok (.iconst 4, 1) := by decide +kernel
theorem dX9_begin_29 : decode cX9_begin 29 = .ok (.if_icmp .le 5, 3) := by decide +kernel
theorem dX9_begin_32 : decode cX9_begin 32 = .ok (.iconst (-1), 1) := by decide +kernel
theorem dX9_begin_33 : decode cX9_begin 33 = .ok (.ireturn, 1) := by decide +kernel
theorem dX9_begin_34 : decode cX9_begin 34 = .ok (.aload_n 0, 1) := by decide +kernel
theorem dX9_begin_35 : decode cX9_begin 35 = .ok (.iload_n 1, 1) := by decide +kernel
theorem dX9_begin_36 : decode cX9_begin 36 = .ok (.iload_n 2, 1) := by decide +kernel
theorem dX9_begin_37 : decode cX9_begin 37 = .ok (.iload_n 3, 1) := by decide +kernel
theorem dX9_begin_38 : decode cX9_begin 38 = .ok (.invokevirtual 69, 3) := by decide +kernel
theorem dX9_begin_41 : decode cX9_begin 41 = .ok (.aload_n 0, 1) := by decide +kernel
theorem dX9_begin_42 : decode cX9_begin 42 = .ok (.getfield 10, 3) := by decide +kernel
theorem dX9_begin_45 : decode cX9_begin 45 = .ok (.getfield 73, 3) := by decide +kernel
theorem dX9_begin_48 : decode cX9_begin 48 = .ok (.ireturn, 1) := by decide +kernel
theorem dX9_startAnew_0 : decode cX9_startAnew 0 = .ok (.aload_n 0, 1) := by decide +kernel
theorem dX9_startAnew_1 : decode cX9_startAnew 1 = .ok (.getfield 10, 3) := by decide +kernel
theorem dX9_startAnew_4 : decode cX9_startAnew 4 = .ok (.iload_n 1, 1) := by decide +kernel
theorem dX9_startAnew_5 : decode cX9_startAnew 5 = .ok (.iload_n 2, 1) := by decide +kernel
theorem dX9_startAnew_6 : decode cX9_startAnew 6 = .ok (.iload_n 3, 1) := by decide +kernel
theorem dX9_startAnew_7 : decode cX9_startAnew 7 = .ok (.invokevirtual 77, 3) := by decide +kernel
theorem dX9_startAnew_10 : decode cX9_startAnew 10 = .ok (.aload_n 0, 1) := by decide +kernel
theorem dX9_startAnew_11 : decode cX9_startAnew 11 = .ok (.getfield 21, 3) := by decide +kernel
theorem dX9_startAnew_14 : decode cX9_startAnew 14 = .ok (.invokevirtual 80, 3) := by decide +kernel
theorem dX9_startAnew_17 : decode cX9_startAnew 17 = .ok (.aload_n 0, 1) := by decide +kernel
theorem dX9_startAnew_18 : decode cX9_startAnew 18 = .ok (.getfield 30, 3) := by decide +kernel
theorem dX9_startAnew_21 : decode cX9_startAnew 21 = .ok (.aload_n 0, 1) := by decide +kernel
theorem dX9_startAnew_22 : decode cX9_startAnew 22 = .ok (.getfield 21, 3) := by decide +kernel
theorem dX9_startAnew_25 : decode cX9_startAnew 25 = .ok (.invokevirtual 83, 3) := by decide +kernel
theorem dX9_startAnew_28 : decode cX9_startAnew 28 = .ok (.aload_n 0, 1) := by decide +kernel
theorem dX9_startAnew_29 : decode cX9_startAnew 29 = .ok (.getfield 40, 3) := by decide +kernel
theorem dX9_startAnew_32 : decode cX9_startAnew 32 = .ok (.invokevirtual 87, 3) := by decide +kernel
theorem dX9_startAnew_35 : decode cX9_startAnew 35 = .ok (.aload_n 0, 1) := by decide +kernel
theorem dX9_startAnew_36 : decode cX9_startAnew 36 = .ok (.getfield 47, 3) := by decide +kernel
theorem dX9_startAnew_39 : decode cX9_startAnew 39 = .ok (.invokevirtual 90, 3) := by decide +kernel
theorem dX9_startAnew_42 : decode cX9_startAnew 42 = .ok (.iconst 0, 1) := by decide +kernel
theorem dX9_startAnew_43 : decode cX9_startAnew 43 = .ok (.istore 4, 2) := by decide +kernel
theorem dX9_startAnew_45 : decode cX9_startAnew 45 = .ok (.iload 4, 2) := by decide +kernel
theorem dX9_startAnew_47 : decode cX9_startAnew 47 = .ok (.iconst 4, 1) := by decide +kernel
theorem dX9_startAnew_48 : decode cX9_startAnew 48 = .ok (.if_icmp .ge 19, 3) := by decide +kernel
theorem dX9_startAnew_51 : decode cX9_startAnew 51 = .ok (.aload_n 0, 1) := by decide +kernel
theorem dX9_startAnew_52 : decode cX9_startAnew 52 = .ok (.getfield 53, 3) := by decide +kernel
theorem dX9_startAnew_55 : decode cX9_startAnew 55 = .ok (.iload 4, 2) := by decide +kernel
theorem dX9_startAnew_57 : decode cX9_startAnew 57 = .ok (.aaload, 1) := by decide +kernel
theorem dX9_startAnew_58 : decode cX9_startAnew 58 = .ok (.invokevirtual 91, 3) := by decide +kernel
theorem dX9_startAnew_61 : decode cX9_startAnew 61 = .ok (.iinc 4 1, 3) := by decide +kernel
theorem dX9_startAnew_64 : decode cX9_startAnew 64 = .ok (.goto (-19), 3) := by decide +kernel
theorem dX9_startAnew_67 : decode cX9_startAnew 67 = .ok (.aload_n 0, 1) := by decide +kernel
theorem dX9_startAnew_68 : decode cX9_startAnew 68 = .ok (.getfield 65, 3) := by decide +kernel
theorem dX9_startAnew_71 : decode cX9_startAnew 71 = .ok (.iconst 0, 1) := by decide +kernel
theorem dX9_startAnew_72 : decode cX9_startAnew 72 = .ok (.invokestatic 92, 3) := by decide +kernel
theorem dX9_startAnew_75 : decode cX9_startAnew 75 = .ok (.aload_n 0, 1) := by decide +kernel
theorem dX9_startAnew_76 : decode cX9_startAnew 76 = .ok (.iconst 0, 1) := by decide +kernel
theorem dX9_startAnew_77 : decode cX9_startAnew 77 = .ok (.putfield 98, 3) := by decide +kernel
theorem dX9_startAnew_80 : decode cX9_startAnew 80 = .ok (.aload_n 0, 1) := by decide +kernel
theorem dX9_startAnew_81 : decode cX9_startAnew 81 = .ok (.iconst 4, 1) := by decide +kernel
theorem dX9_startAnew_82 : decode cX9_startAnew 82 = .ok (.putfield 101, 3) := by decide +kernel
theorem dX9_startAnew_85 : decode cX9_startAnew 85 = .ok (.aload_n 0, 1) := by decide +kernel
theorem dX9_startAnew_86 : decode cX9_startAnew 86 = .ok (.sipush 1048, 3) := by decide +kernel
theorem dX9_startAnew_89 : decode cX9_startAnew 89 = .ok (.putfield 104, 3) := by decide +kernel
theorem dX9_startAnew_92 : decode cX9_startAnew 92 = .ok (.aload_n 0, 1) := by decide +kernel
theorem dX9_startAnew_93 : decode cX9_startAnew 93 = .ok (.iconst 0, 1) := by decide +kernel
theorem dX9_startAnew_94 : decode cX9_startAnew 94 = .ok (.putfield 107, 3) := by decide +kernel
theorem dX9_startAnew_97 : decode cX9_startAnew 97 = .ok (.aload_n 0, 1) := by decide +kernel
theorem dX9_startAnew_98 : decode cX9_startAnew 98 = .ok (.iconst 0, 1) := by decide +kernel
theorem dX9_startAnew_99 : decode cX9_startAnew 99 = .ok (.putfield 110, 3) := by decide +kernel
theorem dX9_startAnew_102 : decode cX9_startAnew 102 = .ok (.aload_n 0, 1) := by decide +kernel
theorem dX9_startAnew_103 : decode cX9_startAnew 103 = .ok (.iconst 0, 1) := by decide +kernel
theorem dX9_startAnew_104 : decode cX9_startAnew 104 = .ok (.putfield 113, 3) := by decide +kernel
theorem dX9_startAnew_107 : decode cX9_startAnew 107 = .ok (.return_, 1) := by decide +kernel
theorem dX9_hasStarted_0 : decode cX9_hasStarted 0 = .ok (.aload_n 0, 1) := by decide +kernel
theorem dX9_hasStarted_1 : decode cX9_hasStarted 1 = .ok (.getfield 98, 3) := by decide +kernel
theorem dX9_hasStarted_4 : decode cX9_hasStarted 4 = .ok (.ifCond .gt 10, 3) := by decide +kernel
theorem dX9_hasStarted_7 : decode cX9_hasStarted 7 = .ok (.aload_n 0, 1) := by decide +kernel
theorem dX9_hasStarted_8 : decode cX9_hasStarted 8 = .ok (.getfield 107, 3) := by decide +kernel
theorem dX9_hasStarted_11 : decode cX9_hasStarted 11 = .ok (.ifCond .le 7, 3) := by decide +kernel
theorem dX9_hasStarted_14 : decode cX9_hasStarted 14 = .ok (.iconst 1, 1) := by decide +kernel
theorem dX9_hasStarted_15 : decode cX9_hasStarted 15 = .ok (.goto 4, 3) := by decide +kernel
theorem dX9_hasStarted_18 : decode cX9_hasStarted 18 = .ok (.iconst 0, 1) := by decide +kernel
theorem dX9_hasStarted_19 : decode cX9_hasStarted 19 = .ok (.ireturn, 1) := by decide +kernel
theorem dX9_wall_0 : decode cX9_wall 0 = .ok (.aload_n 0, 1) := by decide +kernel
theorem dX9_wall_1 : decode cX9_wall 1 = .ok (.getfield 10, 3) := by decide +kernel
theorem dX9_wall_4 : decode cX9_wall 4 = .ok (.iload_n 1, 1) := by decide +kernel
theorem dX9_wall_5 : decode cX9_wall 5 = .ok (.invokevirtual 116, 3) := by decide +kernel
theorem dX9_wall_8 : decode cX9_wall 8 = .ok (.ifCond .ne 5, 3) := by decide +kernel
theorem dX9_wall_11 : decode cX9_wall 11 = .ok (.iconst (-1), 1) := by decide +kernel
theorem dX9_wall_12 : decode cX9_wall 12 = .ok (.ireturn, 1) := by decide +kernel
theorem dX9_wall_13 : decode cX9_wall 13 = .ok (.aload_n 0, 1) := by decide +kernel
theorem dX9_wall_14 : decode cX9_wall 14 = .ok (.invokevirtual 120, 3) := by decide +kernel
theorem dX9_wall_17 : decode cX9_wall 17 = .ok (.ifCond .eq 6, 3) := by decide +kernel
theorem dX9_wall_20 : decode cX9_wall 20 = .ok (.bipush (-2), 2) := by decide +kernel
theorem dX9_wall_22 : decode cX9_wall 22 = .ok (.ireturn, 1) := by decide +kernel
theorem dX9_wall_23 : decode cX9_wall 23 = .ok (.aload_n 0, 1) := by decide +kernel
theorem dX9_wall_24 : decode cX9_wall 24 = .ok (.getfield 10, 3) := by decide +kernel
theorem dX9_wall_27 : decode cX9_wall 27 = .ok (.getfield 124, 3) := by decide +kernel
theorem dX9_wall_30 : decode cX9_wall 30 = .ok (.iload_n 1, 1) := by decide +kernel
theorem dX9_wall_31 : decode cX9_wall 31 = .ok (.iaload, 1) := by decide +kernel
theorem dX9_wall_32 : decode cX9_wall 32 = .ok (.istore_n 2, 1) := by decide +kernel
theorem dX9_wall_33 : decode cX9_wall 33 = .ok (.iload_n 2, 1) := by decide +kernel
theorem dX9_wall_34 : decode cX9_wall 34 = .ok (.ifCond .eq 8, 3) := by decide +kernel
theorem dX9_wall_37 : decode cX9_wall 37 = .ok (.iload_n 2, 1) := by decide +kernel
theorem dX9_wall_38 : decode cX9_wall 38 = .ok (.iconst 1, 1) := by decide +kernel
theorem dX9_wall_39 : decode cX9_wall 39 = .ok (.if_icmp .ne 14, 3) := by decide +kernel
theorem dX9_wall_42 : decode cX9_wall 42 = .ok (.aload_n 0, 1) := by decide +kernel
theorem dX9_wall_43 : decode cX9_wall 43 = .ok (.getfield 21, 3) := by decide +kernel
theorem dX9_wall_46 : decode cX9_wall 46 = .ok (.iload_n 1, 1) := by decide +kernel
theorem dX9_wall_47 : decode cX9_wall 47 = .ok (.invokevirtual 127, 3) := by decide +kernel
theorem dX9_wall_50 : decode cX9_wall 50 = .ok (.ifCond .eq 6, 3) := by decide +kernel
theorem dX9_wall_53 : decode cX9_wall 53 = .ok (.bipush (-3), 2) := by decide +kernel
theorem dX9_wall_55 : decode cX9_wall 55 = .ok (.ireturn, 1) := by decide +kernel
theorem dX9_wall_56 : decode cX9_wall 56 = .ok (.aload_n 0, 1) := by decide +kernel
theorem dX9_wall_57 : decode cX9_wall 57 = .ok (.getfield 10, 3) := by decide +kernel
theorem dX9_wall_60 : decode cX9_wall 60 = .ok (.getfield 124, 3) := by decide +kernel
theorem dX9_wall_63 : decode cX9_wall 63 = .ok (.iload_n 1, 1) := by decide +kernel
theorem dX9_wall_64 : decode cX9_wall 64 = .ok (.iload_n 2, 1) := by decide +kernel
theorem dX9_wall_65 : decode cX9_wall 65 = .ok (.ifCond .ne 7, 3) := by decide +kernel
theorem dX9_wall_68 : decode cX9_wall 68 = .ok (.iconst 1, 1) := by decide +kernel
theorem dX9_wall_69 : decode cX9_wall 69 = .ok (.goto 4, 3) := by decide +kernel
theorem dX9_wall_72 : decode cX9_wall 72 = .ok (.iconst 0, 1) := by decide +kernel
theorem dX9_wall_73 : decode cX9_wall 73 = .ok (.iastore, 1) := by decide +kernel
theorem dX9_wall_74 : decode cX9_wall 74 = .ok (.aload_n 0, 1) := by decide +kernel
theorem dX9_wall_75 : decode cX9_wall 75 = .ok (.getfield 10, 3) := by decide +kernel
theorem dX9_wall_78 : decode cX9_wall 78 = .ok (.getfield 124, 3) := by decide +kernel
theorem dX9_wall_81 : decode cX9_wall 81 = .ok (.iload_n 1, 1) := by decide +kernel
theorem dX9_wall_82 : decode cX9_wall 82 = .ok (.iaload, 1) := by decide +kernel
theorem dX9_wall_83 : decode cX9_wall 83 = .ok (.ireturn, 1) := by decide +kernel
theorem dX9_door_0 : decode cX9_door 0 = .ok (.aload_n 0, 1) := by decide +kernel
theorem dX9_door_1 : decode cX9_door 1 = .ok (.getfield 10, 3) := by decide +kernel
theorem dX9_door_4 : decode cX9_door 4 = .ok (.iload_n 1, 1) := by decide +kernel
theorem dX9_door_5 : decode cX9_door 5 = .ok (.invokevirtual 116, 3) := by decide +kernel
theorem dX9_door_8 : decode cX9_door 8 = .ok (.ifCond .eq 13, 3) := by decide +kernel
theorem dX9_door_11 : decode cX9_door 11 = .ok (.iload_n 2, 1) := by decide +kernel
theorem dX9_door_12 : decode cX9_door 12 = .ok (.ifCond .lt 9, 3) := by decide +kernel
theorem dX9_door_15 : decode cX9_door 15 = .ok (.iload_n 2, 1) := by decide +kernel
theorem dX9_door_16 : decode cX9_door 16 = .ok (.bipush 15, 2) := by decide +kernel
theorem dX9_door_18 : decode cX9_door 18 = .ok (.if_icmp .le 5, 3) := by decide +kernel
theorem dX9_door_21 : decode cX9_door 21 = .ok (.iconst (-1), 1) := by decide +kernel
theorem dX9_door_22 : decode cX9_door 22 = .ok (.ireturn, 1) := by decide +kernel
theorem dX9_door_23 : decode cX9_door 23 = .ok (.aload_n 0, 1) := by decide +kernel
theorem dX9_door_24 : decode cX9_door 24 = .ok (.invokevirtual 120, 3) := by decide +kernel
theorem dX9_door_27 : decode cX9_door 27 = .ok (.ifCond .eq 6, 3) := by decide +kernel
theorem dX9_door_30 : decode cX9_door 30 = .ok (.bipush (-2), 2) := by decide +kernel
theorem dX9_door_32 : decode cX9_door 32 = .ok (.ireturn, 1) := by decide +kernel
theorem dX9_door_33 : decode cX9_door 33 = .ok (.aload_n 0, 1) := by decide +kernel
theorem dX9_door_34 : decode cX9_door 34 = .ok (.getfield 10, 3) := by decide +kernel
theorem dX9_door_37 : decode cX9_door 37 = .ok (.getfield 124, 3) := by decide +kernel
theorem dX9_door_40 : decode cX9_door 40 = .ok (.iload_n 1, 1) := by decide +kernel
theorem dX9_door_41 : decode cX9_door 41 = .ok (.iaload, 1) := by decide +kernel
theorem dX9_door_42 : decode cX9_door 42 = .ok (.ifCond .ne 14, 3) := by decide +kernel
theorem dX9_door_45 : decode cX9_door 45 = .ok (.aload_n 0, 1) := by decide +kernel
theorem dX9_door_46 : decode cX9_door 46 = .ok (.getfield 21, 3) := by decide +kernel
theorem dX9_door_49 : decode cX9_door 49 = .ok (.iload_n 1, 1) := by decide +kernel
theorem dX9_door_50 : decode cX9_door 50 = .ok (.invokevirtual 127, 3) := by decide +kernel
theorem dX9_door_53 : decode cX9_door 53 = .ok (.ifCond .eq 6, 3) := by decide +kernel
theorem dX9_door_56 : decode cX9_door 56 = .ok (.bipush (-3), 2) := by decide +kernel
theorem dX9_door_58 : decode cX9_door 58 = .ok (.ireturn, 1) := by decide +kernel
theorem dX9_door_59 : decode cX9_door 59 = .ok (.aload_n 0, 1) := by decide +kernel
theorem dX9_door_60 : decode cX9_door 60 = .ok (.getfield 10, 3) := by decide +kernel
theorem dX9_door_63 : decode cX9_door 63 = .ok (.getfield 130, 3) := by decide +kernel
theorem dX9_door_66 : decode cX9_door 66 = .ok (.bipush 8, 2) := by decide +kernel
theorem dX9_door_68 : decode cX9_door 68 = .ok (.if_icmp .lt 6, 3) := by decide +kernel
theorem dX9_door_71 : decode cX9_door 71 = .ok (.bipush (-4), 2) := by decide +kernel
theorem dX9_door_73 : decode cX9_door 73 = .ok (.ireturn, 1) := by decide +kernel
theorem dX9_door_74 : decode cX9_door 74 = .ok (.aload_n 0, 1) := by decide +kernel
theorem dX9_door_75 : decode cX9_door 75 = .ok (.getfield 10, 3) := by decide +kernel
theorem dX9_door_78 : decode cX9_door 78 = .ok (.iload_n 1, 1) := by decide +kernel
theorem dX9_door_79 : decode cX9_door 79 = .ok (.iload_n 2, 1) := by decide +kernel
theorem dX9_door_80 : decode cX9_door 80 = .ok (.invokevirtual 133, 3) := by decide +kernel
theorem dX9_door_83 : decode cX9_door 83 = .ok (.ireturn, 1) := by decide +kernel
theorem dX9_plate_0 : decode cX9_plate 0 = .ok (.aload_n 0, 1) := by decide +kernel
theorem dX9_plate_1 : decode cX9_plate 1 = .ok (.getfield 10, 3) := by decide +kernel
theorem dX9_plate_4 : decode cX9_plate 4 = .ok (.iload_n 1, 1) := by decide +kernel
theorem dX9_plate_5 : decode cX9_plate 5 = .ok (.invokevirtual 116, 3) := by decide +kernel
theorem dX9_plate_8 : decode cX9_plate 8 = .ok (.ifCond .eq 14, 3) := by decide +kernel
theorem dX9_plate_11 : decode cX9_plate 11 = .ok (.aload_n 0, 1) := by decide +kernel
theorem dX9_plate_12 : decode cX9_plate 12 = .ok (.getfield 10, 3) := by decide +kernel
theorem dX9_plate_15 : decode cX9_plate 15 = .ok (.iload_n 2, 1) := by decide +kernel
theorem dX9_plate_16 : decode cX9_plate 16 = .ok (.invokevirtual 137, 3) := by decide +kernel
theorem dX9_plate_19 : decode cX9_plate 19 = .ok (.ifCond .ne 5, 3) := by decide +kernel
theorem dX9_plate_22 : decode cX9_plate 22 = .ok (.iconst (-1), 1) := by decide +kernel
theorem dX9_plate_23 : decode cX9_plate 23 = .ok (.ireturn, 1) := by decide +kernel
theorem dX9_plate_24 : decode cX9_plate 24 = .ok (.aload_n 0, 1) := by decide +kernel
theorem dX9_plate_25 : decode cX9_plate 25 = .ok (.invokevirtual 120, 3) := by decide +kernel
theorem dX9_plate_28 : decode cX9_plate 28 = .ok (.ifCond .eq 6, 3) := by decide +kernel
theorem dX9_plate_31 : decode cX9_plate 31 = .ok (.bipush (-2), 2) := by decide +kernel
theorem dX9_plate_33 : decode cX9_plate 33 = .ok (.ireturn, 1) := by decide +kernel
theorem dX9_plate_34 : decode cX9_plate 34 = .ok (.aload_n 0, 1) := by decide +kernel
theorem dX9_plate_35 : decode cX9_plate 35 = .ok (.getfield 10, 3) := by decide +kernel
theorem dX9_plate_38 : decode cX9_plate 38 = .ok (.getfield 124, 3) := by decide +kernel
theorem dX9_plate_41 : decode cX9_plate 41 = .ok (.iload_n 1, 1) := by decide +kernel
theorem dX9_plate_42 : decode cX9_plate 42 = .ok (.iaload, 1) := by decide +kernel
theorem dX9_plate_43 : decode cX9_plate 43 = .ok (.ifCond .eq 6, 3) := by decide +kernel
theorem dX9_plate_46 : decode cX9_plate 46 = .ok (.bipush (-3), 2) := by decide +kernel
theorem dX9_plate_48 : decode cX9_plate 48 = .ok (.ireturn, 1) := by decide +kernel
theorem dX9_plate_49 : decode cX9_plate 49 = .ok (.aload_n 0, 1) := by decide +kernel
theorem dX9_plate_50 : decode cX9_plate 50 = .ok (.getfield 10, 3) := by decide +kernel
theorem dX9_plate_53 : decode cX9_plate 53 = .ok (.getfield 124, 3) := by decide +kernel
theorem dX9_plate_56 : decode cX9_plate 56 = .ok (.iload_n 1, 1) := by decide +kernel
theorem dX9_plate_57 : decode cX9_plate 57 = .ok (.iconst 3, 1) := by decide +kernel
theorem dX9_plate_58 : decode cX9_plate 58 = .ok (.iastore, 1) := by decide +kernel
theorem dX9_plate_59 : decode cX9_plate 59 = .ok (.aload_n 0, 1) := by decide +kernel
theorem dX9_plate_60 : decode cX9_plate 60 = .ok (.getfield 10, 3) := by decide +kernel
theorem dX9_plate_63 : decode cX9_plate 63 = .ok (.getfield 140, 3) := by decide +kernel
theorem dX9_plate_66 : decode cX9_plate 66 = .ok (.iload_n 1, 1) := by decide +kernel
theorem dX9_plate_67 : decode cX9_plate 67 = .ok (.iload_n 2, 1) := by decide +kernel
theorem dX9_plate_68 : decode cX9_plate 68 = .ok (.iastore, 1) := by decide +kernel
theorem dX9_plate_69 : decode cX9_plate 69 = .ok (.aload_n 0, 1) := by decide +kernel
theorem dX9_plate_70 : decode cX9_plate 70 = .ok (.getfield 21, 3) := by decide +kernel
theorem dX9_plate_73 : decode cX9_plate 73 = .ok (.invokevirtual 143, 3) := by decide +kernel
theorem dX9_plate_76 : decode cX9_plate 76 = .ok (.aload_n 0, 1) := by decide +kernel
theorem dX9_plate_77 : decode cX9_plate 77 = .ok (.getfield 30, 3) := by decide +kernel
theorem dX9_plate_80 : decode cX9_plate 80 = .ok (.aload_n 0, 1) := by decide +kernel
theorem dX9_plate_81 : decode cX9_plate 81 = .ok (.getfield 21, 3) := by decide +kernel
theorem dX9_plate_84 : decode cX9_plate 84 = .ok (.invokevirtual 83, 3) := by decide +kernel
theorem dX9_plate_87 : decode cX9_plate 87 = .ok (.iconst 3, 1) := by decide +kernel
theorem dX9_plate_88 : decode cX9_plate 88 = .ok (.ireturn, 1) := by decide +kernel
theorem dX9_place_0 : decode cX9_place 0 = .ok (.iload_n 1, 1) := by decide +kernel
theorem dX9_place_1 : decode cX9_place 1 = .ok (.iconst 1, 1) := by decide +kernel
theorem dX9_place_2 : decode cX9_place 2 = .ok (.if_icmp .lt 20, 3) := by decide +kernel
theorem dX9_place_5 : decode cX9_place 5 = .ok (.iload_n 1, 1) := by decide +kernel
theorem dX9_place_6 : decode cX9_place 6 = .ok (.bipush 7, 2) := by decide +kernel
theorem dX9_place_8 : decode cX9_place 8 = .ok (.if_icmp .gt 14, 3) := by decide +kernel
theorem dX9_place_11 : decode cX9_place 11 = .ok (.aload_n 0, 1) := by decide +kernel
theorem dX9_place_12 : decode cX9_place 12 = .ok (.getfield 10, 3) := by decide +kernel
theorem dX9_place_15 : decode cX9_place 15 = .ok (.iload_n 2, 1) := by decide +kernel
theorem dX9_place_16 : decode cX9_place 16 = .ok (.invokevirtual 116, 3) := by decide +kernel
theorem dX9_place_19 : decode cX9_place 19 = .ok (.ifCond .ne 5, 3) := by decide +kernel
theorem dX9_place_22 : decode cX9_place 22 = .ok (.iconst (-1), 1) := by decide +kernel
theorem dX9_place_23 : decode cX9_place 23 = .ok (.ireturn, 1) := by decide +kernel
theorem dX9_place_24 : decode cX9_place 24 = .ok (.aload_n 0, 1) := by decide +kernel
theorem dX9_place_25 : decode cX9_place 25 = .ok (.invokevirtual 120, 3) := by decide +kernel
theorem dX9_place_28 : decode cX9_place 28 = .ok (.ifCond .eq 6, 3) := by decide +kernel
theorem dX9_place_31 : decode cX9_place 31 = .ok (.bipush (-2), 2) := by decide +kernel
theorem dX9_place_33 : decode cX9_place 33 = .ok (.ireturn, 1) := by decide +kernel
theorem dX9_place_34 : decode cX9_place 34 = .ok (.iload_n 1, 1) := by decide +kernel
theorem dX9_place_35 : decode cX9_place 35 = .ok (.iconst 1, 1) := by decide +kernel
theorem dX9_place_36 : decode cX9_place 36 = .ok (.if_icmp .eq 8, 3) := by decide +kernel
theorem dX9_place_39 : decode cX9_place 39 = .ok (.iload_n 1, 1) := by decide +kernel
theorem dX9_place_40 : decode cX9_place 40 = .ok (.iconst 2, 1) := by decide +kernel
theorem dX9_place_41 : decode cX9_place 41 = .ok (.if_icmp .ne 7, 3) := by decide +kernel
theorem dX9_place_44 : decode cX9_place 44 = .ok (.iconst 1, 1) := by decide +kernel
theorem dX9_place_45 : decode cX9_place 45 = .ok (.goto 4, 3) := by decide +kernel
theorem dX9_place_48 : decode cX9_place 48 = .ok (.iconst 0, 1) := by decide +kernel
theorem dX9_place_49 : decode cX9_place 49 = .ok (.istore_n 3, 1) := by decide +kernel
theorem dX9_place_50 : decode cX9_place 50 = .ok (.aload_n 0, 1) := by decide +kernel
theorem dX9_place_51 : decode cX9_place 51 = .ok (.getfield 10, 3) := by decide +kernel
theorem dX9_place_54 : decode cX9_place 54 = .ok (.getfield 124, 3) := by decide +kernel
theorem dX9_place_57 : decode cX9_place 57 = .ok (.iload_n 2, 1) := by decide +kernel
theorem dX9_place_58 : decode cX9_place 58 = .ok (.iaload, 1) := by decide +kernel
theorem dX9_place_59 : decode cX9_place 59 = .ok (.iconst 1, 1) := by decide +kernel
theorem dX9_place_60 : decode cX9_place 60 = .ok (.if_icmp .eq 31, 3) := by decide +kernel
theorem dX9_place_63 : decode cX9_place 63 = .ok (.aload_n 0, 1) := by decide +kernel
theorem dX9_place_64 : decode cX9_place 64 = .ok (.getfield 10, 3) := by decide +kernel
theorem dX9_place_67 : decode cX9_place 67 = .ok (.getfield 124, 3) := by decide +kernel
theorem dX9_place_70 : decode cX9_place 70 = .ok (.iload_n 2, 1) := by decide +kernel
theorem dX9_place_71 : decode cX9_place 71 = .ok (.iaload, 1) := by decide +kernel
theorem dX9_place_72 : decode cX9_place 72 = .ok (.iconst 2, 1) := by decide +kernel
theorem dX9_place_73 : decode cX9_place 73 = .ok (.if_icmp .eq 18, 3) := by decide +kernel
theorem dX9_place_76 : decode cX9_place 76 = .ok (.iload_n 3, 1) := by decide +kernel
theorem dX9_place_77 : decode cX9_place 77 = .ok (.ifCond .eq 17, 3) := by decide +kernel
theorem dX9_place_80 : decode cX9_place 80 = .ok (.aload_n 0, 1) := by decide +kernel
theorem dX9_place_81 : decode cX9_place 81 = .ok (.getfield 21, 3) := by decide +kernel
theorem dX9_place_84 : decode cX9_place 84 = .ok (.iload_n 2, 1) := by decide +kernel
theorem dX9_place_85 : decode cX9_place 85 = .ok (.invokevirtual 146, 3) := by decide +kernel
theorem dX9_place_88 : decode cX9_place 88 = .ok (.ifCond .lt 6, 3) := by decide +kernel
theorem dX9_place_91 : decode cX9_place 91 = .ok (.bipush (-3), 2) := by decide +kernel
theorem dX9_place_93 : decode cX9_place 93 = .ok (.ireturn, 1) := by decide +kernel
theorem dX9_place_94 : decode cX9_place 94 = .ok (.aload_n 0, 1) := by decide +kernel
theorem dX9_place_95 : decode cX9_place 95 = .ok (.getfield 10, 3) := by decide +kernel
theorem dX9_place_98 : decode cX9_place 98 = .ok (.getfield 150, 3) := by decide +kernel
theorem dX9_place_101 : decode cX9_place 101 = .ok (.bipush 16, 2) := by decide +kernel
theorem dX9_place_103 : decode cX9_place 103 = .ok (.if_icmp .lt 6, 3) := by decide +kernel
theorem dX9_place_106 : decode cX9_place 106 = .ok (.bipush (-4), 2) := by decide +kernel
theorem dX9_place_108 : decode cX9_place 108 = .ok (.ireturn, 1) := by decide +kernel
theorem dX9_place_109 : decode cX9_place 109 = .ok (.aload_n 0, 1) := by decide +kernel
theorem dX9_place_110 : decode cX9_place 110 = .ok (.getfield 10, 3) := by decide +kernel
theorem dX9_place_113 : decode cX9_place 113 = .ok (.iload_n 1, 1) := by decide +kernel
theorem dX9_place_114 : decode cX9_place 114 = .ok (.invokevirtual 153, 3) := by decide +kernel
theorem dX9_place_117 : decode cX9_place 117 = .ok (.istore 4, 2) := by decide +kernel
theorem dX9_place_119 : decode cX9_place 119 = .ok (.aload_n 0, 1) := by decide +kernel
theorem dX9_place_120 : decode cX9_place 120 = .ok (.getfield 21, 3) := by decide +kernel
theorem dX9_place_123 : decode cX9_place 123 = .ok (.iload 4, 2) := by decide +kernel
theorem dX9_place_125 : decode cX9_place 125 = .ok (.iload_n 1, 1) := by decide +kernel
theorem dX9_place_126 : decode cX9_place 126 = .ok (.iload_n 2, 1) := by decide +kernel
theorem dX9_place_127 : decode cX9_place 127 = .ok (.invokevirtual 156, 3) := by decide +kernel
theorem dX9_place_130 : decode cX9_place 130 = .ok (.aload_n 0, 1) := by decide +kernel
theorem dX9_place_131 : decode cX9_place 131 = .ok (.getfield 30, 3) := by decide +kernel
theorem dX9_place_134 : decode cX9_place 134 = .ok (.aload_n 0, 1) := by decide +kernel
theorem dX9_place_135 : decode cX9_place 135 = .ok (.getfield 21, 3) := by decide +kernel
theorem dX9_place_138 : decode cX9_place 138 = .ok (.invokevirtual 83, 3) := by decide +kernel
theorem dX9_place_141 : decode cX9_place 141 = .ok (.iload 4, 2) := by decide +kernel
theorem dX9_place_143 : decode cX9_place 143 = .ok (.ireturn, 1) := by decide +kernel
theorem dX9_late_0 : decode cX9_late 0 = .ok (.iload_n 1, 1) := by decide +kernel
theorem dX9_late_1 : decode cX9_late 1 = .ok (.ifCond .lt 9, 3) := by decide +kernel
theorem dX9_late_4 : decode cX9_late 4 = .ok (.iload_n 1, 1) := by decide +kernel
theorem dX9_late_5 : decode cX9_late 5 = .ok (.bipush 8, 2) := by decide +kernel
theorem dX9_late_7 : decode cX9_late 7 = .ok (.if_icmp .le 5, 3) := by decide +kernel
theorem dX9_late_10 : decode cX9_late 10 = .ok (.iconst (-1), 1) := by decide +kernel
theorem dX9_late_11 : decode cX9_late 11 = .ok (.ireturn, 1) := by decide +kernel
theorem dX9_late_12 : decode cX9_late 12 = .ok (.aload_n 0, 1) := by decide +kernel
theorem dX9_late_13 : decode cX9_late 13 = .ok (.invokevirtual 120, 3) := by decide +kernel
theorem dX9_late_16 : decode cX9_late 16 = .ok (.ifCond .eq 6, 3) := by decide +kernel
theorem dX9_late_19 : decode cX9_late 19 = .ok (.bipush (-2), 2) := by decide +kernel
theorem dX9_late_21 : decode cX9_late 21 = .ok (.ireturn, 1) := by decide +kernel
theorem dX9_late_22 : decode cX9_late 22 = .ok (.aload_n 0, 1) := by decide +kernel
theorem dX9_late_23 : decode cX9_late 23 = .ok (.getfield 101, 3) := by decide +kernel
theorem dX9_late_26 : decode cX9_late 26 = .ok (.istore_n 2, 1) := by decide +kernel
theorem dX9_late_27 : decode cX9_late 27 = .ok (.aload_n 0, 1) := by decide +kernel
theorem dX9_late_28 : decode cX9_late 28 = .ok (.iload_n 1, 1) := by decide +kernel
theorem dX9_late_29 : decode cX9_late 29 = .ok (.putfield 101, 3) := by decide +kernel
theorem dX9_late_32 : decode cX9_late 32 = .ok (.iload_n 2, 1) := by decide +kernel
theorem dX9_late_33 : decode cX9_late 33 = .ok (.ireturn, 1) := by decide +kernel
theorem dX9_risk_0 : decode cX9_risk 0 = .ok (.iload_n 1, 1) := by decide +kernel
theorem dX9_risk_1 : decode cX9_risk 1 = .ok (.ifCond .lt 9, 3) := by decide +kernel
theorem dX9_risk_4 : decode cX9_risk 4 = .ok (.iload_n 1, 1) := by decide +kernel
theorem dX9_risk_5 : decode cX9_risk 5 = .ok (.ldc 159, 2) := by decide +kernel
theorem dX9_risk_7 : decode cX9_risk 7 = .ok (.if_icmp .le 5, 3) := by decide +kernel
theorem dX9_risk_10 : decode cX9_risk 10 = .ok (.iconst (-1), 1) := by decide +kernel
theorem dX9_risk_11 : decode cX9_risk 11 = .ok (.ireturn, 1) := by decide +kernel
theorem dX9_risk_12 : decode cX9_risk 12 = .ok (.aload_n 0, 1) := by decide +kernel
theorem dX9_risk_13 : decode cX9_risk 13 = .ok (.getfield 104, 3) := by decide +kernel
theorem dX9_risk_16 : decode cX9_risk 16 = .ok (.istore_n 2, 1) := by decide +kernel
theorem dX9_risk_17 : decode cX9_risk 17 = .ok (.aload_n 0, 1) := by decide +kernel
theorem dX9_risk_18 : decode cX9_risk 18 = .ok (.iload_n 1, 1) := by decide +kernel
theorem dX9_risk_19 : decode cX9_risk 19 = .ok (.putfield 104, 3) := by decide +kernel
theorem dX9_risk_22 : decode cX9_risk 22 = .ok (.iload_n 2, 1) := by decide +kernel
theorem dX9_risk_23 : decode cX9_risk 23 = .ok (.ireturn, 1) := by decide +kernel
theorem dX9_pack_0 : decode cX9_pack 0 = .ok (.iload_n 1, 1) := by decide +kernel
theorem dX9_pack_1 : decode cX9_pack 1 = .ok (.bipush 15, 2) := by decide +kernel
theorem dX9_pack_3 : decode cX9_pack 3 = .ok (.iand, 1) := by decide +kernel
theorem dX9_pack_4 : decode cX9_pack 4 = .ok (.istore 6, 2) := by decide +kernel
theorem dX9_pack_6 : decode cX9_pack 6 = .ok (.iload_n 2, 1) := by decide +kernel
theorem dX9_pack_7 : decode cX9_pack 7 = .ok (.iconst 3, 1) := by decide +kernel
theorem dX9_pack_8 : decode cX9_pack 8 = .ok (.iand, 1) := by decide +kernel
theorem dX9_pack_9 : decode cX9_pack 9 = .ok (.istore 7, 2) := by decide +kernel
theorem dX9_pack_11 : decode cX9_pack 11 = .ok (.iload_n 3, 1) := by decide +kernel
theorem dX9_pack_12 : decode cX9_pack 12 = .ok (.bipush 15, 2) := by decide +kernel
theorem dX9_pack_14 : decode cX9_pack 14 = .ok (.iand, 1) := by decide +kernel
theorem dX9_pack_15 : decode cX9_pack 15 = .ok (.istore 8, 2) := by decide +kernel
theorem dX9_pack_17 : decode cX9_pack 17 = .ok (.iload 4, 2) := by decide +kernel
theorem dX9_pack_19 : decode cX9_pack 19 = .ok (.ldc 160, 2) := by decide +kernel
theorem dX9_pack_21 : decode cX9_pack 21 = .ok (.iand, 1) := by decide +kernel
theorem dX9_pack_22 : decode cX9_pack 22 = .ok (.istore 9, 2) := by decide +kernel
theorem dX9_pack_24 : decode cX9_pack 24 = .ok (.iload 5, 2) := by decide +kernel
theorem dX9_pack_26 : decode cX9_pack 26 = .ok (.sipush 255, 3) := by decide +kernel
theorem dX9_pack_29 : decode cX9_pack 29 = .ok (.iand, 1) := by decide +kernel
theorem dX9_pack_30 : decode cX9_pack 30 = .ok (.istore 10, 2) := by decide +kernel
theorem dX9_pack_32 : decode cX9_pack 32 = .ok (.iload 6, 2) := by decide +kernel
theorem dX9_pack_34 : decode cX9_pack 34 = .ok (.iload 7, 2) := by decide +kernel
theorem dX9_pack_36 : decode cX9_pack 36 = .ok (.iconst 4, 1) := by decide +kernel
theorem dX9_pack_37 : decode cX9_pack 37 = .ok (.ishl, 1) := by decide +kernel
theorem dX9_pack_38 : decode cX9_pack 38 = .ok (.ior, 1) := by decide +kernel
theorem dX9_pack_39 : decode cX9_pack 39 = .ok (.iload 8, 2) := by decide +kernel
theorem dX9_pack_41 : decode cX9_pack 41 = .ok (.bipush 6, 2) := by decide +kernel
theorem dX9_pack_43 : decode cX9_pack 43 = .ok (.ishl, 1) := by decide +kernel
theorem dX9_pack_44 : decode cX9_pack 44 = .ok (.ior, 1) := by decide +kernel
theorem dX9_pack_45 : decode cX9_pack 45 = .ok (.iload 9, 2) := by decide +kernel
theorem dX9_pack_47 : decode cX9_pack 47 = .ok (.bipush 10, 2) := by decide +kernel
theorem dX9_pack_49 : decode cX9_pack 49 = .ok (.ishl, 1) := by decide +kernel
theorem dX9_pack_50 : decode cX9_pack 50 = .ok (.ior, 1) := by decide +kernel
theorem dX9_pack_51 : decode cX9_pack 51 = .ok (.iload 10, 2) := by decide +kernel
theorem dX9_pack_53 : decode cX9_pack 53 = .ok (.iload 6, 2) := by decide +kernel
theorem dX9_pack_55 : decode cX9_pack 55 = .ok (.iload 7, 2) := by decide +kernel
theorem dX9_pack_57 : decode cX9_pack 57 = .ok (.iload 8, 2) := by decide +kernel
theorem dX9_pack_59 : decode cX9_pack 59 = .ok (.iload 9, 2) := by decide +kernel
theorem dX9_pack_61 : decode cX9_pack 61 = .ok (.iload 10, 2) := by decide +kernel
theorem dX9_pack_63 : decode cX9_pack 63 = .ok (.invokestatic 161, 3) := by decide +kernel
theorem dX9_pack_66 : decode cX9_pack 66 = .ok (.invokestatic 167, 3) := by decide +kernel
theorem dX9_pack_69 : decode cX9_pack 69 = .ok (.lreturn, 1) := by decide +kernel
theorem dX9_feed_0 : decode cX9_feed 0 = .ok (.aload_n 0, 1) := by decide +kernel
theorem dX9_feed_1 : decode cX9_feed 1 = .ok (.iload_n 1, 1) := by decide +kernel
theorem dX9_feed_2 : decode cX9_feed 2 = .ok (.lload_n 2, 1) := by decide +kernel
theorem dX9_feed_3 : decode cX9_feed 3 = .ok (.invokevirtual 171, 3) := by decide +kernel
theorem dX9_feed_6 : decode cX9_feed 6 = .ok (.ireturn, 1) := by decide +kernel
theorem dX9_receive_0 : decode cX9_receive 0 = .ok (.aload_n 0, 1) := by decide +kernel
theorem dX9_receive_1 : decode cX9_receive 1 = .ok (.iload_n 1, 1) := by decide +kernel
theorem dX9_receive_2 : decode cX9_receive 2 = .ok (.lload_n 2, 1) := by decide +kernel
theorem dX9_receive_3 : decode cX9_receive 3 = .ok (.invokevirtual 175, 3) := by decide +kernel
theorem dX9_receive_6 : decode cX9_receive 6 = .ok (.istore 4, 2) := by decide +kernel
theorem dX9_receive_8 : decode cX9_receive 8 = .ok (.iload 4, 2) := by decide +kernel
theorem dX9_receive_10 : decode cX9_receive 10 = .ok (.ifCond .ge 16, 3) := by decide +kernel
theorem dX9_receive_13 : decode cX9_receive 13 = .ok (.aload_n 0, 1) := by decide +kernel
theorem dX9_receive_14 : decode cX9_receive 14 = .ok (.dup, 1) := by decide +kernel
theorem dX9_receive_15 : decode cX9_receive 15 = .ok (.getfield 110, 3) := by decide +kernel
theorem dX9_receive_18 : decode cX9_receive 18 = .ok (.iconst 1, 1) := by decide +kernel
theorem dX9_receive_19 : decode cX9_receive 19 = .ok (.iadd, 1) := by decide +kernel
theorem dX9_receive_20 : decode cX9_receive 20 = .ok (.putfield 110, 3) := by decide +kernel
theorem dX9_receive_23 : decode cX9_receive 23 = .ok (.iload 4, 2) := by decide +kernel
theorem dX9_receive_25 : decode cX9_receive 25 = .ok (.ireturn, 1) := by decide +kernel
theorem dX9_receive_26 : decode cX9_receive 26 = .ok (.lload_n 2, 1) := by decide +kernel
theorem dX9_receive_27 : decode cX9_receive 27 = .ok (.invokestatic 178, 3) := by decide +kernel
theorem dX9_receive_30 : decode cX9_receive 30 = .ok (.istore 5, 2) := by decide +kernel
theorem dX9_receive_32 : decode cX9_receive 32 = .ok (.aload_n 0, 1) := by decide +kernel
theorem dX9_receive_33 : decode cX9_receive 33 = .ok (.getfield 40, 3) := by decide +kernel
theorem dX9_receive_36 : decode cX9_receive 36 = .ok (.iload 5, 2) := by decide +kernel
theorem dX9_receive_38 : decode cX9_receive 38 = .ok (.iload_n 1, 1) := by decide +kernel
theorem dX9_receive_39 : decode cX9_receive 39 = .ok (.lload_n 2, 1) := by decide +kernel
theorem dX9_receive_40 : decode cX9_receive 40 = .ok (.invokestatic 182, 3) := by decide +kernel
theorem dX9_receive_43 : decode cX9_receive 43 = .ok (.iload 5, 2) := by decide +kernel
theorem dX9_receive_45 : decode cX9_receive 45 = .ok (.aload_n 0, 1) := by decide +kernel
theorem dX9_receive_46 : decode cX9_receive 46 = .ok (.getfield 98, 3) := by decide +kernel
theorem dX9_receive_49 : decode cX9_receive 49 = .ok (.if_icmp .ge 7, 3) := by decide +kernel
theorem dX9_receive_52 : decode cX9_receive 52 = .ok (.iconst 1, 1) := by decide +kernel
theorem dX9_receive_53 : decode cX9_receive 53 = .ok (.goto 4, 3) := by decide +kernel
theorem dX9_receive_56 : decode cX9_receive 56 = .ok (.iconst 0, 1) := by decide +kernel
theorem dX9_receive_57 : decode cX9_receive 57 = .ok (.invokevirtual 185, 3) := by decide +kernel
theorem dX9_receive_60 : decode cX9_receive 60 = .ok (.aload_n 0, 1) := by decide +kernel
theorem dX9_receive_61 : decode cX9_receive 61 = .ok (.getfield 65, 3) := by decide +kernel
theorem dX9_receive_64 : decode cX9_receive 64 = .ok (.iload_n 1, 1) := by decide +kernel
theorem dX9_receive_65 : decode cX9_receive 65 = .ok (.aload_n 0, 1) := by decide +kernel
theorem dX9_receive_66 : decode cX9_receive 66 = .ok (.getfield 65, 3) := by decide +kernel
theorem dX9_receive_69 : decode cX9_receive 69 = .ok (.iload_n 1, 1) := by decide +kernel
theorem dX9_receive_70 : decode cX9_receive 70 = .ok (.iaload, 1) := by decide +kernel
theorem dX9_receive_71 : decode cX9_receive 71 = .ok (.iconst 1, 1) := by decide +kernel
theorem dX9_receive_72 : decode cX9_receive 72 = .ok (.iadd, 1) := by decide +kernel
theorem dX9_receive_73 : decode cX9_receive 73 = .ok (.sipush 255, 3) := by decide +kernel
theorem dX9_receive_76 : decode cX9_receive 76 = .ok (.iand, 1) := by decide +kernel
theorem dX9_receive_77 : decode cX9_receive 77 = .ok (.iastore, 1) := by decide +kernel
theorem dX9_receive_78 : decode cX9_receive 78 = .ok (.aload_n 0, 1) := by decide +kernel
theorem dX9_receive_79 : decode cX9_receive 79 = .ok (.dup, 1) := by decide +kernel
theorem dX9_receive_80 : decode cX9_receive 80 = .ok (.getfield 107, 3) := by decide +kernel
theorem dX9_receive_83 : decode cX9_receive 83 = .ok (.iconst 1, 1) := by decide +kernel
theorem dX9_receive_84 : decode cX9_receive 84 = .ok (.iadd, 1) := by decide +kernel
theorem dX9_receive_85 : decode cX9_receive 85 = .ok (.putfield 107, 3) := by decide +kernel
theorem dX9_receive_88 : decode cX9_receive 88 = .ok (.iload 5, 2) := by decide +kernel
theorem dX9_receive_90 : decode cX9_receive 90 = .ok (.aload_n 0, 1) := by decide +kernel
theorem dX9_receive_91 : decode cX9_receive 91 = .ok (.getfield 98, 3) := by decide +kernel
theorem dX9_receive_94 : decode cX9_receive 94 = .ok (.if_icmp .lt 5, 3) := by decide +kernel
theorem dX9_receive_97 : decode cX9_receive 97 = .ok (.iconst 0, 1) := by decide +kernel
theorem dX9_receive_98 : decode cX9_receive 98 = .ok (.ireturn, 1) := by decide +kernel
theorem dX9_receive_99 : decode cX9_receive 99 = .ok (.aload_n 0, 1) := by decide +kernel
theorem dX9_receive_100 : decode cX9_receive 100 = .ok (.getfield 47, 3) := by decide +kernel
theorem dX9_receive_103 : decode cX9_receive 103 = .ok (.aload_n 0, 1) := by decide +kernel
theorem dX9_receive_104 : decode cX9_receive 104 = .ok (.getfield 40, 3) := by decide +kernel
theorem dX9_receive_107 : decode cX9_receive 107 = .ok (.iload 5, 2) := by decide +kernel
theorem dX9_receive_109 : decode cX9_receive 109 = .ok (.aload_n 0, 1) := by decide +kernel
theorem dX9_receive_110 : decode cX9_receive 110 = .ok (.getfield 98, 3) := by decide +kernel
theorem dX9_receive_113 : decode cX9_receive 113 = .ok (.invokevirtual 189, 3) := by decide +kernel
theorem dX9_receive_116 : decode cX9_receive 116 = .ok (.aload_n 0, 1) := by decide +kernel
theorem dX9_receive_117 : decode cX9_receive 117 = .ok (.getfield 30, 3) := by decide +kernel
theorem dX9_receive_120 : decode cX9_receive 120 = .ok (.iload 5, 2) := by decide +kernel
theorem dX9_receive_122 : decode cX9_receive 122 = .ok (.aload_n 0, 1) := by decide +kernel
theorem dX9_receive_123 : decode cX9_receive 123 = .ok (.getfield 98, 3) := by decide +kernel
theorem dX9_receive_126 : decode cX9_receive 126 = .ok (.aload_n 0, 1) := by decide +kernel
theorem dX9_receive_127 : decode cX9_receive 127 = .ok (.getfield 40, 3) := by decide +kernel
theorem dX9_receive_130 : decode cX9_receive 130 = .ok (.invokevirtual 193, 3) := by decide +kernel
theorem dX9_receive_133 : decode cX9_receive 133 = .ok (.aload_n 0, 1) := by decide +kernel
theorem dX9_receive_134 : decode cX9_receive 134 = .ok (.getfield 47, 3) := by decide +kernel
theorem dX9_receive_137 : decode cX9_receive 137 = .ok (.aload_n 0, 1) := by decide +kernel
theorem dX9_receive_138 : decode cX9_receive 138 = .ok (.getfield 40, 3) := by decide +kernel
theorem dX9_receive_141 : decode cX9_receive 141 = .ok (.iload 5, 2) := by decide +kernel
theorem dX9_receive_143 : decode cX9_receive 143 = .ok (.aload_n 0, 1) := by decide +kernel
theorem dX9_receive_144 : decode cX9_receive 144 = .ok (.getfield 98, 3) := by decide +kernel
theorem dX9_receive_147 : decode cX9_receive 147 = .ok (.invokevirtual 197, 3) := by decide +kernel
theorem dX9_receive_150 : decode cX9_receive 150 = .ok (.aload_n 0, 1) := by decide +kernel
theorem dX9_receive_151 : decode cX9_receive 151 = .ok (.getfield 98, 3) := by decide +kernel
theorem dX9_receive_154 : decode cX9_receive 154 = .ok (.iload 5, 2) := by decide +kernel
theorem dX9_receive_156 : decode cX9_receive 156 = .ok (.isub, 1) := by decide +kernel
theorem dX9_receive_157 : decode cX9_receive 157 = .ok (.ireturn, 1) := by decide +kernel
theorem dX9_refusalOf_0 : decode cX9_refusalOf 0 = .ok (.aload_n 0, 1) := by decide +kernel
theorem dX9_refusalOf_1 : decode cX9_refusalOf 1 = .ok (.getfield 10, 3) := by decide +kernel
theorem dX9_refusalOf_4 : decode cX9_refusalOf 4 = .ok (.iload_n 1, 1) := by decide +kernel
theorem dX9_refusalOf_5 : decode cX9_refusalOf 5 = .ok (.invokevirtual 200, 3) := by decide +kernel
theorem dX9_refusalOf_8 : decode cX9_refusalOf 8 = .ok (.ifCond .ne 5, 3) := by decide +kernel
theorem dX9_refusalOf_11 : decode cX9_refusalOf 11 = .ok (.iconst (-1), 1) := by decide +kernel
theorem dX9_refusalOf_12 : decode cX9_refusalOf 12 = .ok (.ireturn, 1) := by decide +kernel
theorem dX9_refusalOf_13 : decode cX9_refusalOf 13 = .ok (.lload_n 2, 1) := by decide +kernel
theorem dX9_refusalOf_14 : decode cX9_refusalOf 14 = .ok (.invokestatic 203, 3) := by decide +kernel
theorem dX9_refusalOf_17 : decode cX9_refusalOf 17 = .ok (.ifCond .ne 6, 3) := by decide +kernel
theorem dX9_refusalOf_20 : decode cX9_refusalOf 20 = .ok (.bipush (-5), 2) := by decide +kernel
theorem dX9_refusalOf_22 : decode cX9_refusalOf 22 = .ok (.ireturn, 1) := by decide +kernel
theorem dX9_refusalOf_23 : decode cX9_refusalOf 23 = .ok (.lload_n 2, 1) := by decide +kernel
theorem dX9_refusalOf_24 : decode cX9_refusalOf 24 = .ok (.invokestatic 207, 3) := by decide +kernel
theorem dX9_refusalOf_27 : decode cX9_refusalOf 27 = .ok (.ifCond .ne 6, 3) := by decide +kernel
theorem dX9_refusalOf_30 : decode cX9_refusalOf 30 = .ok (.bipush (-3), 2) := by decide +kernel
theorem dX9_refusalOf_32 : decode cX9_refusalOf 32 = .ok (.ireturn, 1) := by decide +kernel
theorem dX9_refusalOf_33 : decode cX9_refusalOf 33 = .ok (.lload_n 2, 1) := by decide +kernel
theorem dX9_refusalOf_34 : decode cX9_refusalOf 34 = .ok (.invokestatic 210, 3) := by decide +kernel
theorem dX9_refusalOf_37 : decode cX9_refusalOf 37 = .ok (.aload_n 0, 1) := by decide +kernel
theorem dX9_refusalOf_38 : decode cX9_refusalOf 38 = .ok (.getfield 65, 3) := by decide +kernel
theorem dX9_refusalOf_41 : decode cX9_refusalOf 41 = .ok (.iload_n 1, 1) := by decide +kernel
theorem dX9_refusalOf_42 : decode cX9_refusalOf 42 = .ok (.iaload, 1) := by decide +kernel
theorem dX9_refusalOf_43 : decode cX9_refusalOf 43 = .ok (.if_icmp .eq 6, 3) := by decide +kernel
theorem dX9_refusalOf_46 : decode cX9_refusalOf 46 = .ok (.bipush (-6), 2) := by decide +kernel
theorem dX9_refusalOf_48 : decode cX9_refusalOf 48 = .ok (.ireturn, 1) := by decide +kernel
theorem dX9_refusalOf_49 : decode cX9_refusalOf 49 = .ok (.lload_n 2, 1) := by decide +kernel
theorem dX9_refusalOf_50 : decode cX9_refusalOf 50 = .ok (.invokestatic 178, 3) := by decide +kernel
theorem dX9_refusalOf_53 : decode cX9_refusalOf 53 = .ok (.istore 4, 2) := by decide +kernel
theorem dX9_refusalOf_55 : decode cX9_refusalOf 55 = .ok (.iload 4, 2) := by decide +kernel
theorem dX9_refusalOf_57 : decode cX9_refusalOf 57 = .ok (.aload_n 0, 1) := by decide +kernel
theorem dX9_refusalOf_58 : decode cX9_refusalOf 58 = .ok (.getfield 98, 3) := by decide +kernel
theorem dX9_refusalOf_61 : decode cX9_refusalOf 61 = .ok (.aload_n 0, 1) := by decide +kernel
theorem dX9_refusalOf_62 : decode cX9_refusalOf 62 = .ok (.getfield 101, 3) := by decide +kernel
theorem dX9_refusalOf_65 : decode cX9_refusalOf 65 = .ok (.isub, 1) := by decide +kernel
theorem dX9_refusalOf_66 : decode cX9_refusalOf 66 = .ok (.if_icmp .ge 6, 3) := by decide +kernel
theorem dX9_refusalOf_69 : decode cX9_refusalOf 69 = .ok (.bipush (-7), 2) := by decide +kernel
theorem dX9_refusalOf_71 : decode cX9_refusalOf 71 = .ok (.ireturn, 1) := by decide +kernel
theorem dX9_refusalOf_72 : decode cX9_refusalOf 72 = .ok (.iload 4, 2) := by decide +kernel
theorem dX9_refusalOf_74 : decode cX9_refusalOf 74 = .ok (.aload_n 0, 1) := by decide +kernel
theorem dX9_refusalOf_75 : decode cX9_refusalOf 75 = .ok (.getfield 98, 3) := by decide +kernel
theorem dX9_refusalOf_78 : decode cX9_refusalOf 78 = .ok (.iconst 2, 1) := by decide +kernel
theorem dX9_refusalOf_79 : decode cX9_refusalOf 79 = .ok (.iadd, 1) := by decide +kernel
theorem dX9_refusalOf_80 : decode cX9_refusalOf 80 = .ok (.if_icmp .gt 11, 3) := by decide +kernel
theorem dX9_refusalOf_83 : decode cX9_refusalOf 83 = .ok (.iload 4, 2) := by decide +kernel
theorem dX9_refusalOf_85 : decode cX9_refusalOf 85 = .ok (.sipush 500, 3) := by decide +kernel
theorem dX9_refusalOf_88 : decode cX9_refusalOf 88 = .ok (.if_icmp .lt 6, 3) := by decide +kernel
theorem dX9_refusalOf_91 : decode cX9_refusalOf 91 = .ok (.bipush (-8), 2) := by decide +kernel
theorem dX9_refusalOf_93 : decode cX9_refusalOf 93 = .ok (.ireturn, 1) := by decide +kernel
theorem dX9_refusalOf_94 : decode cX9_refusalOf 94 = .ok (.aload_n 0, 1) := by decide +kernel
theorem dX9_refusalOf_95 : decode cX9_refusalOf 95 = .ok (.getfield 40, 3) := by decide +kernel
theorem dX9_refusalOf_98 : decode cX9_refusalOf 98 = .ok (.iload 4, 2) := by decide +kernel
theorem dX9_refusalOf_100 : decode cX9_refusalOf 100 = .ok (.iload_n 1, 1) := by decide +kernel
theorem dX9_refusalOf_101 : decode cX9_refusalOf 101 = .ok (.invokevirtual 213, 3) := by decide +kernel
theorem dX9_refusalOf_104 : decode cX9_refusalOf 104 = .ok (.sipush 4096, 3) := by decide +kernel
theorem dX9_refusalOf_107 : decode cX9_refusalOf 107 = .ok (.if_icmp .eq 6, 3) := by decide +kernel
theorem dX9_refusalOf_110 : decode cX9_refusalOf 110 = .ok (.bipush (-9), 2) := by decide +kernel
theorem dX9_refusalOf_112 : decode cX9_refusalOf 112 = .ok (.ireturn, 1) := by decide +kernel
theorem dX9_refusalOf_113 : decode cX9_refusalOf 113 = .ok (.aload_n 0, 1) := by decide +kernel
theorem dX9_refusalOf_114 : decode cX9_refusalOf 114 = .ok (.getfield 30, 3) := by decide +kernel
theorem dX9_refusalOf_117 : decode cX9_refusalOf 117 = .ok (.iload 4, 2) := by decide +kernel
theorem dX9_refusalOf_119 : decode cX9_refusalOf 119 = .ok (.aload_n 0, 1) := by decide +kernel
theorem dX9_refusalOf_120 : decode cX9_refusalOf 120 = .ok (.getfield 98, 3) := by decide +kernel
theorem dX9_refusalOf_123 : decode cX9_refusalOf 123 = .ok (.if_icmp .ge 8, 3) := by decide +kernel
theorem dX9_refusalOf_126 : decode cX9_refusalOf 126 = .ok (.iload 4, 2) := by decide +kernel
theorem dX9_refusalOf_128 : decode cX9_refusalOf 128 = .ok (.goto 7, 3) := by decide +kernel
theorem dX9_refusalOf_131 : decode cX9_refusalOf 131 = .ok (.aload_n 0, 1) := by decide +kernel
theorem dX9_refusalOf_132 : decode cX9_refusalOf 132 = .ok (.getfield 98, 3) := by decide +kernel
theorem dX9_refusalOf_135 : decode cX9_refusalOf 135 = .ok (.invokevirtual 215, 3) := by decide +kernel
theorem dX9_refusalOf_138 : decode cX9_refusalOf 138 = .ok (.astore 5, 2) := by decide +kernel
theorem dX9_refusalOf_140 : decode cX9_refusalOf 140 = .ok (.aload 5, 2) := by decide +kernel
theorem dX9_refusalOf_142 : decode cX9_refusalOf 142 = .ok (.getfield 219, 3) := by decide +kernel
theorem dX9_refusalOf_145 : decode cX9_refusalOf 145 = .ok (.iload_n 1, 1) := by decide +kernel
theorem dX9_refusalOf_146 : decode cX9_refusalOf 146 = .ok (.iaload, 1) := by decide +kernel
theorem dX9_refusalOf_147 : decode cX9_refusalOf 147 = .ok (.ifCond .gt 6, 3) := by decide +kernel
theorem dX9_refusalOf_150 : decode cX9_refusalOf 150 = .ok (.bipush (-10), 2) := by decide +kernel
theorem dX9_refusalOf_152 : decode cX9_refusalOf 152 = .ok (.ireturn, 1) := by decide +kernel
theorem dX9_refusalOf_153 : decode cX9_refusalOf 153 = .ok (.iload 4, 2) := by decide +kernel
theorem dX9_refusalOf_155 : decode cX9_refusalOf 155 = .ok (.aload_n 0, 1) := by decide +kernel
theorem dX9_refusalOf_156 : decode cX9_refusalOf 156 = .ok (.getfield 98, 3) := by decide +kernel
theorem dX9_refusalOf_159 : decode cX9_refusalOf 159 = .ok (.if_icmp .gt 21, 3) := by decide +kernel
theorem dX9_refusalOf_162 : decode cX9_refusalOf 162 = .ok (.aload 5, 2) := by decide +kernel
theorem dX9_refusalOf_164 : decode cX9_refusalOf 164 = .ok (.iload_n 1, 1) := by decide +kernel
theorem dX9_refusalOf_165 : decode cX9_refusalOf 165 = .ok (.lload_n 2, 1) := by decide +kernel
theorem dX9_refusalOf_166 : decode cX9_refusalOf 166 = .ok (.invokestatic 182, 3) := by decide +kernel
theorem dX9_refusalOf_169 : decode cX9_refusalOf 169 = .ok (.invokevirtual 222, 3) := by decide +kernel
theorem dX9_refusalOf_172 : decode cX9_refusalOf 172 = .ok (.ifCond .eq 8, 3) := by decide +kernel
theorem dX9_refusalOf_175 : decode cX9_refusalOf 175 = .ok (.bipush (-16), 2) := by decide +kernel
theorem dX9_refusalOf_177 : decode cX9_refusalOf 177 = .ok (.goto 4, 3) := by decide +kernel
theorem dX9_refusalOf_180 : decode cX9_refusalOf 180 = .ok (.iconst 0, 1) := by decide +kernel
theorem dX9_refusalOf_181 : decode cX9_refusalOf 181 = .ok (.ireturn, 1) := by decide +kernel
theorem dX9_step_0 : decode cX9_step 0 = .ok (.aload_n 0, 1) := by decide +kernel
theorem dX9_step_1 : decode cX9_step 1 = .ok (.getfield 98, 3) := by decide +kernel
theorem dX9_step_4 : decode cX9_step 4 = .ok (.sipush 500, 3) := by decide +kernel
theorem dX9_step_7 : decode cX9_step 7 = .ok (.if_icmp .lt 6, 3) := by decide +kernel
theorem dX9_step_10 : decode cX9_step 10 = .ok (.bipush (-4), 2) := by decide +kernel
theorem dX9_step_12 : decode cX9_step 12 = .ok (.ireturn, 1) := by decide +kernel
theorem dX9_step_13 : decode cX9_step 13 = .ok (.aload_n 0, 1) := by decide +kernel
theorem dX9_step_14 : decode cX9_step 14 = .ok (.getfield 30, 3) := by decide +kernel
theorem dX9_step_17 : decode cX9_step 17 = .ok (.aload_n 0, 1) := by decide +kernel
theorem dX9_step_18 : decode cX9_step 18 = .ok (.getfield 98, 3) := by decide +kernel
theorem dX9_step_21 : decode cX9_step 21 = .ok (.aload_n 0, 1) := by decide +kernel
theorem dX9_step_22 : decode cX9_step 22 = .ok (.getfield 98, 3) := by decide +kernel
theorem dX9_step_25 : decode cX9_step 25 = .ok (.iconst 1, 1) := by decide +kernel
theorem dX9_step_26 : decode cX9_step 26 = .ok (.iadd, 1) := by decide +kernel
theorem dX9_step_27 : decode cX9_step 27 = .ok (.aload_n 0, 1) := by decide +kernel
theorem dX9_step_28 : decode cX9_step 28 = .ok (.getfield 40, 3) := by decide +kernel
theorem dX9_step_31 : decode cX9_step 31 = .ok (.invokevirtual 193, 3) := by decide +kernel
theorem dX9_step_34 : decode cX9_step 34 = .ok (.aload_n 0, 1) := by decide +kernel
theorem dX9_step_35 : decode cX9_step 35 = .ok (.dup, 1) := by decide +kernel
theorem dX9_step_36 : decode cX9_step 36 = .ok (.getfield 98, 3) := by decide +kernel
theorem dX9_step_39 : decode cX9_step 39 = .ok (.iconst 1, 1) := by decide +kernel
theorem dX9_step_40 : decode cX9_step 40 = .ok (.iadd, 1) := by decide +kernel
theorem dX9_step_41 : decode cX9_step 41 = .ok (.putfield 98, 3) := by decide +kernel
theorem dX9_step_44 : decode cX9_step 44 = .ok (.aload_n 0, 1) := by decide +kernel
theorem dX9_step_45 : decode cX9_step 45 = .ok (.getfield 98, 3) := by decide +kernel
theorem dX9_step_48 : decode cX9_step 48 = .ok (.aload_n 0, 1) := by decide +kernel
theorem dX9_step_49 : decode cX9_step 49 = .ok (.getfield 101, 3) := by decide +kernel
theorem dX9_step_52 : decode cX9_step 52 = .ok (.isub, 1) := by decide +kernel
theorem dX9_step_53 : decode cX9_step 53 = .ok (.iconst 1, 1) := by decide +kernel
theorem dX9_step_54 : decode cX9_step 54 = .ok (.isub, 1) := by decide +kernel
theorem dX9_step_55 : decode cX9_step 55 = .ok (.istore_n 1, 1) := by decide +kernel
theorem dX9_step_56 : decode cX9_step 56 = .ok (.iconst 0, 1) := by decide +kernel
theorem dX9_step_57 : decode cX9_step 57 = .ok (.istore_n 2, 1) := by decide +kernel
theorem dX9_step_58 : decode cX9_step 58 = .ok (.iload_n 2, 1) := by decide +kernel
theorem dX9_step_59 : decode cX9_step 59 = .ok (.aload_n 0, 1) := by decide +kernel
theorem dX9_step_60 : decode cX9_step 60 = .ok (.getfield 10, 3) := by decide +kernel
theorem dX9_step_63 : decode cX9_step 63 = .ok (.getfield 226, 3) := by decide +kernel
theorem dX9_step_66 : decode cX9_step 66 = .ok (.if_icmp .ge 19, 3) := by decide +kernel
theorem dX9_step_69 : decode cX9_step 69 = .ok (.iload_n 1, 1) := by decide +kernel
theorem dX9_step_70 : decode cX9_step 70 = .ok (.ifCond .lt 15, 3) := by decide +kernel
theorem dX9_step_73 : decode cX9_step 73 = .ok (.aload_n 0, 1) := by decide +kernel
theorem dX9_step_74 : decode cX9_step 74 = .ok (.iload_n 1, 1) := by decide +kernel
theorem dX9_step_75 : decode cX9_step 75 = .ok (.iload_n 2, 1) := by decide +kernel
theorem dX9_step_76 : decode cX9_step 76 = .ok (.invokevirtual 229, 3) := by decide +kernel
theorem dX9_step_79 : decode cX9_step 79 = .ok (.iinc 2 1, 3) := by decide +kernel
theorem dX9_step_82 : decode cX9_step 82 = .ok (.goto (-24), 3) := by decide +kernel
theorem dX9_step_85 : decode cX9_step 85 = .ok (.aload_n 0, 1) := by decide +kernel
theorem dX9_step_86 : decode cX9_step 86 = .ok (.getfield 98, 3) := by decide +kernel
theorem dX9_step_89 : decode cX9_step 89 = .ok (.ireturn, 1) := by decide +kernel
theorem dX9_lookAt_0 : decode cX9_lookAt 0 = .ok (.aload_n 0, 1) := by decide +kernel
theorem dX9_lookAt_1 : decode cX9_lookAt 1 = .ok (.getfield 30, 3) := by decide +kernel
theorem dX9_lookAt_4 : decode cX9_lookAt 4 = .ok (.iload_n 1, 1) := by decide +kernel
theorem dX9_lookAt_5 : decode cX9_lookAt 5 = .ok (.invokevirtual 215, 3) := by decide +kernel
theorem dX9_lookAt_8 : decode cX9_lookAt 8 = .ok (.astore_n 3, 1) := by decide +kernel
theorem dX9_lookAt_9 : decode cX9_lookAt 9 = .ok (.aload_n 0, 1) := by decide +kernel
theorem dX9_lookAt_10 : decode cX9_lookAt 10 = .ok (.getfield 53, 3) := by decide +kernel
theorem dX9_lookAt_13 : decode cX9_lookAt 13 = .ok (.iload_n 2, 1) := by decide +kernel
theorem dX9_lookAt_14 : decode cX9_lookAt 14 = .ok (.aaload, 1) := by decide +kernel
theorem dX9_lookAt_15 : decode cX9_lookAt 15 = .ok (.astore 4, 2) := by decide +kernel
theorem dX9_lookAt_17 : decode cX9_lookAt 17 = .ok (.aload_n 0, 1) := by decide +kernel
theorem dX9_lookAt_18 : decode cX9_lookAt 18 = .ok (.getfield 40, 3) := by decide +kernel
theorem dX9_lookAt_21 : decode cX9_lookAt 21 = .ok (.iload_n 1, 1) := by decide +kernel
theorem dX9_lookAt_22 : decode cX9_lookAt 22 = .ok (.iload_n 2, 1) := by decide +kernel
theorem dX9_lookAt_23 : decode cX9_lookAt 23 = .ok (.invokevirtual 213, 3) := by decide +kernel
theorem dX9_lookAt_26 : decode cX9_lookAt 26 = .ok (.istore 5, 2) := by decide +kernel
theorem dX9_lookAt_28 : decode cX9_lookAt 28 = .ok (.iload 5, 2) := by decide +kernel
theorem dX9_lookAt_30 : decode cX9_lookAt 30 = .ok (.invokestatic 233, 3) := by decide +kernel
theorem dX9_lookAt_33 : decode cX9_lookAt 33 = .ok (.istore 6, 2) := by decide +kernel
theorem dX9_lookAt_35 : decode cX9_lookAt 35 = .ok (.iload 5, 2) := by decide +kernel
theorem dX9_lookAt_37 : decode cX9_lookAt 37 = .ok (.invokestatic 236, 3) := by decide +kernel
theorem dX9_lookAt_40 : decode cX9_lookAt 40 = .ok (.istore 7, 2) := by decide +kernel
theorem dX9_lookAt_42 : decode cX9_lookAt 42 = .ok (.aload_n 0, 1) := by decide +kernel
theorem dX9_lookAt_43 : decode cX9_lookAt 43 = .ok (.getfield 40, 3) := by decide +kernel
theorem dX9_lookAt_46 : decode cX9_lookAt 46 = .ok (.iload_n 1, 1) := by decide +kernel
theorem dX9_lookAt_47 : decode cX9_lookAt 47 = .ok (.iload_n 2, 1) := by decide +kernel
theorem dX9_lookAt_48 : decode cX9_lookAt 48 = .ok (.invokevirtual 239, 3) := by decide +kernel
theorem dX9_lookAt_51 : decode cX9_lookAt 51 = .ok (.ifCond .le 7, 3) := by decide +kernel
theorem dX9_lookAt_54 : decode cX9_lookAt 54 = .ok (.iconst 1, 1) := by decide +kernel
theorem dX9_lookAt_55 : decode cX9_lookAt 55 = .ok (.goto 4, 3) := by decide +kernel
theorem dX9_lookAt_58 : decode cX9_lookAt 58 = .ok (.iconst 0, 1) := by decide +kernel
theorem dX9_lookAt_59 : decode cX9_lookAt 59 = .ok (.istore 8, 2) := by decide +kernel
theorem dX9_lookAt_61 : decode cX9_lookAt 61 = .ok (.iload 8, 2) := by decide +kernel
theorem dX9_lookAt_63 : decode cX9_lookAt 63 = .ok (.ifCond .eq 17, 3) := by decide +kernel
theorem dX9_lookAt_66 : decode cX9_lookAt 66 = .ok (.aload 4, 2) := by decide +kernel
theorem dX9_lookAt_68 : decode cX9_lookAt 68 = .ok (.aload_n 0, 1) := by decide +kernel
theorem dX9_lookAt_69 : decode cX9_lookAt 69 = .ok (.getfield 40, 3) := by decide +kernel
theorem dX9_lookAt_72 : decode cX9_lookAt 72 = .ok (.iload_n 1, 1) := by decide +kernel
theorem dX9_lookAt_73 : decode cX9_lookAt 73 = .ok (.iload_n 2, 1) := by decide +kernel
theorem dX9_lookAt_74 : decode cX9_lookAt 74 = .ok (.invokevirtual 242, 3) := by decide +kernel
theorem dX9_lookAt_77 : decode cX9_lookAt 77 = .ok (.invokevirtual 245, 3) := by decide +kernel
theorem dX9_lookAt_80 : decode cX9_lookAt 80 = .ok (.aload_n 3, 1) := by decide +kernel
theorem dX9_lookAt_81 : decode cX9_lookAt 81 = .ok (.getfield 219, 3) := by decide +kernel
theorem dX9_lookAt_84 : decode cX9_lookAt 84 = .ok (.iload_n 2, 1) := by decide +kernel
theorem dX9_lookAt_85 : decode cX9_lookAt 85 = .ok (.iaload, 1) := by decide +kernel
theorem dX9_lookAt_86 : decode cX9_lookAt 86 = .ok (.ifCond .le 8, 3) := by decide +kernel
theorem dX9_lookAt_89 : decode cX9_lookAt 89 = .ok (.iload 6, 2) := by decide +kernel
theorem dX9_lookAt_91 : decode cX9_lookAt 91 = .ok (.ifCond .ne 4, 3) := by decide +kernel
theorem dX9_lookAt_94 : decode cX9_lookAt 94 = .ok (.return_, 1) := by decide +kernel
theorem dX9_lookAt_95 : decode cX9_lookAt 95 = .ok (.iload 6, 2) := by decide +kernel
theorem dX9_lookAt_97 : decode cX9_lookAt 97 = .ok (.iconst 2, 1) := by decide +kernel
theorem dX9_lookAt_98 : decode cX9_lookAt 98 = .ok (.if_icmp .ne 31, 3) := by decide +kernel
theorem dX9_lookAt_101 : decode cX9_lookAt 101 = .ok (.aload 4, 2) := by decide +kernel
theorem dX9_lookAt_103 : decode cX9_lookAt 103 = .ok (.getfield 249, 3) := by decide +kernel
theorem dX9_lookAt_106 : decode cX9_lookAt 106 = .ok (.aload_n 3, 1) := by decide +kernel
theorem dX9_lookAt_107 : decode cX9_lookAt 107 = .ok (.iload_n 2, 1) := by decide +kernel
theorem dX9_lookAt_108 : decode cX9_lookAt 108 = .ok (.iload 7, 2) := by decide +kernel
theorem dX9_lookAt_110 : decode cX9_lookAt 110 = .ok (.invokevirtual 253, 3) := by decide +kernel
theorem dX9_lookAt_113 : decode cX9_lookAt 113 = .ok (.iload 8, 2) := by decide +kernel
theorem dX9_lookAt_115 : decode cX9_lookAt 115 = .ok (.aload_n 0, 1) := by decide +kernel
theorem dX9_lookAt_116 : decode cX9_lookAt 116 = .ok (.getfield 104, 3) := by decide +kernel
theorem dX9_lookAt_119 : decode cX9_lookAt 119 = .ok (.aload_n 0, 1) := by decide +kernel
theorem dX9_lookAt_120 : decode cX9_lookAt 120 = .ok (.getfield 98, 3) := by decide +kernel
theorem dX9_lookAt_123 : decode cX9_lookAt 123 = .ok (.invokevirtual 256, 3) := by decide +kernel
theorem dX9_lookAt_126 : decode cX9_lookAt 126 = .ok (.goto 48, 3) := by decide +kernel
theorem dX9_lookAt_129 : decode cX9_lookAt 129 = .ok (.iload 6, 2) := by decide +kernel
theorem dX9_lookAt_131 : decode cX9_lookAt 131 = .ok (.iconst 3, 1) := by decide +kernel
theorem dX9_lookAt_132 : decode cX9_lookAt 132 = .ok (.if_icmp .ne 42, 3) := by decide +kernel
theorem dX9_lookAt_135 : decode cX9_lookAt 135 = .ok (.aload_n 3, 1) := by decide +kernel
theorem dX9_lookAt_136 : decode cX9_lookAt 136 = .ok (.iload_n 2, 1) := by decide +kernel
theorem dX9_lookAt_137 : decode cX9_lookAt 137 = .ok (.iload 7, 2) := by decide +kernel
theorem dX9_lookAt_139 : decode cX9_lookAt 139 = .ok (.iload 5, 2) := by decide +kernel
theorem dX9_lookAt_141 : decode cX9_lookAt 141 = .ok (.invokestatic 262, 3) := by decide +kernel
theorem dX9_lookAt_144 : decode cX9_lookAt 144 = .ok (.invokevirtual 265, 3) := by decide +kernel
theorem dX9_lookAt_147 : decode cX9_lookAt 147 = .ok (.istore 9, 2) := by decide +kernel
theorem dX9_lookAt_149 : decode cX9_lookAt 149 = .ok (.aload 4, 2) := by decide +kernel
theorem dX9_lookAt_151 : decode cX9_lookAt 151 = .ok (.getfield 249, 3) := by decide +kernel
theorem dX9_lookAt_154 : decode cX9_lookAt 154 = .ok (.aload_n 3, 1) := by decide +kernel
theorem dX9_lookAt_155 : decode cX9_lookAt 155 = .ok (.iload_n 2, 1) := by decide +kernel
theorem dX9_lookAt_156 : decode cX9_lookAt 156 = .ok (.iload 7, 2) := by decide +kernel
theorem dX9_lookAt_158 : decode cX9_lookAt 158 = .ok (.invokevirtual 269, 3) := by decide +kernel
theorem dX9_lookAt_161 : decode cX9_lookAt 161 = .ok (.iload 9, 2) := by decide +kernel
theorem dX9_lookAt_163 : decode cX9_lookAt 163 = .ok (.aload_n 0, 1) := by decide +kernel
theorem dX9_lookAt_164 : decode cX9_lookAt 164 = .ok (.getfield 104, 3) := by decide +kernel
theorem dX9_lookAt_167 : decode cX9_lookAt 167 = .ok (.aload_n 0, 1) := by decide +kernel
theorem dX9_lookAt_168 : decode cX9_lookAt 168 = .ok (.getfield 98, 3) := by decide +kernel
theorem dX9_lookAt_171 : decode cX9_lookAt 171 = .ok (.invokevirtual 256, 3) := by decide +kernel
theorem dX9_lookAt_174 : decode cX9_lookAt 174 = .ok (.aload 4, 2) := by decide +kernel
theorem dX9_lookAt_176 : decode cX9_lookAt 176 = .ok (.iload_n 1, 1) := by decide +kernel
theorem dX9_lookAt_177 : decode cX9_lookAt 177 = .ok (.aload_n 0, 1) := by decide +kernel
theorem dX9_lookAt_178 : decode cX9_lookAt 178 = .ok (.getfield 104, 3) := by decide +kernel
theorem dX9_lookAt_181 : decode cX9_lookAt 181 = .ok (.aload_n 0, 1) := by decide +kernel
theorem dX9_lookAt_182 : decode cX9_lookAt 182 = .ok (.getfield 98, 3) := by decide +kernel
theorem dX9_lookAt_185 : decode cX9_lookAt 185 = .ok (.invokevirtual 272, 3) := by decide +kernel
theorem dX9_lookAt_188 : decode cX9_lookAt 188 = .ok (.return_, 1) := by decide +kernel
theorem dX9_body_0 : decode cX9_body 0 = .ok (.aload_n 0, 1) := by decide +kernel
theorem dX9_body_1 : decode cX9_body 1 = .ok (.getfield 10, 3) := by decide +kernel
theorem dX9_body_4 : decode cX9_body 4 = .ok (.iload_n 1, 1) := by decide +kernel
theorem dX9_body_5 : decode cX9_body 5 = .ok (.invokevirtual 200, 3) := by decide +kernel
theorem dX9_body_8 : decode cX9_body 8 = .ok (.ifCond .ne 5, 3) := by decide +kernel
theorem dX9_body_11 : decode cX9_body 11 = .ok (.iconst (-1), 1) := by decide +kernel
theorem dX9_body_12 : decode cX9_body 12 = .ok (.ireturn, 1) := by decide +kernel
theorem dX9_body_13 : decode cX9_body 13 = .ok (.aload_n 0, 1) := by decide +kernel
theorem dX9_body_14 : decode cX9_body 14 = .ok (.getfield 30, 3) := by decide +kernel
theorem dX9_body_17 : decode cX9_body 17 = .ok (.aload_n 0, 1) := by decide +kernel
theorem dX9_body_18 : decode cX9_body 18 = .ok (.getfield 98, 3) := by decide +kernel
theorem dX9_body_21 : decode cX9_body 21 = .ok (.invokevirtual 215, 3) := by decide +kernel
theorem dX9_body_24 : decode cX9_body 24 = .ok (.astore_n 3, 1) := by decide +kernel
theorem dX9_body_25 : decode cX9_body 25 = .ok (.iload_n 2, 1) := by decide +kernel
theorem dX9_body_26 : decode cX9_body 26 = .ok (.tableswitch 91 0 6 #[42, 49, 56, 63, 70, 77, 84], 42) := by decide +kernel
theorem dX9_body_68 : decode cX9_body 68 = .ok (.aload_n 3, 1) := by decide +kernel
theorem dX9_body_69 : decode cX9_body 69 = .ok (.getfield 275, 3) := by decide +kernel
theorem dX9_body_72 : decode cX9_body 72 = .ok (.iload_n 1, 1) := by decide +kernel
theorem dX9_body_73 : decode cX9_body 73 = .ok (.iaload, 1) := by decide +kernel
theorem dX9_body_74 : decode cX9_body 74 = .ok (.ireturn, 1) := by decide +kernel
theorem dX9_body_75 : decode cX9_body 75 = .ok (.aload_n 3, 1) := by decide +kernel
theorem dX9_body_76 : decode cX9_body 76 = .ok (.getfield 219, 3) := by decide +kernel
theorem dX9_body_79 : decode cX9_body 79 = .ok (.iload_n 1, 1) := by decide +kernel
theorem dX9_body_80 : decode cX9_body 80 = .ok (.iaload, 1) := by decide +kernel
theorem dX9_body_81 : decode cX9_body 81 = .ok (.ireturn, 1) := by decide +kernel
theorem dX9_body_82 : decode cX9_body 82 = .ok (.aload_n 3, 1) := by decide +kernel
theorem dX9_body_83 : decode cX9_body 83 = .ok (.getfield 278, 3) := by decide +kernel
theorem dX9_body_86 : decode cX9_body 86 = .ok (.iload_n 1, 1) := by decide +kernel
theorem dX9_body_87 : decode cX9_body 87 = .ok (.iaload, 1) := by decide +kernel
theorem dX9_body_88 : decode cX9_body 88 = .ok (.ireturn, 1) := by decide +kernel
theorem dX9_body_89 : decode cX9_body 89 = .ok (.aload_n 3, 1) := by decide +kernel
theorem dX9_body_90 : decode cX9_body 90 = .ok (.getfield 281, 3) := by decide +kernel
theorem dX9_body_93 : decode cX9_body 93 = .ok (.iload_n 1, 1) := by decide +kernel
theorem dX9_body_94 : decode cX9_body 94 = .ok (.iaload, 1) := by decide +kernel
theorem dX9_body_95 : decode cX9_body 95 = .ok (.ireturn, 1) := by decide +kernel
theorem dX9_body_96 : decode cX9_body 96 = .ok (.aload_n 3, 1) := by decide +kernel
theorem dX9_body_97 : decode cX9_body 97 = .ok (.getfield 284, 3) := by decide +kernel
theorem dX9_body_100 : decode cX9_body 100 = .ok (.iload_n 1, 1) := by decide +kernel
theorem dX9_body_101 : decode cX9_body 101 = .ok (.iaload, 1) := by decide +kernel
theorem dX9_body_102 : decode cX9_body 102 = .ok (.ireturn, 1) := by decide +kernel
theorem dX9_body_103 : decode cX9_body 103 = .ok (.aload_n 3, 1) := by decide +kernel
theorem dX9_body_104 : decode cX9_body 104 = .ok (.getfield 287, 3) := by decide +kernel
theorem dX9_body_107 : decode cX9_body 107 = .ok (.iload_n 1, 1) := by decide +kernel
theorem dX9_body_108 : decode cX9_body 108 = .ok (.iaload, 1) := by decide +kernel
theorem dX9_body_109 : decode cX9_body 109 = .ok (.ireturn, 1) := by decide +kernel
theorem dX9_body_110 : decode cX9_body 110 = .ok (.aload_n 3, 1) := by decide +kernel
theorem dX9_body_111 : decode cX9_body 111 = .ok (.getfield 290, 3) := by decide +kernel
theorem dX9_body_114 : decode cX9_body 114 = .ok (.iload_n 1, 1) := by decide +kernel
theorem dX9_body_115 : decode cX9_body 115 = .ok (.iaload, 1) := by decide +kernel
theorem dX9_body_116 : decode cX9_body 116 = .ok (.ireturn, 1) := by decide +kernel
theorem dX9_body_117 : decode cX9_body 117 = .ok (.iconst (-1), 1) := by decide +kernel
theorem dX9_body_118 : decode cX9_body 118 = .ok (.ireturn, 1) := by decide +kernel
theorem dX9_thing_0 : decode cX9_thing 0 = .ok (.iload_n 1, 1) := by decide +kernel
theorem dX9_thing_1 : decode cX9_thing 1 = .ok (.ifCond .lt 14, 3) := by decide +kernel
theorem dX9_thing_4 : decode cX9_thing 4 = .ok (.iload_n 1, 1) := by decide +kernel
theorem dX9_thing_5 : decode cX9_thing 5 = .ok (.aload_n 0, 1) := by decide +kernel
theorem dX9_thing_6 : decode cX9_thing 6 = .ok (.getfield 10, 3) := by decide +kernel
theorem dX9_thing_9 : decode cX9_thing 9 = .ok (.getfield 150, 3) := by decide +kernel
theorem dX9_thing_12 : decode cX9_thing 12 = .ok (.if_icmp .lt 5, 3) := by decide +kernel
theorem dX9_thing_15 : decode cX9_thing 15 = .ok (.iconst (-1), 1) := by decide +kernel
theorem dX9_thing_16 : decode cX9_thing 16 = .ok (.ireturn, 1) := by decide +kernel
theorem dX9_thing_17 : decode cX9_thing 17 = .ok (.aload_n 0, 1) := by decide +kernel
theorem dX9_thing_18 : decode cX9_thing 18 = .ok (.getfield 30, 3) := by decide +kernel
theorem dX9_thing_21 : decode cX9_thing 21 = .ok (.aload_n 0, 1) := by decide +kernel
theorem dX9_thing_22 : decode cX9_thing 22 = .ok (.getfield 98, 3) := by decide +kernel
theorem dX9_thing_25 : decode cX9_thing 25 = .ok (.invokevirtual 215, 3) := by decide +kernel
theorem dX9_thing_28 : decode cX9_thing 28 = .ok (.astore_n 3, 1) := by decide +kernel
theorem dX9_thing_29 : decode cX9_thing 29 = .ok (.iload_n 2, 1) := by decide +kernel
theorem dX9_thing_30 : decode cX9_thing 30 = .ok (.tableswitch 61 0 3 #[30, 40, 47, 54], 30) := by decide +kernel
theorem dX9_thing_60 : decode cX9_thing 60 = .ok (.aload_n 0, 1) := by decide +kernel
theorem dX9_thing_61 : decode cX9_thing 61 = .ok (.getfield 10, 3) := by decide +kernel
theorem dX9_thing_64 : decode cX9_thing 64 = .ok (.getfield 293, 3) := by decide +kernel
theorem dX9_thing_67 : decode cX9_thing 67 = .ok (.iload_n 1, 1) := by decide +kernel
theorem dX9_thing_68 : decode cX9_thing 68 = .ok (.iaload, 1) := by decide +kernel
theorem dX9_thing_69 : decode cX9_thing 69 = .ok (.ireturn, 1) := by decide +kernel
theorem dX9_thing_70 : decode cX9_thing 70 = .ok (.aload_n 3, 1) := by decide +kernel
theorem dX9_thing_71 : decode cX9_thing 71 = .ok (.getfield 275, 3) := by decide +kernel
theorem dX9_thing_74 : decode cX9_thing 74 = .ok (.iload_n 1, 1) := by decide +kernel
theorem dX9_thing_75 : decode cX9_thing 75 = .ok (.iaload, 1) := by decide +kernel
theorem dX9_thing_76 : decode cX9_thing 76 = .ok (.ireturn, 1) := by decide +kernel
theorem dX9_thing_77 : decode cX9_thing 77 = .ok (.aload_n 3, 1) := by decide +kernel
theorem dX9_thing_78 : decode cX9_thing 78 = .ok (.getfield 219, 3) := by decide +kernel
theorem dX9_thing_81 : decode cX9_thing 81 = .ok (.iload_n 1, 1) := by decide +kernel
theorem dX9_thing_82 : decode cX9_thing 82 = .ok (.iaload, 1) := by decide +kernel
theorem dX9_thing_83 : decode cX9_thing 83 = .ok (.ireturn, 1) := by decide +kernel
theorem dX9_thing_84 : decode cX9_thing 84 = .ok (.aload_n 3, 1) := by decide +kernel
theorem dX9_thing_85 : decode cX9_thing 85 = .ok (.getfield 296, 3) := by decide +kernel
theorem dX9_thing_88 : decode cX9_thing 88 = .ok (.iload_n 1, 1) := by decide +kernel
theorem dX9_thing_89 : decode cX9_thing 89 = .ok (.iaload, 1) := by decide +kernel
theorem dX9_thing_90 : decode cX9_thing 90 = .ok (.ireturn, 1) := by decide +kernel
theorem dX9_thing_91 : decode cX9_thing 91 = .ok (.iconst (-1), 1) := by decide +kernel
theorem dX9_thing_92 : decode cX9_thing 92 = .ok (.ireturn, 1) := by decide +kernel
theorem dX9_open_0 : decode cX9_open 0 = .ok (.aload_n 0, 1) := by decide +kernel
theorem dX9_open_1 : decode cX9_open 1 = .ok (.getfield 10, 3) := by decide +kernel
theorem dX9_open_4 : decode cX9_open 4 = .ok (.iload_n 1, 1) := by decide +kernel
theorem dX9_open_5 : decode cX9_open 5 = .ok (.invokevirtual 137, 3) := by decide +kernel
theorem dX9_open_8 : decode cX9_open 8 = .ok (.ifCond .ne 5, 3) := by decide +kernel
theorem dX9_open_11 : decode cX9_open 11 = .ok (.iconst (-1), 1) := by decide +kernel
theorem dX9_open_12 : decode cX9_open 12 = .ok (.ireturn, 1) := by decide +kernel
theorem dX9_open_13 : decode cX9_open 13 = .ok (.aload_n 0, 1) := by decide +kernel
theorem dX9_open_14 : decode cX9_open 14 = .ok (.getfield 30, 3) := by decide +kernel
theorem dX9_open_17 : decode cX9_open 17 = .ok (.aload_n 0, 1) := by decide +kernel
theorem dX9_open_18 : decode cX9_open 18 = .ok (.getfield 98, 3) := by decide +kernel
theorem dX9_open_21 : decode cX9_open 21 = .ok (.invokevirtual 215, 3) := by decide +kernel
theorem dX9_open_24 : decode cX9_open 24 = .ok (.getfield 299, 3) := by decide +kernel
theorem dX9_open_27 : decode cX9_open 27 = .ok (.iload_n 1, 1) := by decide +kernel
theorem dX9_open_28 : decode cX9_open 28 = .ok (.iaload, 1) := by decide +kernel
theorem dX9_open_29 : decode cX9_open 29 = .ok (.ireturn, 1) := by decide +kernel
theorem dX9_sees_0 : decode cX9_sees 0 = .ok (.aload_n 0, 1) := by decide +kernel
theorem dX9_sees_1 : decode cX9_sees 1 = .ok (.getfield 10, 3) := by decide +kernel
theorem dX9_sees_4 : decode cX9_sees 4 = .ok (.iload_n 1, 1) := by decide +kernel
theorem dX9_sees_5 : decode cX9_sees 5 = .ok (.invokevirtual 200, 3) := by decide +kernel
theorem dX9_sees_8 : decode cX9_sees 8 = .ok (.ifCond .eq 14, 3) := by decide +kernel
theorem dX9_sees_11 : decode cX9_sees 11 = .ok (.aload_n 0, 1) := by decide +kernel
theorem dX9_sees_12 : decode cX9_sees 12 = .ok (.getfield 10, 3) := by decide +kernel
theorem dX9_sees_15 : decode cX9_sees 15 = .ok (.iload_n 2, 1) := by decide +kernel
theorem dX9_sees_16 : decode cX9_sees 16 = .ok (.invokevirtual 116, 3) := by decide +kernel
theorem dX9_sees_19 : decode cX9_sees 19 = .ok (.ifCond .ne 5, 3) := by decide +kernel
theorem dX9_sees_22 : decode cX9_sees 22 = .ok (.iconst (-1), 1) := by decide +kernel
theorem dX9_sees_23 : decode cX9_sees 23 = .ok (.ireturn, 1) := by decide +kernel
theorem dX9_sees_24 : decode cX9_sees 24 = .ok (.aload_n 0, 1) := by decide +kernel
theorem dX9_sees_25 : decode cX9_sees 25 = .ok (.getfield 30, 3) := by decide +kernel
theorem dX9_sees_28 : decode cX9_sees 28 = .ok (.aload_n 0, 1) := by decide +kernel
theorem dX9_sees_29 : decode cX9_sees 29 = .ok (.getfield 98, 3) := by decide +kernel
theorem dX9_sees_32 : decode cX9_sees 32 = .ok (.invokevirtual 215, 3) := by decide +kernel
theorem dX9_sees_35 : decode cX9_sees 35 = .ok (.iload_n 1, 1) := by decide +kernel
theorem dX9_sees_36 : decode cX9_sees 36 = .ok (.iload_n 2, 1) := by decide +kernel
theorem dX9_sees_37 : decode cX9_sees 37 = .ok (.invokevirtual 302, 3) := by decide +kernel
theorem dX9_sees_40 : decode cX9_sees 40 = .ok (.ifCond .eq 7, 3) := by decide +kernel
theorem dX9_sees_43 : decode cX9_sees 43 = .ok (.iconst 1, 1) := by decide +kernel
theorem dX9_sees_44 : decode cX9_sees 44 = .ok (.goto 4, 3) := by decide +kernel
theorem dX9_sees_47 : decode cX9_sees 47 = .ok (.iconst 0, 1) := by decide +kernel
theorem dX9_sees_48 : decode cX9_sees 48 = .ok (.ireturn, 1) := by decide +kernel
theorem dX9_told_0 : decode cX9_told 0 = .ok (.aload_n 0, 1) := by decide +kernel
theorem dX9_told_1 : decode cX9_told 1 = .ok (.getfield 10, 3) := by decide +kernel
theorem dX9_told_4 : decode cX9_told 4 = .ok (.iload_n 1, 1) := by decide +kernel
theorem dX9_told_5 : decode cX9_told 5 = .ok (.invokevirtual 200, 3) := by decide +kernel
theorem dX9_told_8 : decode cX9_told 8 = .ok (.ifCond .eq 14, 3) := by decide +kernel
theorem dX9_told_11 : decode cX9_told 11 = .ok (.aload_n 0, 1) := by decide +kernel
theorem dX9_told_12 : decode cX9_told 12 = .ok (.getfield 10, 3) := by decide +kernel
theorem dX9_told_15 : decode cX9_told 15 = .ok (.iload_n 2, 1) := by decide +kernel
theorem dX9_told_16 : decode cX9_told 16 = .ok (.invokevirtual 116, 3) := by decide +kernel
theorem dX9_told_19 : decode cX9_told 19 = .ok (.ifCond .ne 5, 3) := by decide +kernel
theorem dX9_told_22 : decode cX9_told 22 = .ok (.iconst (-1), 1) := by decide +kernel
theorem dX9_told_23 : decode cX9_told 23 = .ok (.ireturn, 1) := by decide +kernel
theorem dX9_told_24 : decode cX9_told 24 = .ok (.aload_n 0, 1) := by decide +kernel
theorem dX9_told_25 : decode cX9_told 25 = .ok (.getfield 30, 3) := by decide +kernel
theorem dX9_told_28 : decode cX9_told 28 = .ok (.aload_n 0, 1) := by decide +kernel
theorem dX9_told_29 : decode cX9_told 29 = .ok (.getfield 98, 3) := by decide +kernel
theorem dX9_told_32 : decode cX9_told 32 = .ok (.invokevirtual 215, 3) := by decide +kernel
theorem dX9_told_35 : decode cX9_told 35 = .ok (.iload_n 1, 1) := by decide +kernel
theorem dX9_told_36 : decode cX9_told 36 = .ok (.iload_n 2, 1) := by decide +kernel
theorem dX9_told_37 : decode cX9_told 37 = .ok (.invokevirtual 305, 3) := by decide +kernel
theorem dX9_told_40 : decode cX9_told 40 = .ok (.ireturn, 1) := by decide +kernel
theorem dX9_letter_0 : decode cX9_letter 0 = .ok (.aload_n 0, 1) := by decide +kernel
theorem dX9_letter_1 : decode cX9_letter 1 = .ok (.getfield 10, 3) := by decide +kernel
theorem dX9_letter_4 : decode cX9_letter 4 = .ok (.iload_n 1, 1) := by decide +kernel
theorem dX9_letter_5 : decode cX9_letter 5 = .ok (.invokevirtual 200, 3) := by decide +kernel
theorem dX9_letter_8 : decode cX9_letter 8 = .ok (.ifCond .eq 11, 3) := by decide +kernel
theorem dX9_letter_11 : decode cX9_letter 11 = .ok (.aload_n 0, 1) := by decide +kernel
theorem dX9_letter_12 : decode cX9_letter 12 = .ok (.iload_n 2, 1) := by decide +kernel
theorem dX9_letter_13 : decode cX9_letter 13 = .ok (.invokevirtual 308, 3) := by decide +kernel
theorem dX9_letter_16 : decode cX9_letter 16 = .ok (.ifCond .ne 5, 3) := by decide +kernel
theorem dX9_letter_19 : decode cX9_letter 19 = .ok (.iconst (-1), 1) := by decide +kernel
theorem dX9_letter_20 : decode cX9_letter 20 = .ok (.ireturn, 1) := by decide +kernel
theorem dX9_letter_21 : decode cX9_letter 21 = .ok (.aload_n 0, 1) := by decide +kernel
theorem dX9_letter_22 : decode cX9_letter 22 = .ok (.getfield 30, 3) := by decide +kernel
theorem dX9_letter_25 : decode cX9_letter 25 = .ok (.iload_n 2, 1) := by decide +kernel
theorem dX9_letter_26 : decode cX9_letter 26 = .ok (.invokevirtual 215, 3) := by decide +kernel
theorem dX9_letter_29 : decode cX9_letter 29 = .ok (.iload_n 1, 1) := by decide +kernel
theorem dX9_letter_30 : decode cX9_letter 30 = .ok (.invokevirtual 311, 3) := by decide +kernel
theorem dX9_letter_33 : decode cX9_letter 33 = .ok (.ireturn, 1) := by decide +kernel
theorem dX9_digest_0 : decode cX9_digest 0 = .ok (.aload_n 0, 1) := by decide +kernel
theorem dX9_digest_1 : decode cX9_digest 1 = .ok (.iload_n 1, 1) := by decide +kernel
theorem dX9_digest_2 : decode cX9_digest 2 = .ok (.invokevirtual 308, 3) := by decide +kernel
theorem dX9_digest_5 : decode cX9_digest 5 = .ok (.ifCond .eq 17, 3) := by decide +kernel
theorem dX9_digest_8 : decode cX9_digest 8 = .ok (.aload_n 0, 1) := by decide +kernel
theorem dX9_digest_9 : decode cX9_digest 9 = .ok (.getfield 30, 3) := by decide +kernel
theorem dX9_digest_12 : decode cX9_digest 12 = .ok (.iload_n 1, 1) := by decide +kernel
theorem dX9_digest_13 : decode cX9_digest 13 = .ok (.invokevirtual 215, 3) := by decide +kernel
theorem dX9_digest_16 : decode cX9_digest 16 = .ok (.invokevirtual 314, 3) := by decide +kernel
theorem dX9_digest_19 : decode cX9_digest 19 = .ok (.goto 4, 3) := by decide +kernel
theorem dX9_digest_22 : decode cX9_digest 22 = .ok (.iconst (-1), 1) := by decide +kernel
theorem dX9_digest_23 : decode cX9_digest 23 = .ok (.ireturn, 1) := by decide +kernel
theorem dX9_remembers_0 : decode cX9_remembers 0 = .ok (.iload_n 1, 1) := by decide +kernel
theorem dX9_remembers_1 : decode cX9_remembers 1 = .ok (.ifCond .lt 26, 3) := by decide +kernel
theorem dX9_remembers_4 : decode cX9_remembers 4 = .ok (.iload_n 1, 1) := by decide +kernel
theorem dX9_remembers_5 : decode cX9_remembers 5 = .ok (.aload_n 0, 1) := by decide +kernel
theorem dX9_remembers_6 : decode cX9_remembers 6 = .ok (.getfield 98, 3) := by decide +kernel
theorem dX9_remembers_9 : decode cX9_remembers 9 = .ok (.if_icmp .gt 18, 3) := by decide +kernel
theorem dX9_remembers_12 : decode cX9_remembers 12 = .ok (.iload_n 1, 1) := by decide +kernel
theorem dX9_remembers_13 : decode cX9_remembers 13 = .ok (.aload_n 0, 1) := by decide +kernel
theorem dX9_remembers_14 : decode cX9_remembers 14 = .ok (.getfield 98, 3) := by decide +kernel
theorem dX9_remembers_17 : decode cX9_remembers 17 = .ok (.bipush 8, 2) := by decide +kernel
theorem dX9_remembers_19 : decode cX9_remembers 19 = .ok (.isub, 1) := by decide +kernel
theorem dX9_remembers_20 : decode cX9_remembers 20 = .ok (.if_icmp .lt 7, 3) := by decide +kernel
theorem dX9_remembers_23 : decode cX9_remembers 23 = .ok (.iconst 1, 1) := by decide +kernel
theorem dX9_remembers_24 : decode cX9_remembers 24 = .ok (.goto 4, 3) := by decide +kernel
theorem dX9_remembers_27 : decode cX9_remembers 27 = .ok (.iconst 0, 1) := by decide +kernel
theorem dX9_remembers_28 : decode cX9_remembers 28 = .ok (.ireturn, 1) := by decide +kernel
theorem dX9_replay_0 : decode cX9_replay 0 = .ok (.iload_n 1, 1) := by decide +kernel
theorem dX9_replay_1 : decode cX9_replay 1 = .ok (.ifCond .lt 11, 3) := by decide +kernel
theorem dX9_replay_4 : decode cX9_replay 4 = .ok (.iload_n 1, 1) := by decide +kernel
theorem dX9_replay_5 : decode cX9_replay 5 = .ok (.aload_n 0, 1) := by decide +kernel
theorem dX9_replay_6 : decode cX9_replay 6 = .ok (.getfield 98, 3) := by decide +kernel
theorem dX9_replay_9 : decode cX9_replay 9 = .ok (.if_icmp .le 5, 3) := by decide +kernel
theorem dX9_replay_12 : decode cX9_replay 12 = .ok (.iconst (-1), 1) := by decide +kernel
theorem dX9_replay_13 : decode cX9_replay 13 = .ok (.ireturn, 1) := by decide +kernel
theorem dX9_replay_14 : decode cX9_replay 14 = .ok (.aload_n 0, 1) := by decide +kernel
theorem dX9_replay_15 : decode cX9_replay 15 = .ok (.getfield 34, 3) := by decide +kernel
theorem dX9_replay_18 : decode cX9_replay 18 = .ok (.aload_n 0, 1) := by decide +kernel
theorem dX9_replay_19 : decode cX9_replay 19 = .ok (.getfield 21, 3) := by decide +kernel
theorem dX9_replay_22 : decode cX9_replay 22 = .ok (.invokevirtual 83, 3) := by decide +kernel
theorem dX9_replay_25 : decode cX9_replay 25 = .ok (.aload_n 0, 1) := by decide +kernel
theorem dX9_replay_26 : decode cX9_replay 26 = .ok (.getfield 34, 3) := by decide +kernel
theorem dX9_replay_29 : decode cX9_replay 29 = .ok (.iconst 0, 1) := by decide +kernel
theorem dX9_replay_30 : decode cX9_replay 30 = .ok (.iload_n 1, 1) := by decide +kernel
theorem dX9_replay_31 : decode cX9_replay 31 = .ok (.aload_n 0, 1) := by decide +kernel
theorem dX9_replay_32 : decode cX9_replay 32 = .ok (.getfield 40, 3) := by decide +kernel
theorem dX9_replay_35 : decode cX9_replay 35 = .ok (.invokevirtual 193, 3) := by decide +kernel
theorem dX9_replay_38 : decode cX9_replay 38 = .ok (.aload_n 0, 1) := by decide +kernel
theorem dX9_replay_39 : decode cX9_replay 39 = .ok (.getfield 34, 3) := by decide +kernel
theorem dX9_replay_42 : decode cX9_replay 42 = .ok (.iload_n 1, 1) := by decide +kernel
theorem dX9_replay_43 : decode cX9_replay 43 = .ok (.invokevirtual 215, 3) := by decide +kernel
theorem dX9_replay_46 : decode cX9_replay 46 = .ok (.invokevirtual 314, 3) := by decide +kernel
theorem dX9_replay_49 : decode cX9_replay 49 = .ok (.ireturn, 1) := by decide +kernel
theorem dX9_fall_0 : decode cX9_fall 0 = .ok (.aload_n 0, 1) := by decide +kernel
theorem dX9_fall_1 : decode cX9_fall 1 = .ok (.getfield 30, 3) := by decide +kernel
theorem dX9_fall_4 : decode cX9_fall 4 = .ok (.aload_n 0, 1) := by decide +kernel
theorem dX9_fall_5 : decode cX9_fall 5 = .ok (.getfield 98, 3) := by decide +kernel
theorem dX9_fall_8 : decode cX9_fall 8 = .ok (.invokevirtual 215, 3) := by decide +kernel
theorem dX9_fall_11 : decode cX9_fall 11 = .ok (.invokevirtual 314, 3) := by decide +kernel
theorem dX9_fall_14 : decode cX9_fall 14 = .ok (.istore_n 1, 1) := by decide +kernel
theorem dX9_fall_15 : decode cX9_fall 15 = .ok (.aload_n 0, 1) := by decide +kernel
theorem dX9_fall_16 : decode cX9_fall 16 = .ok (.getfield 30, 3) := by decide +kernel
theorem dX9_fall_19 : decode cX9_fall 19 = .ok (.aload_n 0, 1) := by decide +kernel
theorem dX9_fall_20 : decode cX9_fall 20 = .ok (.getfield 21, 3) := by decide +kernel
theorem dX9_fall_23 : decode cX9_fall 23 = .ok (.invokevirtual 83, 3) := by decide +kernel
theorem dX9_fall_26 : decode cX9_fall 26 = .ok (.aload_n 0, 1) := by decide +kernel
theorem dX9_fall_27 : decode cX9_fall 27 = .ok (.getfield 30, 3) := by decide +kernel
theorem dX9_fall_30 : decode cX9_fall 30 = .ok (.iconst 0, 1) := by decide +kernel
theorem dX9_fall_31 : decode cX9_fall 31 = .ok (.aload_n 0, 1) := by decide +kernel
theorem dX9_fall_32 : decode cX9_fall 32 = .ok (.getfield 98, 3) := by decide +kernel
theorem dX9_fall_35 : decode cX9_fall 35 = .ok (.aload_n 0, 1) := by decide +kernel
theorem dX9_fall_36 : decode cX9_fall 36 = .ok (.getfield 40, 3) := by decide +kernel
theorem dX9_fall_39 : decode cX9_fall 39 = .ok (.invokevirtual 193, 3) := by decide +kernel
theorem dX9_fall_42 : decode cX9_fall 42 = .ok (.aload_n 0, 1) := by decide +kernel
theorem dX9_fall_43 : decode cX9_fall 43 = .ok (.getfield 30, 3) := by decide +kernel
theorem dX9_fall_46 : decode cX9_fall 46 = .ok (.aload_n 0, 1) := by decide +kernel
theorem dX9_fall_47 : decode cX9_fall 47 = .ok (.getfield 98, 3) := by decide +kernel
theorem dX9_fall_50 : decode cX9_fall 50 = .ok (.invokevirtual 215, 3) := by decide +kernel
theorem dX9_fall_53 : decode cX9_fall 53 = .ok (.invokevirtual 314, 3) := by decide +kernel
theorem dX9_fall_56 : decode cX9_fall 56 = .ok (.iload_n 1, 1) := by decide +kernel
theorem dX9_fall_57 : decode cX9_fall 57 = .ok (.if_icmp .ne 7, 3) := by decide +kernel
theorem dX9_fall_60 : decode cX9_fall 60 = .ok (.iconst 1, 1) := by decide +kernel
theorem dX9_fall_61 : decode cX9_fall 61 = .ok (.goto 4, 3) := by decide +kernel
theorem dX9_fall_64 : decode cX9_fall 64 = .ok (.iconst 0, 1) := by decide +kernel
theorem dX9_fall_65 : decode cX9_fall 65 = .ok (.ireturn, 1) := by decide +kernel
theorem dX9_act_0 : decode cX9_act 0 = .ok (.iload_n 1, 1) := by decide +kernel
theorem dX9_act_1 : decode cX9_act 1 = .ok (.ifCond .lt 21, 3) := by decide +kernel
theorem dX9_act_4 : decode cX9_act 4 = .ok (.iload_n 1, 1) := by decide +kernel
theorem dX9_act_5 : decode cX9_act 5 = .ok (.sipush 500, 3) := by decide +kernel
theorem dX9_act_8 : decode cX9_act 8 = .ok (.if_icmp .ge 14, 3) := by decide +kernel
theorem dX9_act_11 : decode cX9_act 11 = .ok (.aload_n 0, 1) := by decide +kernel
theorem dX9_act_12 : decode cX9_act 12 = .ok (.getfield 10, 3) := by decide +kernel
theorem dX9_act_15 : decode cX9_act 15 = .ok (.iload_n 2, 1) := by decide +kernel
theorem dX9_act_16 : decode cX9_act 16 = .ok (.invokevirtual 200, 3) := by decide +kernel
theorem dX9_act_19 : decode cX9_act 19 = .ok (.ifCond .ne 5, 3) := by decide +kernel
theorem dX9_act_22 : decode cX9_act 22 = .ok (.iconst (-1), 1) := by decide +kernel
theorem dX9_act_23 : decode cX9_act 23 = .ok (.ireturn, 1) := by decide +kernel
theorem dX9_act_24 : decode cX9_act 24 = .ok (.aload_n 0, 1) := by decide +kernel
theorem dX9_act_25 : decode cX9_act 25 = .ok (.getfield 40, 3) := by decide +kernel
theorem dX9_act_28 : decode cX9_act 28 = .ok (.iload_n 1, 1) := by decide +kernel
theorem dX9_act_29 : decode cX9_act 29 = .ok (.iload_n 2, 1) := by decide +kernel
theorem dX9_act_30 : decode cX9_act 30 = .ok (.invokevirtual 213, 3) := by decide +kernel
theorem dX9_act_33 : decode cX9_act 33 = .ok (.ireturn, 1) := by decide +kernel
theorem dX9_hit_0 : decode cX9_hit 0 = .ok (.iload_n 1, 1) := by decide +kernel
theorem dX9_hit_1 : decode cX9_hit 1 = .ok (.ifCond .lt 22, 3) := by decide +kernel
theorem dX9_hit_4 : decode cX9_hit 4 = .ok (.iload_n 1, 1) := by decide +kernel
theorem dX9_hit_5 : decode cX9_hit 5 = .ok (.aload_n 0, 1) := by decide +kernel
theorem dX9_hit_6 : decode cX9_hit 6 = .ok (.getfield 98, 3) := by decide +kernel
theorem dX9_hit_9 : decode cX9_hit 9 = .ok (.if_icmp .ge 14, 3) := by decide +kernel
theorem dX9_hit_12 : decode cX9_hit 12 = .ok (.aload_n 0, 1) := by decide +kernel
theorem dX9_hit_13 : decode cX9_hit 13 = .ok (.getfield 10, 3) := by decide +kernel
theorem dX9_hit_16 : decode cX9_hit 16 = .ok (.iload_n 2, 1) := by decide +kernel
theorem dX9_hit_17 : decode cX9_hit 17 = .ok (.invokevirtual 200, 3) := by decide +kernel
theorem dX9_hit_20 : decode cX9_hit 20 = .ok (.ifCond .ne 5, 3) := by decide +kernel
theorem dX9_hit_23 : decode cX9_hit 23 = .ok (.iconst (-1), 1) := by decide +kernel
theorem dX9_hit_24 : decode cX9_hit 24 = .ok (.ireturn, 1) := by decide +kernel
theorem dX9_hit_25 : decode cX9_hit 25 = .ok (.aload_n 0, 1) := by decide +kernel
theorem dX9_hit_26 : decode cX9_hit 26 = .ok (.getfield 40, 3) := by decide +kernel
theorem dX9_hit_29 : decode cX9_hit 29 = .ok (.iload_n 1, 1) := by decide +kernel
theorem dX9_hit_30 : decode cX9_hit 30 = .ok (.iload_n 2, 1) := by decide +kernel
theorem dX9_hit_31 : decode cX9_hit 31 = .ok (.invokevirtual 239, 3) := by decide +kernel
theorem dX9_hit_34 : decode cX9_hit 34 = .ok (.ireturn, 1) := by decide +kernel
theorem dX9_taken_0 : decode cX9_taken 0 = .ok (.iload_n 1, 1) := by decide +kernel
theorem dX9_taken_1 : decode cX9_taken 1 = .ok (.ifCond .lt 23, 3) := by decide +kernel
theorem dX9_taken_4 : decode cX9_taken 4 = .ok (.iload_n 1, 1) := by decide +kernel
theorem dX9_taken_5 : decode cX9_taken 5 = .ok (.aload_n 0, 1) := by decide +kernel
theorem dX9_taken_6 : decode cX9_taken 6 = .ok (.getfield 47, 3) := by decide +kernel
theorem dX9_taken_9 : decode cX9_taken 9 = .ok (.invokevirtual 318, 3) := by decide +kernel
theorem dX9_taken_12 : decode cX9_taken 12 = .ok (.if_icmp .ge 12, 3) := by decide +kernel
theorem dX9_taken_15 : decode cX9_taken 15 = .ok (.iload_n 2, 1) := by decide +kernel
theorem dX9_taken_16 : decode cX9_taken 16 = .ok (.ifCond .lt 8, 3) := by decide +kernel
theorem dX9_taken_19 : decode cX9_taken 19 = .ok (.iload_n 2, 1) := by decide +kernel
theorem dX9_taken_20 : decode cX9_taken 20 = .ok (.iconst 3, 1) := by decide +kernel
theorem dX9_taken_21 : decode cX9_taken 21 = .ok (.if_icmp .le 5, 3) := by decide +kernel
theorem dX9_taken_24 : decode cX9_taken 24 = .ok (.iconst (-1), 1) := by decide +kernel
theorem dX9_taken_25 : decode cX9_taken 25 = .ok (.ireturn, 1) := by decide +kernel
theorem dX9_taken_26 : decode cX9_taken 26 = .ok (.aload_n 0, 1) := by decide +kernel
theorem dX9_taken_27 : decode cX9_taken 27 = .ok (.getfield 47, 3) := by decide +kernel
theorem dX9_taken_30 : decode cX9_taken 30 = .ok (.getfield 321, 3) := by decide +kernel
theorem dX9_taken_33 : decode cX9_taken 33 = .ok (.iload_n 1, 1) := by decide +kernel
theorem dX9_taken_34 : decode cX9_taken 34 = .ok (.iconst 4, 1) := by decide +kernel
theorem dX9_taken_35 : decode cX9_taken 35 = .ok (.imul, 1) := by decide +kernel
theorem dX9_taken_36 : decode cX9_taken 36 = .ok (.iload_n 2, 1) := by decide +kernel
theorem dX9_taken_37 : decode cX9_taken 37 = .ok (.iadd, 1) := by decide +kernel
theorem dX9_taken_38 : decode cX9_taken 38 = .ok (.iaload, 1) := by decide +kernel
theorem dX9_taken_39 : decode cX9_taken 39 = .ok (.ireturn, 1) := by decide +kernel
theorem dX9_back_0 : decode cX9_back 0 = .ok (.iload_n 1, 1) := by decide +kernel
theorem dX9_back_1 : decode cX9_back 1 = .ok (.tableswitch 63 0 3 #[31, 39, 47, 55], 31) := by decide +kernel
theorem dX9_back_32 : decode cX9_back 32 = .ok (.aload_n 0, 1) := by decide +kernel
theorem dX9_back_33 : decode cX9_back 33 = .ok (.getfield 47, 3) := by decide +kernel
theorem dX9_back_36 : decode cX9_back 36 = .ok (.getfield 324, 3) := by decide +kernel
theorem dX9_back_39 : decode cX9_back 39 = .ok (.ireturn, 1) := by decide +kernel
theorem dX9_back_40 : decode cX9_back 40 = .ok (.aload_n 0, 1) := by decide +kernel
theorem dX9_back_41 : decode cX9_back 41 = .ok (.getfield 47, 3) := by decide +kernel
theorem dX9_back_44 : decode cX9_back 44 = .ok (.getfield 327, 3) := by decide +kernel
theorem dX9_back_47 : decode cX9_back 47 = .ok (.ireturn, 1) := by decide +kernel
theorem dX9_back_48 : decode cX9_back 48 = .ok (.aload_n 0, 1) := by decide +kernel
theorem dX9_back_49 : decode cX9_back 49 = .ok (.getfield 47, 3) := by decide +kernel
theorem dX9_back_52 : decode cX9_back 52 = .ok (.getfield 330, 3) := by decide +kernel
theorem dX9_back_55 : decode cX9_back 55 = .ok (.ireturn, 1) := by decide +kernel
theorem dX9_back_56 : decode cX9_back 56 = .ok (.aload_n 0, 1) := by decide +kernel
theorem dX9_back_57 : decode cX9_back 57 = .ok (.getfield 47, 3) := by decide +kernel
theorem dX9_back_60 : decode cX9_back 60 = .ok (.getfield 333, 3) := by decide +kernel
theorem dX9_back_63 : decode cX9_back 63 = .ok (.ireturn, 1) := by decide +kernel
theorem dX9_back_64 : decode cX9_back 64 = .ok (.iconst (-1), 1) := by decide +kernel
theorem dX9_back_65 : decode cX9_back 65 = .ok (.ireturn, 1) := by decide +kernel
theorem dX9_watch_0 : decode cX9_watch 0 = .ok (.aload_n 0, 1) := by decide +kernel
theorem dX9_watch_1 : decode cX9_watch 1 = .ok (.getfield 10, 3) := by decide +kernel
theorem dX9_watch_4 : decode cX9_watch 4 = .ok (.iload_n 1, 1) := by decide +kernel
theorem dX9_watch_5 : decode cX9_watch 5 = .ok (.invokevirtual 200, 3) := by decide +kernel
theorem dX9_watch_8 : decode cX9_watch 8 = .ok (.ifCond .eq 12, 3) := by decide +kernel
theorem dX9_watch_11 : decode cX9_watch 11 = .ok (.iload_n 2, 1) := by decide +kernel
theorem dX9_watch_12 : decode cX9_watch 12 = .ok (.ifCond .lt 8, 3) := by decide +kernel
theorem dX9_watch_15 : decode cX9_watch 15 = .ok (.iload_n 2, 1) := by decide +kernel
theorem dX9_watch_16 : decode cX9_watch 16 = .ok (.iconst 1, 1) := by decide +kernel
theorem dX9_watch_17 : decode cX9_watch 17 = .ok (.if_icmp .le 5, 3) := by decide +kernel
theorem dX9_watch_20 : decode cX9_watch 20 = .ok (.iconst (-1), 1) := by decide +kernel
theorem dX9_watch_21 : decode cX9_watch 21 = .ok (.ireturn, 1) := by decide +kernel
theorem dX9_watch_22 : decode cX9_watch 22 = .ok (.iload_n 2, 1) := by decide +kernel
theorem dX9_watch_23 : decode cX9_watch 23 = .ok (.ifCond .ne 15, 3) := by decide +kernel
theorem dX9_watch_26 : decode cX9_watch 26 = .ok (.aload_n 0, 1) := by decide +kernel
theorem dX9_watch_27 : decode cX9_watch 27 = .ok (.getfield 53, 3) := by decide +kernel
theorem dX9_watch_30 : decode cX9_watch 30 = .ok (.iload_n 1, 1) := by decide +kernel
theorem dX9_watch_31 : decode cX9_watch 31 = .ok (.aaload, 1) := by decide +kernel
theorem dX9_watch_32 : decode cX9_watch 32 = .ok (.getfield 249, 3) := by decide +kernel
theorem dX9_watch_35 : decode cX9_watch 35 = .ok (.goto 12, 3) := by decide +kernel
theorem dX9_watch_38 : decode cX9_watch 38 = .ok (.aload_n 0, 1) := by decide +kernel
theorem dX9_watch_39 : decode cX9_watch 39 = .ok (.getfield 53, 3) := by decide +kernel
theorem dX9_watch_42 : decode cX9_watch 42 = .ok (.iload_n 1, 1) := by decide +kernel
theorem dX9_watch_43 : decode cX9_watch 43 = .ok (.aaload, 1) := by decide +kernel
theorem dX9_watch_44 : decode cX9_watch 44 = .ok (.getfield 336, 3) := by decide +kernel
theorem dX9_watch_47 : decode cX9_watch 47 = .ok (.astore 4, 2) := by decide +kernel
theorem dX9_watch_49 : decode cX9_watch 49 = .ok (.iload_n 3, 1) := by decide +kernel
theorem dX9_watch_50 : decode cX9_watch 50 = .ok (.tableswitch 54 0 3 #[30, 36, 42, 48], 30) := by decide +kernel
theorem dX9_watch_80 : decode cX9_watch 80 = .ok (.aload 4, 2) := by decide +kernel
theorem dX9_watch_82 : decode cX9_watch 82 = .ok (.getfield 339, 3) := by decide +kernel
theorem dX9_watch_85 : decode cX9_watch 85 = .ok (.ireturn, 1) := by decide +kernel
theorem dX9_watch_86 : decode cX9_watch 86 = .ok (.aload 4, 2) := by decide +kernel
theorem dX9_watch_88 : decode cX9_watch 88 = .ok (.getfield 342, 3) := by decide +kernel
theorem dX9_watch_91 : decode cX9_watch 91 = .ok (.ireturn, 1) := by decide +kernel
theorem dX9_watch_92 : decode cX9_watch 92 = .ok (.aload 4, 2) := by decide +kernel
theorem dX9_watch_94 : decode cX9_watch 94 = .ok (.invokevirtual 345, 3) := by decide +kernel
theorem dX9_watch_97 : decode cX9_watch 97 = .ok (.ireturn, 1) := by decide +kernel
theorem dX9_watch_98 : decode cX9_watch 98 = .ok (.aload 4, 2) := by decide +kernel
theorem dX9_watch_100 : decode cX9_watch 100 = .ok (.getfield 348, 3) := by decide +kernel
theorem dX9_watch_103 : decode cX9_watch 103 = .ok (.ireturn, 1) := by decide +kernel
theorem dX9_watch_104 : decode cX9_watch 104 = .ok (.iconst (-1), 1) := by decide +kernel
theorem dX9_watch_105 : decode cX9_watch 105 = .ok (.ireturn, 1) := by decide +kernel
theorem dX9_fair_0 : decode cX9_fair 0 = .ok (.aload_n 0, 1) := by decide +kernel
theorem dX9_fair_1 : decode cX9_fair 1 = .ok (.getfield 10, 3) := by decide +kernel
theorem dX9_fair_4 : decode cX9_fair 4 = .ok (.iload_n 1, 1) := by decide +kernel
theorem dX9_fair_5 : decode cX9_fair 5 = .ok (.invokevirtual 200, 3) := by decide +kernel
theorem dX9_fair_8 : decode cX9_fair 8 = .ok (.ifCond .eq 12, 3) := by decide +kernel
theorem dX9_fair_11 : decode cX9_fair 11 = .ok (.iload_n 2, 1) := by decide +kernel
theorem dX9_fair_12 : decode cX9_fair 12 = .ok (.ifCond .lt 8, 3) := by decide +kernel
theorem dX9_fair_15 : decode cX9_fair 15 = .ok (.iload_n 2, 1) := by decide +kernel
theorem dX9_fair_16 : decode cX9_fair 16 = .ok (.iconst 1, 1) := by decide +kernel
theorem dX9_fair_17 : decode cX9_fair 17 = .ok (.if_icmp .le 5, 3) := by decide +kernel
theorem dX9_fair_20 : decode cX9_fair 20 = .ok (.iconst (-1), 1) := by decide +kernel
theorem dX9_fair_21 : decode cX9_fair 21 = .ok (.ireturn, 1) := by decide +kernel
theorem dX9_fair_22 : decode cX9_fair 22 = .ok (.iload_n 2, 1) := by decide +kernel
theorem dX9_fair_23 : decode cX9_fair 23 = .ok (.iconst 1, 1) := by decide +kernel
theorem dX9_fair_24 : decode cX9_fair 24 = .ok (.if_icmp .ne 15, 3) := by decide +kernel
theorem dX9_fair_27 : decode cX9_fair 27 = .ok (.aload_n 0, 1) := by decide +kernel
theorem dX9_fair_28 : decode cX9_fair 28 = .ok (.getfield 53, 3) := by decide +kernel
theorem dX9_fair_31 : decode cX9_fair 31 = .ok (.iload_n 1, 1) := by decide +kernel
theorem dX9_fair_32 : decode cX9_fair 32 = .ok (.aaload, 1) := by decide +kernel
theorem dX9_fair_33 : decode cX9_fair 33 = .ok (.getfield 351, 3) := by decide +kernel
theorem dX9_fair_36 : decode cX9_fair 36 = .ok (.goto 12, 3) := by decide +kernel
theorem dX9_fair_39 : decode cX9_fair 39 = .ok (.aload_n 0, 1) := by decide +kernel
theorem dX9_fair_40 : decode cX9_fair 40 = .ok (.getfield 53, 3) := by decide +kernel
theorem dX9_fair_43 : decode cX9_fair 43 = .ok (.iload_n 1, 1) := by decide +kernel
theorem dX9_fair_44 : decode cX9_fair 44 = .ok (.aaload, 1) := by decide +kernel
theorem dX9_fair_45 : decode cX9_fair 45 = .ok (.getfield 354, 3) := by decide +kernel
theorem dX9_fair_48 : decode cX9_fair 48 = .ok (.ireturn, 1) := by decide +kernel
theorem dX9_count_0 : decode cX9_count 0 = .ok (.iload_n 1, 1) := by decide +kernel
theorem dX9_count_1 : decode cX9_count 1 = .ok (.tableswitch 129 0 10 #[59, 67, 75, 83, 91, 99, 104, 109, 114, 119, 124], 59) := by decide +kernel
theorem dX9_count_60 : decode cX9_count 60 = .ok (.aload_n 0, 1) := by decide +kernel
theorem dX9_count_61 : decode cX9_count 61 = .ok (.getfield 10, 3) := by decide +kernel
theorem dX9_count_64 : decode cX9_count 64 = .ok (.getfield 357, 3) := by decide +kernel
theorem dX9_count_67 : decode cX9_count 67 = .ok (.ireturn, 1) := by decide +kernel
theorem dX9_count_68 : decode cX9_count 68 = .ok (.aload_n 0, 1) := by decide +kernel
theorem dX9_count_69 : decode cX9_count 69 = .ok (.getfield 10, 3) := by decide +kernel
theorem dX9_count_72 : decode cX9_count 72 = .ok (.getfield 360, 3) := by decide +kernel
theorem dX9_count_75 : decode cX9_count 75 = .ok (.ireturn, 1) := by decide +kernel
theorem dX9_count_76 : decode cX9_count 76 = .ok (.aload_n 0, 1) := by decide +kernel
theorem dX9_count_77 : decode cX9_count 77 = .ok (.getfield 10, 3) := by decide +kernel
theorem dX9_count_80 : decode cX9_count 80 = .ok (.getfield 226, 3) := by decide +kernel
theorem dX9_count_83 : decode cX9_count 83 = .ok (.ireturn, 1) := by decide +kernel
theorem dX9_count_84 : decode cX9_count 84 = .ok (.aload_n 0, 1) := by decide +kernel
theorem dX9_count_85 : decode cX9_count 85 = .ok (.getfield 10, 3) := by decide +kernel
theorem dX9_count_88 : decode cX9_count 88 = .ok (.getfield 150, 3) := by decide +kernel
theorem dX9_count_91 : decode cX9_count 91 = .ok (.ireturn, 1) := by decide +kernel
theorem dX9_count_92 : decode cX9_count 92 = .ok (.aload_n 0, 1) := by decide +kernel
theorem dX9_count_93 : decode cX9_count 93 = .ok (.getfield 10, 3) := by decide +kernel
theorem dX9_count_96 : decode cX9_count 96 = .ok (.getfield 130, 3) := by decide +kernel
theorem dX9_count_99 : decode cX9_count 99 = .ok (.ireturn, 1) := by decide +kernel
theorem dX9_count_100 : decode cX9_count 100 = .ok (.aload_n 0, 1) := by decide +kernel
theorem dX9_count_101 : decode cX9_count 101 = .ok (.getfield 98, 3) := by decide +kernel
theorem dX9_count_104 : decode cX9_count 104 = .ok (.ireturn, 1) := by decide +kernel
theorem dX9_count_105 : decode cX9_count 105 = .ok (.aload_n 0, 1) := by decide +kernel
theorem dX9_count_106 : decode cX9_count 106 = .ok (.getfield 101, 3) := by decide +kernel
theorem dX9_count_109 : decode cX9_count 109 = .ok (.ireturn, 1) := by decide +kernel
theorem dX9_count_110 : decode cX9_count 110 = .ok (.aload_n 0, 1) := by decide +kernel
theorem dX9_count_111 : decode cX9_count 111 = .ok (.getfield 104, 3) := by decide +kernel
theorem dX9_count_114 : decode cX9_count 114 = .ok (.ireturn, 1) := by decide +kernel
theorem dX9_count_115 : decode cX9_count 115 = .ok (.aload_n 0, 1) := by decide +kernel
theorem dX9_count_116 : decode cX9_count 116 = .ok (.getfield 107, 3) := by decide +kernel
theorem dX9_count_119 : decode cX9_count 119 = .ok (.ireturn, 1) := by decide +kernel
theorem dX9_count_120 : decode cX9_count 120 = .ok (.aload_n 0, 1) := by decide +kernel
theorem dX9_count_121 : decode cX9_count 121 = .ok (.getfield 110, 3) := by decide +kernel
theorem dX9_count_124 : decode cX9_count 124 = .ok (.ireturn, 1) := by decide +kernel
theorem dX9_count_125 : decode cX9_count 125 = .ok (.aload_n 0, 1) := by decide +kernel
theorem dX9_count_126 : decode cX9_count 126 = .ok (.getfield 113, 3) := by decide +kernel
theorem dX9_count_129 : decode cX9_count 129 = .ok (.ireturn, 1) := by decide +kernel
theorem dX9_count_130 : decode cX9_count 130 = .ok (.iconst (-1), 1) := by decide +kernel
theorem dX9_count_131 : decode cX9_count 131 = .ok (.ireturn, 1) := by decide +kernel
theorem dX9_isTape_0 : decode cX9_isTape 0 = .ok (.iload_n 0, 1) := by decide +kernel
theorem dX9_isTape_1 : decode cX9_isTape 1 = .ok (.ifCond .lt 13, 3) := by decide +kernel
theorem dX9_isTape_4 : decode cX9_isTape 4 = .ok (.iload_n 0, 1) := by decide +kernel
theorem dX9_isTape_5 : decode cX9_isTape 5 = .ok (.bipush 6, 2) := by decide +kernel
theorem dX9_isTape_7 : decode cX9_isTape 7 = .ok (.if_icmp .ge 7, 3) := by decide +kernel
theorem dX9_isTape_10 : decode cX9_isTape 10 = .ok (.iconst 1, 1) := by decide +kernel
theorem dX9_isTape_11 : decode cX9_isTape 11 = .ok (.goto 4, 3) := by decide +kernel
theorem dX9_isTape_14 : decode cX9_isTape 14 = .ok (.iconst 0, 1) := by decide +kernel
theorem dX9_isTape_15 : decode cX9_isTape 15 = .ok (.ireturn, 1) := by decide +kernel
theorem dX9_refuse_0 : decode cX9_refuse 0 = .ok (.aload_n 0, 1) := by decide +kernel
theorem dX9_refuse_1 : decode cX9_refuse 1 = .ok (.dup, 1) := by decide +kernel
theorem dX9_refuse_2 : decode cX9_refuse 2 = .ok (.getfield 113, 3) := by decide +kernel
theorem dX9_refuse_5 : decode cX9_refuse 5 = .ok (.iconst 1, 1) := by decide +kernel
theorem dX9_refuse_6 : decode cX9_refuse 6 = .ok (.iadd, 1) := by decide +kernel
theorem dX9_refuse_7 : decode cX9_refuse 7 = .ok (.putfield 113, 3) := by decide +kernel
theorem dX9_refuse_10 : decode cX9_refuse 10 = .ok (.iload_n 1, 1) := by decide +kernel
theorem dX9_refuse_11 : decode cX9_refuse 11 = .ok (.ireturn, 1) := by decide +kernel
theorem dX9_refuseBut_0 : decode cX9_refuseBut 0 = .ok (.iload_n 1, 1) := by decide +kernel
theorem dX9_refuseBut_1 : decode cX9_refuseBut 1 = .ok (.invokestatic 363, 3) := by decide +kernel
theorem dX9_refuseBut_4 : decode cX9_refuseBut 4 = .ok (.ifCond .ne 5, 3) := by decide +kernel
theorem dX9_refuseBut_7 : decode cX9_refuseBut 7 = .ok (.iconst (-1), 1) := by decide +kernel
theorem dX9_refuseBut_8 : decode cX9_refuseBut 8 = .ok (.ireturn, 1) := by decide +kernel
theorem dX9_refuseBut_9 : decode cX9_refuseBut 9 = .ok (.aload_n 0, 1) := by decide +kernel
theorem dX9_refuseBut_10 : decode cX9_refuseBut 10 = .ok (.getfield 60, 3) := by decide +kernel
theorem dX9_refuseBut_13 : decode cX9_refuseBut 13 = .ok (.iload_n 1, 1) := by decide +kernel
theorem dX9_refuseBut_14 : decode cX9_refuseBut 14 = .ok (.aaload, 1) := by decide +kernel
theorem dX9_refuseBut_15 : decode cX9_refuseBut 15 = .ok (.getfield 366, 3) := by decide +kernel
theorem dX9_refuseBut_18 : decode cX9_refuseBut 18 = .ok (.ifCond .ne 10, 3) := by decide +kernel
theorem dX9_refuseBut_21 : decode cX9_refuseBut 21 = .ok (.aload_n 0, 1) := by decide +kernel
theorem dX9_refuseBut_22 : decode cX9_refuseBut 22 = .ok (.bipush (-11), 2) := by decide +kernel
theorem dX9_refuseBut_24 : decode cX9_refuseBut 24 = .ok (.invokevirtual 369, 3) := by decide +kernel
theorem dX9_refuseBut_27 : decode cX9_refuseBut 27 = .ok (.ireturn, 1) := by decide +kernel
theorem dX9_refuseBut_28 : decode cX9_refuseBut 28 = .ok (.aload_n 0, 1) := by decide +kernel
theorem dX9_refuseBut_29 : decode cX9_refuseBut 29 = .ok (.getfield 60, 3) := by decide +kernel
theorem dX9_refuseBut_32 : decode cX9_refuseBut 32 = .ok (.iload_n 1, 1) := by decide +kernel
theorem dX9_refuseBut_33 : decode cX9_refuseBut 33 = .ok (.aaload, 1) := by decide +kernel
theorem dX9_refuseBut_34 : decode cX9_refuseBut 34 = .ok (.getfield 366, 3) := by decide +kernel
theorem dX9_refuseBut_37 : decode cX9_refuseBut 37 = .ok (.iload_n 2, 1) := by decide +kernel
theorem dX9_refuseBut_38 : decode cX9_refuseBut 38 = .ok (.if_icmp .lt 16, 3) := by decide +kernel
theorem dX9_refuseBut_41 : decode cX9_refuseBut 41 = .ok (.aload_n 0, 1) := by decide +kernel
theorem dX9_refuseBut_42 : decode cX9_refuseBut 42 = .ok (.getfield 60, 3) := by decide +kernel
theorem dX9_refuseBut_45 : decode cX9_refuseBut 45 = .ok (.iload_n 1, 1) := by decide +kernel
theorem dX9_refuseBut_46 : decode cX9_refuseBut 46 = .ok (.aaload, 1) := by decide +kernel
theorem dX9_refuseBut_47 : decode cX9_refuseBut 47 = .ok (.getfield 366, 3) := by decide +kernel
theorem dX9_refuseBut_50 : decode cX9_refuseBut 50 = .ok (.iload_n 3, 1) := by decide +kernel
theorem dX9_refuseBut_51 : decode cX9_refuseBut 51 = .ok (.if_icmp .le 12, 3) := by decide +kernel
theorem dX9_refuseBut_54 : decode cX9_refuseBut 54 = .ok (.aload_n 0, 1) := by decide +kernel
theorem dX9_refuseBut_55 : decode cX9_refuseBut 55 = .ok (.bipush (-12), 2) := by decide +kernel
theorem dX9_refuseBut_57 : decode cX9_refuseBut 57 = .ok (.invokevirtual 369, 3) := by decide +kernel
theorem dX9_refuseBut_60 : decode cX9_refuseBut 60 = .ok (.goto 4, 3) := by decide +kernel
theorem dX9_refuseBut_63 : decode cX9_refuseBut 63 = .ok (.iconst 0, 1) := by decide +kernel
theorem dX9_refuseBut_64 : decode cX9_refuseBut 64 = .ok (.ireturn, 1) := by decide +kernel
theorem dX9_tape_0 : decode cX9_tape 0 = .ok (.iload_n 1, 1) := by decide +kernel
theorem dX9_tape_1 : decode cX9_tape 1 = .ok (.invokestatic 363, 3) := by decide +kernel
theorem dX9_tape_4 : decode cX9_tape 4 = .ok (.ifCond .eq 19, 3) := by decide +kernel
theorem dX9_tape_7 : decode cX9_tape 7 = .ok (.iload_n 2, 1) := by decide +kernel
theorem dX9_tape_8 : decode cX9_tape 8 = .ok (.iconst 1, 1) := by decide +kernel
theorem dX9_tape_9 : decode cX9_tape 9 = .ok (.if_icmp .lt 14, 3) := by decide +kernel
theorem dX9_tape_12 : decode cX9_tape 12 = .ok (.iload_n 2, 1) := by decide +kernel
theorem dX9_tape_13 : decode cX9_tape 13 = .ok (.iconst 4, 1) := by decide +kernel
theorem dX9_tape_14 : decode cX9_tape 14 = .ok (.if_icmp .gt 9, 3) := by decide +kernel
theorem dX9_tape_17 : decode cX9_tape 17 = .ok (.iload_n 3, 1) := by decide +kernel
theorem dX9_tape_18 : decode cX9_tape 18 = .ok (.bipush 80, 2) := by decide +kernel
theorem dX9_tape_20 : decode cX9_tape 20 = .ok (.if_icmp .le 5, 3) := by decide +kernel
theorem dX9_tape_23 : decode cX9_tape 23 = .ok (.iconst (-1), 1) := by decide +kernel
theorem dX9_tape_24 : decode cX9_tape 24 = .ok (.ireturn, 1) := by decide +kernel
theorem dX9_tape_25 : decode cX9_tape 25 = .ok (.iload_n 3, 1) := by decide +kernel
theorem dX9_tape_26 : decode cX9_tape 26 = .ok (.ifCond .ge 10, 3) := by decide +kernel
theorem dX9_tape_29 : decode cX9_tape 29 = .ok (.aload_n 0, 1) := by decide +kernel
theorem dX9_tape_30 : decode cX9_tape 30 = .ok (.bipush (-14), 2) := by decide +kernel
theorem dX9_tape_32 : decode cX9_tape 32 = .ok (.invokevirtual 369, 3) := by decide +kernel
theorem dX9_tape_35 : decode cX9_tape 35 = .ok (.ireturn, 1) := by decide +kernel
theorem dX9_tape_36 : decode cX9_tape 36 = .ok (.aload_n 0, 1) := by decide +kernel
theorem dX9_tape_37 : decode cX9_tape 37 = .ok (.getfield 60, 3) := by decide +kernel
theorem dX9_tape_40 : decode cX9_tape 40 = .ok (.iload_n 1, 1) := by decide +kernel
theorem dX9_tape_41 : decode cX9_tape 41 = .ok (.aaload, 1) := by decide +kernel
theorem dX9_tape_42 : decode cX9_tape 42 = .ok (.iload_n 2, 1) := by decide +kernel
theorem dX9_tape_43 : decode cX9_tape 43 = .ok (.iload_n 3, 1) := by decide +kernel
theorem dX9_tape_44 : decode cX9_tape 44 = .ok (.invokevirtual 372, 3) := by decide +kernel
theorem dX9_tape_47 : decode cX9_tape 47 = .ok (.iload_n 3, 1) := by decide +kernel
theorem dX9_tape_48 : decode cX9_tape 48 = .ok (.ireturn, 1) := by decide +kernel
theorem dX9_view_0 : decode cX9_view 0 = .ok (.iload_n 1, 1) := by decide +kernel
theorem dX9_view_1 : decode cX9_view 1 = .ok (.invokestatic 363, 3) := by decide +kernel
theorem dX9_view_4 : decode cX9_view 4 = .ok (.ifCond .eq 14, 3) := by decide +kernel
theorem dX9_view_7 : decode cX9_view 7 = .ok (.aload_n 0, 1) := by decide +kernel
theorem dX9_view_8 : decode cX9_view 8 = .ok (.getfield 10, 3) := by decide +kernel
theorem dX9_view_11 : decode cX9_view 11 = .ok (.iload_n 2, 1) := by decide +kernel
theorem dX9_view_12 : decode cX9_view 12 = .ok (.invokevirtual 200, 3) := by decide +kernel
theorem dX9_view_15 : decode cX9_view 15 = .ok (.ifCond .ne 5, 3) := by decide +kernel
theorem dX9_view_18 : decode cX9_view 18 = .ok (.iconst (-1), 1) := by decide +kernel
theorem dX9_view_19 : decode cX9_view 19 = .ok (.ireturn, 1) := by decide +kernel
theorem dX9_view_20 : decode cX9_view 20 = .ok (.aload_n 0, 1) := by decide +kernel
theorem dX9_view_21 : decode cX9_view 21 = .ok (.getfield 60, 3) := by decide +kernel
theorem dX9_view_24 : decode cX9_view 24 = .ok (.iload_n 1, 1) := by decide +kernel
theorem dX9_view_25 : decode cX9_view 25 = .ok (.aaload, 1) := by decide +kernel
theorem dX9_view_26 : decode cX9_view 26 = .ok (.aload_n 0, 1) := by decide +kernel
theorem dX9_view_27 : decode cX9_view 27 = .ok (.getfield 30, 3) := by decide +kernel
theorem dX9_view_30 : decode cX9_view 30 = .ok (.aload_n 0, 1) := by decide +kernel
theorem dX9_view_31 : decode cX9_view 31 = .ok (.getfield 98, 3) := by decide +kernel
theorem dX9_view_34 : decode cX9_view 34 = .ok (.invokevirtual 215, 3) := by decide +kernel
theorem dX9_view_37 : decode cX9_view 37 = .ok (.iload_n 2, 1) := by decide +kernel
theorem dX9_view_38 : decode cX9_view 38 = .ok (.invokevirtual 375, 3) := by decide +kernel
theorem dX9_view_41 : decode cX9_view 41 = .ok (.aload_n 0, 1) := by decide +kernel
theorem dX9_view_42 : decode cX9_view 42 = .ok (.getfield 60, 3) := by decide +kernel
theorem dX9_view_45 : decode cX9_view 45 = .ok (.iload_n 1, 1) := by decide +kernel
theorem dX9_view_46 : decode cX9_view 46 = .ok (.aaload, 1) := by decide +kernel
theorem dX9_view_47 : decode cX9_view 47 = .ok (.getfield 379, 3) := by decide +kernel
theorem dX9_view_50 : decode cX9_view 50 = .ok (.ireturn, 1) := by decide +kernel
theorem dX9_clear_0 : decode cX9_clear 0 = .ok (.iload_n 1, 1) := by decide +kernel
theorem dX9_clear_1 : decode cX9_clear 1 = .ok (.invokestatic 363, 3) := by decide +kernel
theorem dX9_clear_4 : decode cX9_clear 4 = .ok (.ifCond .ne 5, 3) := by decide +kernel
theorem dX9_clear_7 : decode cX9_clear 7 = .ok (.iconst (-1), 1) := by decide +kernel
theorem dX9_clear_8 : decode cX9_clear 8 = .ok (.ireturn, 1) := by decide +kernel
theorem dX9_clear_9 : decode cX9_clear 9 = .ok (.aload_n 0, 1) := by decide +kernel
theorem dX9_clear_10 : decode cX9_clear 10 = .ok (.getfield 60, 3) := by decide +kernel
theorem dX9_clear_13 : decode cX9_clear 13 = .ok (.iload_n 1, 1) := by decide +kernel
theorem dX9_clear_14 : decode cX9_clear 14 = .ok (.aaload, 1) := by decide +kernel
theorem dX9_clear_15 : decode cX9_clear 15 = .ok (.getfield 366, 3) := by decide +kernel
theorem dX9_clear_18 : decode cX9_clear 18 = .ok (.istore_n 2, 1) := by decide +kernel
theorem dX9_clear_19 : decode cX9_clear 19 = .ok (.aload_n 0, 1) := by decide +kernel
theorem dX9_clear_20 : decode cX9_clear 20 = .ok (.getfield 60, 3) := by decide +kernel
theorem dX9_clear_23 : decode cX9_clear 23 = .ok (.iload_n 1, 1) := by decide +kernel
theorem dX9_clear_24 : decode cX9_clear 24 = .ok (.aaload, 1) := by decide +kernel
theorem dX9_clear_25 : decode cX9_clear 25 = .ok (.iconst 0, 1) := by decide +kernel
theorem dX9_clear_26 : decode cX9_clear 26 = .ok (.putfield 366, 3) := by decide +kernel
theorem dX9_clear_29 : decode cX9_clear 29 = .ok (.iload_n 2, 1) := by decide +kernel
theorem dX9_clear_30 : decode cX9_clear 30 = .ok (.ireturn, 1) := by decide +kernel
theorem dX9_put_0 : decode cX9_put 0 = .ok (.aload_n 0, 1) := by decide +kernel
theorem dX9_put_1 : decode cX9_put 1 = .ok (.iload_n 1, 1) := by decide +kernel
theorem dX9_put_2 : decode cX9_put 2 = .ok (.iconst 1, 1) := by decide +kernel
theorem dX9_put_3 : decode cX9_put 3 = .ok (.iconst 4, 1) := by decide +kernel
theorem dX9_put_4 : decode cX9_put 4 = .ok (.invokevirtual 382, 3) := by decide +kernel
theorem dX9_put_7 : decode cX9_put 7 = .ok (.istore 5, 2) := by decide +kernel
theorem dX9_put_9 : decode cX9_put 9 = .ok (.iload 5, 2) := by decide +kernel
theorem dX9_put_11 : decode cX9_put 11 = .ok (.ifCond .ge 6, 3) := by decide +kernel
theorem dX9_put_14 : decode cX9_put 14 = .ok (.iload 5, 2) := by decide +kernel
theorem dX9_put_16 : decode cX9_put 16 = .ok (.ireturn, 1) := by decide +kernel
theorem dX9_put_17 : decode cX9_put 17 = .ok (.aload_n 0, 1) := by decide +kernel
theorem dX9_put_18 : decode cX9_put 18 = .ok (.getfield 60, 3) := by decide +kernel
theorem dX9_put_21 : decode cX9_put 21 = .ok (.iload_n 1, 1) := by decide +kernel
theorem dX9_put_22 : decode cX9_put 22 = .ok (.aaload, 1) := by decide +kernel
theorem dX9_put_23 : decode cX9_put 23 = .ok (.astore 6, 2) := by decide +kernel
theorem dX9_put_25 : decode cX9_put 25 = .ok (.aload 6, 2) := by decide +kernel
theorem dX9_put_27 : decode cX9_put 27 = .ok (.iload_n 2, 1) := by decide +kernel
theorem dX9_put_28 : decode cX9_put 28 = .ok (.invokevirtual 386, 3) := by decide +kernel
theorem dX9_put_31 : decode cX9_put 31 = .ok (.ifCond .ne 10, 3) := by decide +kernel
theorem dX9_put_34 : decode cX9_put 34 = .ok (.aload_n 0, 1) := by decide +kernel
theorem dX9_put_35 : decode cX9_put 35 = .ok (.bipush (-13), 2) := by decide +kernel
theorem dX9_put_37 : decode cX9_put 37 = .ok (.invokevirtual 369, 3) := by decide +kernel
theorem dX9_put_40 : decode cX9_put 40 = .ok (.ireturn, 1) := by decide +kernel
theorem dX9_put_41 : decode cX9_put 41 = .ok (.aload 6, 2) := by decide +kernel
theorem dX9_put_43 : decode cX9_put 43 = .ok (.getfield 389, 3) := by decide +kernel
theorem dX9_put_46 : decode cX9_put 46 = .ok (.iload_n 2, 1) := by decide +kernel
theorem dX9_put_47 : decode cX9_put 47 = .ok (.aload 6, 2) := by decide +kernel
theorem dX9_put_49 : decode cX9_put 49 = .ok (.lload_n 3, 1) := by decide +kernel
theorem dX9_put_50 : decode cX9_put 50 = .ok (.invokevirtual 393, 3) := by decide +kernel
theorem dX9_put_53 : decode cX9_put 53 = .ok (.lastore, 1) := by decide +kernel
theorem dX9_put_54 : decode cX9_put 54 = .ok (.iconst 1, 1) := by decide +kernel
theorem dX9_put_55 : decode cX9_put 55 = .ok (.ireturn, 1) := by decide +kernel
theorem dX9_at_0 : decode cX9_at 0 = .ok (.iload_n 1, 1) := by decide +kernel
theorem dX9_at_1 : decode cX9_at 1 = .ok (.invokestatic 363, 3) := by decide +kernel
theorem dX9_at_4 : decode cX9_at 4 = .ok (.ifCond .ne 14, 3) := by decide +kernel
theorem dX9_at_7 : decode cX9_at 7 = .ok (.new 397, 3) := by decide +kernel
theorem dX9_at_10 : decode cX9_at 10 = .ok (.dup, 1) := by decide +kernel
theorem dX9_at_11 : decode cX9_at 11 = .ok (.ldc_w 399, 3) := by decide +kernel
theorem dX9_at_14 : decode cX9_at 14 = .ok (.invokespecial 401, 3) := by decide +kernel
theorem dX9_at_17 : decode cX9_at 17 = .ok (.athrow, 1) := by decide +kernel
theorem dX9_at_18 : decode cX9_at 18 = .ok (.aload_n 0, 1) := by decide +kernel
theorem dX9_at_19 : decode cX9_at 19 = .ok (.getfield 60, 3) := by decide +kernel
theorem dX9_at_22 : decode cX9_at 22 = .ok (.iload_n 1, 1) := by decide +kernel
theorem dX9_at_23 : decode cX9_at 23 = .ok (.aaload, 1) := by decide +kernel
theorem dX9_at_24 : decode cX9_at 24 = .ok (.astore_n 3, 1) := by decide +kernel
theorem dX9_at_25 : decode cX9_at 25 = .ok (.aload_n 3, 1) := by decide +kernel
theorem dX9_at_26 : decode cX9_at 26 = .ok (.invokevirtual 404, 3) := by decide +kernel
theorem dX9_at_29 : decode cX9_at 29 = .ok (.ifCond .eq 11, 3) := by decide +kernel
theorem dX9_at_32 : decode cX9_at 32 = .ok (.aload_n 3, 1) := by decide +kernel
theorem dX9_at_33 : decode cX9_at 33 = .ok (.iload_n 2, 1) := by decide +kernel
theorem dX9_at_34 : decode cX9_at 34 = .ok (.invokevirtual 386, 3) := by decide +kernel
theorem dX9_at_37 : decode cX9_at 37 = .ok (.ifCond .ne 14, 3) := by decide +kernel
theorem dX9_at_40 : decode cX9_at 40 = .ok (.new 407, 3) := by decide +kernel
theorem dX9_at_43 : decode cX9_at 43 = .ok (.dup, 1) := by decide +kernel
theorem dX9_at_44 : decode cX9_at 44 = .ok (.ldc_w 409, 3) := by decide +kernel
theorem dX9_at_47 : decode cX9_at 47 = .ok (.invokespecial 411, 3) := by decide +kernel
theorem dX9_at_50 : decode cX9_at 50 = .ok (.athrow, 1) := by decide +kernel
theorem dX9_at_51 : decode cX9_at 51 = .ok (.aload_n 3, 1) := by decide +kernel
theorem dX9_at_52 : decode cX9_at 52 = .ok (.getfield 389, 3) := by decide +kernel
theorem dX9_at_55 : decode cX9_at 55 = .ok (.iload_n 2, 1) := by decide +kernel
theorem dX9_at_56 : decode cX9_at 56 = .ok (.laload, 1) := by decide +kernel
theorem dX9_at_57 : decode cX9_at 57 = .ok (.lreturn, 1) := by decide +kernel
theorem dX9_copy_0 : decode cX9_copy 0 = .ok (.iload_n 1, 1) := by decide +kernel
theorem dX9_copy_1 : decode cX9_copy 1 = .ok (.invokestatic 363, 3) := by decide +kernel
theorem dX9_copy_4 : decode cX9_copy 4 = .ok (.ifCond .eq 10, 3) := by decide +kernel
theorem dX9_copy_7 : decode cX9_copy 7 = .ok (.iload_n 3, 1) := by decide +kernel
theorem dX9_copy_8 : decode cX9_copy 8 = .ok (.invokestatic 363, 3) := by decide +kernel
theorem dX9_copy_11 : decode cX9_copy 11 = .ok (.ifCond .ne 5, 3) := by decide +kernel
theorem dX9_copy_14 : decode cX9_copy 14 = .ok (.iconst (-1), 1) := by decide +kernel
theorem dX9_copy_15 : decode cX9_copy 15 = .ok (.ireturn, 1) := by decide +kernel
theorem dX9_copy_16 : decode cX9_copy 16 = .ok (.aload_n 0, 1) := by decide +kernel
theorem dX9_copy_17 : decode cX9_copy 17 = .ok (.getfield 60, 3) := by decide +kernel
theorem dX9_copy_20 : decode cX9_copy 20 = .ok (.iload_n 1, 1) := by decide +kernel
theorem dX9_copy_21 : decode cX9_copy 21 = .ok (.aaload, 1) := by decide +kernel
theorem dX9_copy_22 : decode cX9_copy 22 = .ok (.astore 6, 2) := by decide +kernel
theorem dX9_copy_24 : decode cX9_copy 24 = .ok (.aload_n 0, 1) := by decide +kernel
theorem dX9_copy_25 : decode cX9_copy 25 = .ok (.getfield 60, 3) := by decide +kernel
theorem dX9_copy_28 : decode cX9_copy 28 = .ok (.iload_n 3, 1) := by decide +kernel
theorem dX9_copy_29 : decode cX9_copy 29 = .ok (.aaload, 1) := by decide +kernel
theorem dX9_copy_30 : decode cX9_copy 30 = .ok (.astore 7, 2) := by decide +kernel
theorem dX9_copy_32 : decode cX9_copy 32 = .ok (.aload 6, 2) := by decide +kernel
theorem dX9_copy_34 : decode cX9_copy 34 = .ok (.getfield 366, 3) := by decide +kernel
theorem dX9_copy_37 : decode cX9_copy 37 = .ok (.ifCond .eq 11, 3) := by decide +kernel
theorem dX9_copy_40 : decode cX9_copy 40 = .ok (.aload 7, 2) := by decide +kernel
theorem dX9_copy_42 : decode cX9_copy 42 = .ok (.getfield 366, 3) := by decide +kernel
theorem dX9_copy_45 : decode cX9_copy 45 = .ok (.ifCond .ne 10, 3) := by decide +kernel
theorem dX9_copy_48 : decode cX9_copy 48 = .ok (.aload_n 0, 1) := by decide +kernel
theorem dX9_copy_49 : decode cX9_copy 49 = .ok (.bipush (-11), 2) := by decide +kernel
theorem dX9_copy_51 : decode cX9_copy 51 = .ok (.invokevirtual 369, 3) := by decide +kernel
theorem dX9_copy_54 : decode cX9_copy 54 = .ok (.ireturn, 1) := by decide +kernel
theorem dX9_copy_55 : decode cX9_copy 55 = .ok (.aload 6, 2) := by decide +kernel
theorem dX9_copy_57 : decode cX9_copy 57 = .ok (.invokevirtual 404, 3) := by decide +kernel
theorem dX9_copy_60 : decode cX9_copy 60 = .ok (.ifCond .eq 16, 3) := by decide +kernel
theorem dX9_copy_63 : decode cX9_copy 63 = .ok (.aload 6, 2) := by decide +kernel
theorem dX9_copy_65 : decode cX9_copy 65 = .ok (.getfield 366, 3) := by decide +kernel
theorem dX9_copy_68 : decode cX9_copy 68 = .ok (.aload 7, 2) := by decide +kernel
theorem dX9_copy_70 : decode cX9_copy 70 = .ok (.getfield 366, 3) := by decide +kernel
theorem dX9_copy_73 : decode cX9_copy 73 = .ok (.if_icmp .eq 10, 3) := by decide +kernel
theorem dX9_copy_76 : decode cX9_copy 76 = .ok (.aload_n 0, 1) := by decide +kernel
theorem dX9_copy_77 : decode cX9_copy 77 = .ok (.bipush (-12), 2) := by decide +kernel
theorem dX9_copy_79 : decode cX9_copy 79 = .ok (.invokevirtual 369, 3) := by decide +kernel
theorem dX9_copy_82 : decode cX9_copy 82 = .ok (.ireturn, 1) := by decide +kernel
theorem dX9_copy_83 : decode cX9_copy 83 = .ok (.aload 6, 2) := by decide +kernel
theorem dX9_copy_85 : decode cX9_copy 85 = .ok (.iload_n 2, 1) := by decide +kernel
theorem dX9_copy_86 : decode cX9_copy 86 = .ok (.iload 5, 2) := by decide +kernel
theorem dX9_copy_88 : decode cX9_copy 88 = .ok (.invokevirtual 412, 3) := by decide +kernel
theorem dX9_copy_91 : decode cX9_copy 91 = .ok (.ifCond .eq 15, 3) := by decide +kernel
theorem dX9_copy_94 : decode cX9_copy 94 = .ok (.aload 7, 2) := by decide +kernel
theorem dX9_copy_96 : decode cX9_copy 96 = .ok (.iload 4, 2) := by decide +kernel
theorem dX9_copy_98 : decode cX9_copy 98 = .ok (.iload 5, 2) := by decide +kernel
theorem dX9_copy_100 : decode cX9_copy 100 = .ok (.invokevirtual 412, 3) := by decide +kernel
theorem dX9_copy_103 : decode cX9_copy 103 = .ok (.ifCond .ne 10, 3) := by decide +kernel
theorem dX9_copy_106 : decode cX9_copy 106 = .ok (.aload_n 0, 1) := by decide +kernel
theorem dX9_copy_107 : decode cX9_copy 107 = .ok (.bipush (-13), 2) := by decide +kernel
theorem dX9_copy_109 : decode cX9_copy 109 = .ok (.invokevirtual 369, 3) := by decide +kernel
theorem dX9_copy_112 : decode cX9_copy 112 = .ok (.ireturn, 1) := by decide +kernel
theorem dX9_copy_113 : decode cX9_copy 113 = .ok (.aload 6, 2) := by decide +kernel
theorem dX9_copy_115 : decode cX9_copy 115 = .ok (.getfield 389, 3) := by decide +kernel
theorem dX9_copy_118 : decode cX9_copy 118 = .ok (.iload_n 2, 1) := by decide +kernel
theorem dX9_copy_119 : decode cX9_copy 119 = .ok (.aload 7, 2) := by decide +kernel
theorem dX9_copy_121 : decode cX9_copy 121 = .ok (.getfield 389, 3) := by decide +kernel
theorem dX9_copy_124 : decode cX9_copy 124 = .ok (.iload 4, 2) := by decide +kernel
theorem dX9_copy_126 : decode cX9_copy 126 = .ok (.iload 5, 2) := by decide +kernel
theorem dX9_copy_128 : decode cX9_copy 128 = .ok (.invokestatic 415, 3) := by decide +kernel
theorem dX9_copy_131 : decode cX9_copy 131 = .ok (.iload 5, 2) := by decide +kernel
theorem dX9_copy_133 : decode cX9_copy 133 = .ok (.ireturn, 1) := by decide +kernel
theorem dX9_play_0 : decode cX9_play 0 = .ok (.aload_n 0, 1) := by decide +kernel
theorem dX9_play_1 : decode cX9_play 1 = .ok (.getfield 10, 3) := by decide +kernel
theorem dX9_play_4 : decode cX9_play 4 = .ok (.iload 4, 2) := by decide +kernel
theorem dX9_play_6 : decode cX9_play 6 = .ok (.invokevirtual 200, 3) := by decide +kernel
theorem dX9_play_9 : decode cX9_play 9 = .ok (.ifCond .eq 13, 3) := by decide +kernel
theorem dX9_play_12 : decode cX9_play 12 = .ok (.iload_n 3, 1) := by decide +kernel
theorem dX9_play_13 : decode cX9_play 13 = .ok (.ifCond .lt 9, 3) := by decide +kernel
theorem dX9_play_16 : decode cX9_play 16 = .ok (.iload_n 3, 1) := by decide +kernel
theorem dX9_play_17 : decode cX9_play 17 = .ok (.bipush 80, 2) := by decide +kernel
theorem dX9_play_19 : decode cX9_play 19 = .ok (.if_icmp .le 5, 3) := by decide +kernel
theorem dX9_play_22 : decode cX9_play 22 = .ok (.iconst (-1), 1) := by decide +kernel
theorem dX9_play_23 : decode cX9_play 23 = .ok (.ireturn, 1) := by decide +kernel
theorem dX9_play_24 : decode cX9_play 24 = .ok (.aload_n 0, 1) := by decide +kernel
theorem dX9_play_25 : decode cX9_play 25 = .ok (.iload_n 1, 1) := by decide +kernel
theorem dX9_play_26 : decode cX9_play 26 = .ok (.iconst 4, 1) := by decide +kernel
theorem dX9_play_27 : decode cX9_play 27 = .ok (.iconst 4, 1) := by decide +kernel
theorem dX9_play_28 : decode cX9_play 28 = .ok (.invokevirtual 382, 3) := by decide +kernel
theorem dX9_play_31 : decode cX9_play 31 = .ok (.istore 5, 2) := by decide +kernel
theorem dX9_play_33 : decode cX9_play 33 = .ok (.iload 5, 2) := by decide +kernel
theorem dX9_play_35 : decode cX9_play 35 = .ok (.ifCond .ge 6, 3) := by decide +kernel
theorem dX9_play_38 : decode cX9_play 38 = .ok (.iload 5, 2) := by decide +kernel
theorem dX9_play_40 : decode cX9_play 40 = .ok (.ireturn, 1) := by decide +kernel
theorem dX9_play_41 : decode cX9_play 41 = .ok (.aload_n 0, 1) := by decide +kernel
theorem dX9_play_42 : decode cX9_play 42 = .ok (.getfield 60, 3) := by decide +kernel
theorem dX9_play_45 : decode cX9_play 45 = .ok (.iload_n 1, 1) := by decide +kernel
theorem dX9_play_46 : decode cX9_play 46 = .ok (.aaload, 1) := by decide +kernel
theorem dX9_play_47 : decode cX9_play 47 = .ok (.astore 6, 2) := by decide +kernel
theorem dX9_play_49 : decode cX9_play 49 = .ok (.iconst 0, 1) := by decide +kernel
theorem dX9_play_50 : decode cX9_play 50 = .ok (.istore 7, 2) := by decide +kernel
theorem dX9_play_52 : decode cX9_play 52 = .ok (.iload 7, 2) := by decide +kernel
theorem dX9_play_54 : decode cX9_play 54 = .ok (.iload_n 3, 1) := by decide +kernel
theorem dX9_play_55 : decode cX9_play 55 = .ok (.if_icmp .ge 52, 3) := by decide +kernel
theorem dX9_play_58 : decode cX9_play 58 = .ok (.iload_n 2, 1) := by decide +kernel
theorem dX9_play_59 : decode cX9_play 59 = .ok (.iload 7, 2) := by decide +kernel
theorem dX9_play_61 : decode cX9_play 61 = .ok (.iadd, 1) := by decide +kernel
theorem dX9_play_62 : decode cX9_play 62 = .ok (.istore 8, 2) := by decide +kernel
theorem dX9_play_64 : decode cX9_play 64 = .ok (.aload 6, 2) := by decide +kernel
theorem dX9_play_66 : decode cX9_play 66 = .ok (.iload 8, 2) := by decide +kernel
theorem dX9_play_68 : decode cX9_play 68 = .ok (.invokevirtual 386, 3) := by decide +kernel
theorem dX9_play_71 : decode cX9_play 71 = .ok (.ifCond .ne 10, 3) := by decide +kernel
theorem dX9_play_74 : decode cX9_play 74 = .ok (.aload_n 0, 1) := by decide +kernel
theorem dX9_play_75 : decode cX9_play 75 = .ok (.bipush (-13), 2) := by decide +kernel
theorem dX9_play_77 : decode cX9_play 77 = .ok (.invokevirtual 369, 3) := by decide +kernel
theorem dX9_play_80 : decode cX9_play 80 = .ok (.ireturn, 1) := by decide +kernel
theorem dX9_play_81 : decode cX9_play 81 = .ok (.aload_n 0, 1) := by decide +kernel
