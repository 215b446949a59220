theorem dX0_join_0 : decode cX0_join 0 = .ok (.iload_n 0, 1) := by decide +kernel
theorem dX0_join_1 : decode cX0_join 1 = .ok (.i2l, 1) := by decide +kernel
theorem dX0_join_2 : decode cX0_join 2 = .ok (.iload_n 1, 1) := by decide +kernel
theorem dX0_join_3 : decode cX0_join 3 = .ok (.i2l, 1) := by decide +kernel
theorem dX0_join_4 : decode cX0_join 4 = .ok (.bipush 26, 2) := by decide +kernel
theorem dX0_join_6 : decode cX0_join 6 = .ok (.lshl, 1) := by decide +kernel
theorem dX0_join_7 : decode cX0_join 7 = .ok (.lor, 1) := by decide +kernel
theorem dX0_join_8 : decode cX0_join 8 = .ok (.iload_n 2, 1) := by decide +kernel
theorem dX0_join_9 : decode cX0_join 9 = .ok (.i2l, 1) := by decide +kernel
theorem dX0_join_10 : decode cX0_join 10 = .ok (.bipush 34, 2) := by decide +kernel
theorem dX0_join_12 : decode cX0_join 12 = .ok (.lshl, 1) := by decide +kernel
theorem dX0_join_13 : decode cX0_join 13 = .ok (.lor, 1) := by decide +kernel
theorem dX0_join_14 : decode cX0_join 14 = .ok (.lreturn, 1) := by decide +kernel
theorem dX0_sumOf_0 : decode cX0_sumOf 0 = .ok (.iload_n 0, 1) := by decide +kernel
theorem dX0_sumOf_1 : decode cX0_sumOf 1 = .ok (.iconst 3, 1) := by decide +kernel
theorem dX0_sumOf_2 : decode cX0_sumOf 2 = .ok (.iload_n 1, 1) := by decide +kernel
theorem dX0_sumOf_3 : decode cX0_sumOf 3 = .ok (.imul, 1) := by decide +kernel
theorem dX0_sumOf_4 : decode cX0_sumOf 4 = .ok (.iadd, 1) := by decide +kernel
theorem dX0_sumOf_5 : decode cX0_sumOf 5 = .ok (.iconst 5, 1) := by decide +kernel
theorem dX0_sumOf_6 : decode cX0_sumOf 6 = .ok (.iload_n 2, 1) := by decide +kernel
theorem dX0_sumOf_7 : decode cX0_sumOf 7 = .ok (.imul, 1) := by decide +kernel
theorem dX0_sumOf_8 : decode cX0_sumOf 8 = .ok (.iadd, 1) := by decide +kernel
theorem dX0_sumOf_9 : decode cX0_sumOf 9 = .ok (.bipush 7, 2) := by decide +kernel
theorem dX0_sumOf_11 : decode cX0_sumOf 11 = .ok (.iload_n 3, 1) := by decide +kernel
theorem dX0_sumOf_12 : decode cX0_sumOf 12 = .ok (.imul, 1) := by decide +kernel
theorem dX0_sumOf_13 : decode cX0_sumOf 13 = .ok (.iadd, 1) := by decide +kernel
theorem dX0_sumOf_14 : decode cX0_sumOf 14 = .ok (.bipush 11, 2) := by decide +kernel
theorem dX0_sumOf_16 : decode cX0_sumOf 16 = .ok (.iload 4, 2) := by decide +kernel
theorem dX0_sumOf_18 : decode cX0_sumOf 18 = .ok (.imul, 1) := by decide +kernel
theorem dX0_sumOf_19 : decode cX0_sumOf 19 = .ok (.iadd, 1) := by decide +kernel
theorem dX0_sumOf_20 : decode cX0_sumOf 20 = .ok (.sipush 255, 3) := by decide +kernel
theorem dX0_sumOf_23 : decode cX0_sumOf 23 = .ok (.iand, 1) := by decide +kernel
theorem dX0_sumOf_24 : decode cX0_sumOf 24 = .ok (.ireturn, 1) := by decide +kernel
theorem dX0_codeOf_0 : decode cX0_codeOf 0 = .ok (.lload_n 0, 1) := by decide +kernel
theorem dX0_codeOf_1 : decode cX0_codeOf 1 = .ok (.ldc2_w 9, 3) := by decide +kernel
theorem dX0_codeOf_4 : decode cX0_codeOf 4 = .ok (.land, 1) := by decide +kernel
theorem dX0_codeOf_5 : decode cX0_codeOf 5 = .ok (.l2i, 1) := by decide +kernel
theorem dX0_codeOf_6 : decode cX0_codeOf 6 = .ok (.ireturn, 1) := by decide +kernel
theorem dX0_kindOf_0 : decode cX0_kindOf 0 = .ok (.iload_n 0, 1) := by decide +kernel
theorem dX0_kindOf_1 : decode cX0_kindOf 1 = .ok (.bipush 15, 2) := by decide +kernel
theorem dX0_kindOf_3 : decode cX0_kindOf 3 = .ok (.iand, 1) := by decide +kernel
theorem dX0_kindOf_4 : decode cX0_kindOf 4 = .ok (.ireturn, 1) := by decide +kernel
theorem dX0_directionOf_0 : decode cX0_directionOf 0 = .ok (.iload_n 0, 1) := by decide +kernel
theorem dX0_directionOf_1 : decode cX0_directionOf 1 = .ok (.iconst 4, 1) := by decide +kernel
theorem dX0_directionOf_2 : decode cX0_directionOf 2 = .ok (.ishr, 1) := by decide +kernel
theorem dX0_directionOf_3 : decode cX0_directionOf 3 = .ok (.iconst 3, 1) := by decide +kernel
theorem dX0_directionOf_4 : decode cX0_directionOf 4 = .ok (.iand, 1) := by decide +kernel
theorem dX0_directionOf_5 : decode cX0_directionOf 5 = .ok (.ireturn, 1) := by decide +kernel
theorem dX0_wordOf_0 : decode cX0_wordOf 0 = .ok (.iload_n 0, 1) := by decide +kernel
theorem dX0_wordOf_1 : decode cX0_wordOf 1 = .ok (.bipush 6, 2) := by decide +kernel
theorem dX0_wordOf_3 : decode cX0_wordOf 3 = .ok (.ishr, 1) := by decide +kernel
theorem dX0_wordOf_4 : decode cX0_wordOf 4 = .ok (.bipush 15, 2) := by decide +kernel
theorem dX0_wordOf_6 : decode cX0_wordOf 6 = .ok (.iand, 1) := by decide +kernel
theorem dX0_wordOf_7 : decode cX0_wordOf 7 = .ok (.ireturn, 1) := by decide +kernel
theorem dX0_tickOf_0 : decode cX0_tickOf 0 = .ok (.lload_n 0, 1) := by decide +kernel
theorem dX0_tickOf_1 : decode cX0_tickOf 1 = .ok (.bipush 10, 2) := by decide +kernel
theorem dX0_tickOf_3 : decode cX0_tickOf 3 = .ok (.lshr, 1) := by decide +kernel
theorem dX0_tickOf_4 : decode cX0_tickOf 4 = .ok (.ldc2_w 11, 3) := by decide +kernel
theorem dX0_tickOf_7 : decode cX0_tickOf 7 = .ok (.land, 1) := by decide +kernel
theorem dX0_tickOf_8 : decode cX0_tickOf 8 = .ok (.l2i, 1) := by decide +kernel
theorem dX0_tickOf_9 : decode cX0_tickOf 9 = .ok (.ireturn, 1) := by decide +kernel
theorem dX0_seqOf_0 : decode cX0_seqOf 0 = .ok (.lload_n 0, 1) := by decide +kernel
theorem dX0_seqOf_1 : decode cX0_seqOf 1 = .ok (.bipush 26, 2) := by decide +kernel
theorem dX0_seqOf_3 : decode cX0_seqOf 3 = .ok (.lshr, 1) := by decide +kernel
theorem dX0_seqOf_4 : decode cX0_seqOf 4 = .ok (.ldc2_w 13, 3) := by decide +kernel
theorem dX0_seqOf_7 : decode cX0_seqOf 7 = .ok (.land, 1) := by decide +kernel
theorem dX0_seqOf_8 : decode cX0_seqOf 8 = .ok (.l2i, 1) := by decide +kernel
theorem dX0_seqOf_9 : decode cX0_seqOf 9 = .ok (.ireturn, 1) := by decide +kernel
theorem dX0_areWhole_0 : decode cX0_areWhole 0 = .ok (.lload_n 0, 1) := by decide +kernel
theorem dX0_areWhole_1 : decode cX0_areWhole 1 = .ok (.invokestatic 15, 3) := by decide +kernel
theorem dX0_areWhole_4 : decode cX0_areWhole 4 = .ok (.istore_n 2, 1) := by decide +kernel
theorem dX0_areWhole_5 : decode cX0_areWhole 5 = .ok (.iload_n 2, 1) := by decide +kernel
theorem dX0_areWhole_6 : decode cX0_areWhole 6 = .ok (.invokestatic 21, 3) := by decide +kernel
theorem dX0_areWhole_9 : decode cX0_areWhole 9 = .ok (.iload_n 2, 1) := by decide +kernel
theorem dX0_areWhole_10 : decode cX0_areWhole 10 = .ok (.invokestatic 25, 3) := by decide +kernel
theorem dX0_areWhole_13 : decode cX0_areWhole 13 = .ok (.iload_n 2, 1) := by decide +kernel
theorem dX0_areWhole_14 : decode cX0_areWhole 14 = .ok (.invokestatic 28, 3) := by decide +kernel
theorem dX0_areWhole_17 : decode cX0_areWhole 17 = .ok (.lload_n 0, 1) := by decide +kernel
theorem dX0_areWhole_18 : decode cX0_areWhole 18 = .ok (.invokestatic 31, 3) := by decide +kernel
theorem dX0_areWhole_21 : decode cX0_areWhole 21 = .ok (.lload_n 0, 1) := by decide +kernel
theorem dX0_areWhole_22 : decode cX0_areWhole 22 = .ok (.invokestatic 34, 3) := by decide +kernel
theorem dX0_areWhole_25 : decode cX0_areWhole 25 = .ok (.invokestatic 37, 3) := by decide +kernel
theorem dX0_areWhole_28 : decode cX0_areWhole 28 = .ok (.istore_n 3, 1) := by decide +kernel
theorem dX0_areWhole_29 : decode cX0_areWhole 29 = .ok (.lload_n 0, 1) := by decide +kernel
theorem dX0_areWhole_30 : decode cX0_areWhole 30 = .ok (.bipush 34, 2) := by decide +kernel
theorem dX0_areWhole_32 : decode cX0_areWhole 32 = .ok (.lushr, 1) := by decide +kernel
theorem dX0_areWhole_33 : decode cX0_areWhole 33 = .ok (.iload_n 3, 1) := by decide +kernel
theorem dX0_areWhole_34 : decode cX0_areWhole 34 = .ok (.i2l, 1) := by decide +kernel
theorem dX0_areWhole_35 : decode cX0_areWhole 35 = .ok (.lcmp, 1) := by decide +kernel
theorem dX0_areWhole_36 : decode cX0_areWhole 36 = .ok (.ifCond .ne 7, 3) := by decide +kernel
theorem dX0_areWhole_39 : decode cX0_areWhole 39 = .ok (.iconst 1, 1) := by decide +kernel
theorem dX0_areWhole_40 : decode cX0_areWhole 40 = .ok (.goto 4, 3) := by decide +kernel
theorem dX0_areWhole_43 : decode cX0_areWhole 43 = .ok (.iconst 0, 1) := by decide +kernel
theorem dX0_areWhole_44 : decode cX0_areWhole 44 = .ok (.ireturn, 1) := by decide +kernel
theorem dX0_areOfAKind_0 : decode cX0_areOfAKind 0 = .ok (.lload_n 0, 1) := by decide +kernel
theorem dX0_areOfAKind_1 : decode cX0_areOfAKind 1 = .ok (.invokestatic 15, 3) := by decide +kernel
theorem dX0_areOfAKind_4 : decode cX0_areOfAKind 4 = .ok (.istore_n 2, 1) := by decide +kernel
theorem dX0_areOfAKind_5 : decode cX0_areOfAKind 5 = .ok (.iload_n 2, 1) := by decide +kernel
theorem dX0_areOfAKind_6 : decode cX0_areOfAKind 6 = .ok (.invokestatic 21, 3) := by decide +kernel
theorem dX0_areOfAKind_9 : decode cX0_areOfAKind 9 = .ok (.istore_n 3, 1) := by decide +kernel
theorem dX0_areOfAKind_10 : decode cX0_areOfAKind 10 = .ok (.iload_n 3, 1) := by decide +kernel
theorem dX0_areOfAKind_11 : decode cX0_areOfAKind 11 = .ok (.ifCond .eq 13, 3) := by decide +kernel
theorem dX0_areOfAKind_14 : decode cX0_areOfAKind 14 = .ok (.iload_n 3, 1) := by decide +kernel
theorem dX0_areOfAKind_15 : decode cX0_areOfAKind 15 = .ok (.iconst 4, 1) := by decide +kernel
theorem dX0_areOfAKind_16 : decode cX0_areOfAKind 16 = .ok (.if_icmp .eq 8, 3) := by decide +kernel
theorem dX0_areOfAKind_19 : decode cX0_areOfAKind 19 = .ok (.iload_n 3, 1) := by decide +kernel
theorem dX0_areOfAKind_20 : decode cX0_areOfAKind 20 = .ok (.iconst 5, 1) := by decide +kernel
theorem dX0_areOfAKind_21 : decode cX0_areOfAKind 21 = .ok (.if_icmp .ne 7, 3) := by decide +kernel
theorem dX0_areOfAKind_24 : decode cX0_areOfAKind 24 = .ok (.iconst 1, 1) := by decide +kernel
theorem dX0_areOfAKind_25 : decode cX0_areOfAKind 25 = .ok (.goto 4, 3) := by decide +kernel
theorem dX0_areOfAKind_28 : decode cX0_areOfAKind 28 = .ok (.iconst 0, 1) := by decide +kernel
theorem dX0_areOfAKind_29 : decode cX0_areOfAKind 29 = .ok (.istore 4, 2) := by decide +kernel
theorem dX0_areOfAKind_31 : decode cX0_areOfAKind 31 = .ok (.iload_n 3, 1) := by decide +kernel
theorem dX0_areOfAKind_32 : decode cX0_areOfAKind 32 = .ok (.bipush 6, 2) := by decide +kernel
theorem dX0_areOfAKind_34 : decode cX0_areOfAKind 34 = .ok (.if_icmp .gt 31, 3) := by decide +kernel
theorem dX0_areOfAKind_37 : decode cX0_areOfAKind 37 = .ok (.iload_n 3, 1) := by decide +kernel
theorem dX0_areOfAKind_38 : decode cX0_areOfAKind 38 = .ok (.iconst 3, 1) := by decide +kernel
theorem dX0_areOfAKind_39 : decode cX0_areOfAKind 39 = .ok (.if_icmp .eq 10, 3) := by decide +kernel
theorem dX0_areOfAKind_42 : decode cX0_areOfAKind 42 = .ok (.iload_n 2, 1) := by decide +kernel
theorem dX0_areOfAKind_43 : decode cX0_areOfAKind 43 = .ok (.invokestatic 28, 3) := by decide +kernel
theorem dX0_areOfAKind_46 : decode cX0_areOfAKind 46 = .ok (.ifCond .ne 19, 3) := by decide +kernel
theorem dX0_areOfAKind_49 : decode cX0_areOfAKind 49 = .ok (.iload 4, 2) := by decide +kernel
theorem dX0_areOfAKind_51 : decode cX0_areOfAKind 51 = .ok (.ifCond .eq 10, 3) := by decide +kernel
theorem dX0_areOfAKind_54 : decode cX0_areOfAKind 54 = .ok (.iload_n 2, 1) := by decide +kernel
theorem dX0_areOfAKind_55 : decode cX0_areOfAKind 55 = .ok (.invokestatic 25, 3) := by decide +kernel
theorem dX0_areOfAKind_58 : decode cX0_areOfAKind 58 = .ok (.ifCond .ne 7, 3) := by decide +kernel
theorem dX0_areOfAKind_61 : decode cX0_areOfAKind 61 = .ok (.iconst 1, 1) := by decide +kernel
theorem dX0_areOfAKind_62 : decode cX0_areOfAKind 62 = .ok (.goto 4, 3) := by decide +kernel
theorem dX0_areOfAKind_65 : decode cX0_areOfAKind 65 = .ok (.iconst 0, 1) := by decide +kernel
theorem dX0_areOfAKind_66 : decode cX0_areOfAKind 66 = .ok (.ireturn, 1) := by decide +kernel
theorem dX1_init_0 : decode cX1_init 0 = .ok (.aload_n 0, 1) := by decide +kernel
theorem dX1_init_1 : decode cX1_init 1 = .ok (.invokespecial 3, 3) := by decide +kernel
theorem dX1_init_4 : decode cX1_init 4 = .ok (.aload_n 0, 1) := by decide +kernel
theorem dX1_init_5 : decode cX1_init 5 = .ok (.bipush 100, 2) := by decide +kernel
theorem dX1_init_7 : decode cX1_init 7 = .ok (.newarray .int, 2) := by decide +kernel
theorem dX1_init_9 : decode cX1_init 9 = .ok (.putfield 9, 3) := by decide +kernel
theorem dX1_init_12 : decode cX1_init 12 = .ok (.aload_n 0, 1) := by decide +kernel
theorem dX1_init_13 : decode cX1_init 13 = .ok (.bipush 100, 2) := by decide +kernel
theorem dX1_init_15 : decode cX1_init 15 = .ok (.newarray .int, 2) := by decide +kernel
theorem dX1_init_17 : decode cX1_init 17 = .ok (.putfield 15, 3) := by decide +kernel
theorem dX1_init_20 : decode cX1_init 20 = .ok (.aload_n 0, 1) := by decide +kernel
theorem dX1_init_21 : decode cX1_init 21 = .ok (.bipush 100, 2) := by decide +kernel
theorem dX1_init_23 : decode cX1_init 23 = .ok (.newarray .int, 2) := by decide +kernel
theorem dX1_init_25 : decode cX1_init 25 = .ok (.putfield 18, 3) := by decide +kernel
theorem dX1_init_28 : decode cX1_init 28 = .ok (.aload_n 0, 1) := by decide +kernel
theorem dX1_init_29 : decode cX1_init 29 = .ok (.bipush 100, 2) := by decide +kernel
theorem dX1_init_31 : decode cX1_init 31 = .ok (.newarray .int, 2) := by decide +kernel
theorem dX1_init_33 : decode cX1_init 33 = .ok (.putfield 21, 3) := by decide +kernel
theorem dX1_init_36 : decode cX1_init 36 = .ok (.aload_n 0, 1) := by decide +kernel
theorem dX1_init_37 : decode cX1_init 37 = .ok (.sipush 400, 3) := by decide +kernel
theorem dX1_init_40 : decode cX1_init 40 = .ok (.newarray .int, 2) := by decide +kernel
theorem dX1_init_42 : decode cX1_init 42 = .ok (.putfield 24, 3) := by decide +kernel
theorem dX1_init_45 : decode cX1_init 45 = .ok (.aload_n 0, 1) := by decide +kernel
theorem dX1_init_46 : decode cX1_init 46 = .ok (.bipush 8, 2) := by decide +kernel
theorem dX1_init_48 : decode cX1_init 48 = .ok (.newarray .int, 2) := by decide +kernel
theorem dX1_init_50 : decode cX1_init 50 = .ok (.putfield 27, 3) := by decide +kernel
theorem dX1_init_53 : decode cX1_init 53 = .ok (.aload_n 0, 1) := by decide +kernel
theorem dX1_init_54 : decode cX1_init 54 = .ok (.bipush 16, 2) := by decide +kernel
theorem dX1_init_56 : decode cX1_init 56 = .ok (.newarray .int, 2) := by decide +kernel
theorem dX1_init_58 : decode cX1_init 58 = .ok (.putfield 30, 3) := by decide +kernel
theorem dX1_init_61 : decode cX1_init 61 = .ok (.return_, 1) := by decide +kernel
theorem dX1_lay_0 : decode cX1_lay 0 = .ok (.aload_n 0, 1) := by decide +kernel
theorem dX1_lay_1 : decode cX1_lay 1 = .ok (.iload_n 1, 1) := by decide +kernel
theorem dX1_lay_2 : decode cX1_lay 2 = .ok (.putfield 33, 3) := by decide +kernel
theorem dX1_lay_5 : decode cX1_lay 5 = .ok (.aload_n 0, 1) := by decide +kernel
theorem dX1_lay_6 : decode cX1_lay 6 = .ok (.iload_n 2, 1) := by decide +kernel
theorem dX1_lay_7 : decode cX1_lay 7 = .ok (.putfield 37, 3) := by decide +kernel
theorem dX1_lay_10 : decode cX1_lay 10 = .ok (.aload_n 0, 1) := by decide +kernel
theorem dX1_lay_11 : decode cX1_lay 11 = .ok (.iload_n 3, 1) := by decide +kernel
theorem dX1_lay_12 : decode cX1_lay 12 = .ok (.putfield 40, 3) := by decide +kernel
theorem dX1_lay_15 : decode cX1_lay 15 = .ok (.aload_n 0, 1) := by decide +kernel
theorem dX1_lay_16 : decode cX1_lay 16 = .ok (.iload_n 1, 1) := by decide +kernel
theorem dX1_lay_17 : decode cX1_lay 17 = .ok (.iload_n 2, 1) := by decide +kernel
theorem dX1_lay_18 : decode cX1_lay 18 = .ok (.imul, 1) := by decide +kernel
theorem dX1_lay_19 : decode cX1_lay 19 = .ok (.putfield 43, 3) := by decide +kernel
theorem dX1_lay_22 : decode cX1_lay 22 = .ok (.aload_n 0, 1) := by decide +kernel
theorem dX1_lay_23 : decode cX1_lay 23 = .ok (.iconst 0, 1) := by decide +kernel
theorem dX1_lay_24 : decode cX1_lay 24 = .ok (.putfield 46, 3) := by decide +kernel
theorem dX1_lay_27 : decode cX1_lay 27 = .ok (.aload_n 0, 1) := by decide +kernel
theorem dX1_lay_28 : decode cX1_lay 28 = .ok (.iload_n 3, 1) := by decide +kernel
theorem dX1_lay_29 : decode cX1_lay 29 = .ok (.putfield 49, 3) := by decide +kernel
theorem dX1_lay_32 : decode cX1_lay 32 = .ok (.aload_n 0, 1) := by decide +kernel
theorem dX1_lay_33 : decode cX1_lay 33 = .ok (.getfield 9, 3) := by decide +kernel
theorem dX1_lay_36 : decode cX1_lay 36 = .ok (.iconst 0, 1) := by decide +kernel
theorem dX1_lay_37 : decode cX1_lay 37 = .ok (.invokestatic 52, 3) := by decide +kernel
theorem dX1_lay_40 : decode cX1_lay 40 = .ok (.aload_n 0, 1) := by decide +kernel
theorem dX1_lay_41 : decode cX1_lay 41 = .ok (.getfield 15, 3) := by decide +kernel
theorem dX1_lay_44 : decode cX1_lay 44 = .ok (.iconst 0, 1) := by decide +kernel
theorem dX1_lay_45 : decode cX1_lay 45 = .ok (.invokestatic 52, 3) := by decide +kernel
theorem dX1_lay_48 : decode cX1_lay 48 = .ok (.aload_n 0, 1) := by decide +kernel
theorem dX1_lay_49 : decode cX1_lay 49 = .ok (.getfield 30, 3) := by decide +kernel
theorem dX1_lay_52 : decode cX1_lay 52 = .ok (.iconst 0, 1) := by decide +kernel
theorem dX1_lay_53 : decode cX1_lay 53 = .ok (.invokestatic 52, 3) := by decide +kernel
theorem dX1_lay_56 : decode cX1_lay 56 = .ok (.iconst 0, 1) := by decide +kernel
theorem dX1_lay_57 : decode cX1_lay 57 = .ok (.istore 4, 2) := by decide +kernel
theorem dX1_lay_59 : decode cX1_lay 59 = .ok (.iload 4, 2) := by decide +kernel
theorem dX1_lay_61 : decode cX1_lay 61 = .ok (.iload_n 2, 1) := by decide +kernel
theorem dX1_lay_62 : decode cX1_lay 62 = .ok (.if_icmp .ge 32, 3) := by decide +kernel
theorem dX1_lay_65 : decode cX1_lay 65 = .ok (.iconst 0, 1) := by decide +kernel
theorem dX1_lay_66 : decode cX1_lay 66 = .ok (.istore 5, 2) := by decide +kernel
theorem dX1_lay_68 : decode cX1_lay 68 = .ok (.iload 5, 2) := by decide +kernel
theorem dX1_lay_70 : decode cX1_lay 70 = .ok (.iload_n 1, 1) := by decide +kernel
theorem dX1_lay_71 : decode cX1_lay 71 = .ok (.if_icmp .ge 17, 3) := by decide +kernel
theorem dX1_lay_74 : decode cX1_lay 74 = .ok (.aload_n 0, 1) := by decide +kernel
theorem dX1_lay_75 : decode cX1_lay 75 = .ok (.iload 5, 2) := by decide +kernel
theorem dX1_lay_77 : decode cX1_lay 77 = .ok (.iload 4, 2) := by decide +kernel
theorem dX1_lay_79 : decode cX1_lay 79 = .ok (.invokevirtual 58, 3) := by decide +kernel
theorem dX1_lay_82 : decode cX1_lay 82 = .ok (.iinc 5 1, 3) := by decide +kernel
theorem dX1_lay_85 : decode cX1_lay 85 = .ok (.goto (-17), 3) := by decide +kernel
theorem dX1_lay_88 : decode cX1_lay 88 = .ok (.iinc 4 1, 3) := by decide +kernel
theorem dX1_lay_91 : decode cX1_lay 91 = .ok (.goto (-32), 3) := by decide +kernel
theorem dX1_lay_94 : decode cX1_lay 94 = .ok (.return_, 1) := by decide +kernel
theorem dX1_layCell_0 : decode cX1_layCell 0 = .ok (.iload_n 2, 1) := by decide +kernel
theorem dX1_layCell_1 : decode cX1_layCell 1 = .ok (.aload_n 0, 1) := by decide +kernel
theorem dX1_layCell_2 : decode cX1_layCell 2 = .ok (.getfield 33, 3) := by decide +kernel
theorem dX1_layCell_5 : decode cX1_layCell 5 = .ok (.imul, 1) := by decide +kernel
theorem dX1_layCell_6 : decode cX1_layCell 6 = .ok (.iload_n 1, 1) := by decide +kernel
theorem dX1_layCell_7 : decode cX1_layCell 7 = .ok (.iadd, 1) := by decide +kernel
theorem dX1_layCell_8 : decode cX1_layCell 8 = .ok (.istore_n 3, 1) := by decide +kernel
theorem dX1_layCell_9 : decode cX1_layCell 9 = .ok (.aload_n 0, 1) := by decide +kernel
theorem dX1_layCell_10 : decode cX1_layCell 10 = .ok (.getfield 18, 3) := by decide +kernel
theorem dX1_layCell_13 : decode cX1_layCell 13 = .ok (.iload_n 3, 1) := by decide +kernel
theorem dX1_layCell_14 : decode cX1_layCell 14 = .ok (.iload_n 1, 1) := by decide +kernel
theorem dX1_layCell_15 : decode cX1_layCell 15 = .ok (.iastore, 1) := by decide +kernel
theorem dX1_layCell_16 : decode cX1_layCell 16 = .ok (.aload_n 0, 1) := by decide +kernel
theorem dX1_layCell_17 : decode cX1_layCell 17 = .ok (.getfield 21, 3) := by decide +kernel
theorem dX1_layCell_20 : decode cX1_layCell 20 = .ok (.iload_n 3, 1) := by decide +kernel
theorem dX1_layCell_21 : decode cX1_layCell 21 = .ok (.iload_n 2, 1) := by decide +kernel
theorem dX1_layCell_22 : decode cX1_layCell 22 = .ok (.iastore, 1) := by decide +kernel
theorem dX1_layCell_23 : decode cX1_layCell 23 = .ok (.aload_n 0, 1) := by decide +kernel
theorem dX1_layCell_24 : decode cX1_layCell 24 = .ok (.getfield 24, 3) := by decide +kernel
theorem dX1_layCell_27 : decode cX1_layCell 27 = .ok (.iload_n 3, 1) := by decide +kernel
theorem dX1_layCell_28 : decode cX1_layCell 28 = .ok (.iconst 4, 1) := by decide +kernel
theorem dX1_layCell_29 : decode cX1_layCell 29 = .ok (.imul, 1) := by decide +kernel
theorem dX1_layCell_30 : decode cX1_layCell 30 = .ok (.iconst 0, 1) := by decide +kernel
theorem dX1_layCell_31 : decode cX1_layCell 31 = .ok (.iadd, 1) := by decide +kernel
theorem dX1_layCell_32 : decode cX1_layCell 32 = .ok (.iload_n 2, 1) := by decide +kernel
theorem dX1_layCell_33 : decode cX1_layCell 33 = .ok (.ifCond .le 12, 3) := by decide +kernel
theorem dX1_layCell_36 : decode cX1_layCell 36 = .ok (.iload_n 3, 1) := by decide +kernel
theorem dX1_layCell_37 : decode cX1_layCell 37 = .ok (.aload_n 0, 1) := by decide +kernel
theorem dX1_layCell_38 : decode cX1_layCell 38 = .ok (.getfield 33, 3) := by decide +kernel
theorem dX1_layCell_41 : decode cX1_layCell 41 = .ok (.isub, 1) := by decide +kernel
theorem dX1_layCell_42 : decode cX1_layCell 42 = .ok (.goto 4, 3) := by decide +kernel
theorem dX1_layCell_45 : decode cX1_layCell 45 = .ok (.iconst (-1), 1) := by decide +kernel
theorem dX1_layCell_46 : decode cX1_layCell 46 = .ok (.iastore, 1) := by decide +kernel
theorem dX1_layCell_47 : decode cX1_layCell 47 = .ok (.aload_n 0, 1) := by decide +kernel
theorem dX1_layCell_48 : decode cX1_layCell 48 = .ok (.getfield 24, 3) := by decide +kernel
theorem dX1_layCell_51 : decode cX1_layCell 51 = .ok (.iload_n 3, 1) := by decide +kernel
theorem dX1_layCell_52 : decode cX1_layCell 52 = .ok (.iconst 4, 1) := by decide +kernel
theorem dX1_layCell_53 : decode cX1_layCell 53 = .ok (.imul, 1) := by decide +kernel
theorem dX1_layCell_54 : decode cX1_layCell 54 = .ok (.iconst 1, 1) := by decide +kernel
theorem dX1_layCell_55 : decode cX1_layCell 55 = .ok (.iadd, 1) := by decide +kernel
theorem dX1_layCell_56 : decode cX1_layCell 56 = .ok (.iload_n 1, 1) := by decide +kernel
theorem dX1_layCell_57 : decode cX1_layCell 57 = .ok (.aload_n 0, 1) := by decide +kernel
theorem dX1_layCell_58 : decode cX1_layCell 58 = .ok (.getfield 33, 3) := by decide +kernel
theorem dX1_layCell_61 : decode cX1_layCell 61 = .ok (.iconst 1, 1) := by decide +kernel
theorem dX1_layCell_62 : decode cX1_layCell 62 = .ok (.isub, 1) := by decide +kernel
theorem dX1_layCell_63 : decode cX1_layCell 63 = .ok (.if_icmp .ge 9, 3) := by decide +kernel
theorem dX1_layCell_66 : decode cX1_layCell 66 = .ok (.iload_n 3, 1) := by decide +kernel
theorem dX1_layCell_67 : decode cX1_layCell 67 = .ok (.iconst 1, 1) := by decide +kernel
theorem dX1_layCell_68 : decode cX1_layCell 68 = .ok (.iadd, 1) := by decide +kernel
theorem dX1_layCell_69 : decode cX1_layCell 69 = .ok (.goto 4, 3) := by decide +kernel
theorem dX1_layCell_72 : decode cX1_layCell 72 = .ok (.iconst (-1), 1) := by decide +kernel
theorem dX1_layCell_73 : decode cX1_layCell 73 = .ok (.iastore, 1) := by decide +kernel
theorem dX1_layCell_74 : decode cX1_layCell 74 = .ok (.aload_n 0, 1) := by decide +kernel
theorem dX1_layCell_75 : decode cX1_layCell 75 = .ok (.getfield 24, 3) := by decide +kernel
theorem dX1_layCell_78 : decode cX1_layCell 78 = .ok (.iload_n 3, 1) := by decide +kernel
theorem dX1_layCell_79 : decode cX1_layCell 79 = .ok (.iconst 4, 1) := by decide +kernel
theorem dX1_layCell_80 : decode cX1_layCell 80 = .ok (.imul, 1) := by decide +kernel
theorem dX1_layCell_81 : decode cX1_layCell 81 = .ok (.iconst 2, 1) := by decide +kernel
theorem dX1_layCell_82 : decode cX1_layCell 82 = .ok (.iadd, 1) := by decide +kernel
theorem dX1_layCell_83 : decode cX1_layCell 83 = .ok (.iload_n 2, 1) := by decide +kernel
theorem dX1_layCell_84 : decode cX1_layCell 84 = .ok (.aload_n 0, 1) := by decide +kernel
theorem dX1_layCell_85 : decode cX1_layCell 85 = .ok (.getfield 37, 3) := by decide +kernel
theorem dX1_layCell_88 : decode cX1_layCell 88 = .ok (.iconst 1, 1) := by decide +kernel
theorem dX1_layCell_89 : decode cX1_layCell 89 = .ok (.isub, 1) := by decide +kernel
theorem dX1_layCell_90 : decode cX1_layCell 90 = .ok (.if_icmp .ge 12, 3) := by decide +kernel
theorem dX1_layCell_93 : decode cX1_layCell 93 = .ok (.iload_n 3, 1) := by decide +kernel
theorem dX1_layCell_94 : decode cX1_layCell 94 = .ok (.aload_n 0, 1) := by decide +kernel
theorem dX1_layCell_95 : decode cX1_layCell 95 = .ok (.getfield 33, 3) := by decide +kernel
theorem dX1_layCell_98 : decode cX1_layCell 98 = .ok (.iadd, 1) := by decide +kernel
theorem dX1_layCell_99 : decode cX1_layCell 99 = .ok (.goto 4, 3) := by decide +kernel
theorem dX1_layCell_102 : decode cX1_layCell 102 = .ok (.iconst (-1), 1) := by decide +kernel
theorem dX1_layCell_103 : decode cX1_layCell 103 = .ok (.iastore, 1) := by decide +kernel
theorem dX1_layCell_104 : decode cX1_layCell 104 = .ok (.aload_n 0, 1) := by decide +kernel
theorem dX1_layCell_105 : decode cX1_layCell 105 = .ok (.getfield 24, 3) := by decide +kernel
theorem dX1_layCell_108 : decode cX1_layCell 108 = .ok (.iload_n 3, 1) := by decide +kernel
theorem dX1_layCell_109 : decode cX1_layCell 109 = .ok (.iconst 4, 1) := by decide +kernel
theorem dX1_layCell_110 : decode cX1_layCell 110 = .ok (.imul, 1) := by decide +kernel
theorem dX1_layCell_111 : decode cX1_layCell 111 = .ok (.iconst 3, 1) := by decide +kernel
theorem dX1_layCell_112 : decode cX1_layCell 112 = .ok (.iadd, 1) := by decide +kernel
theorem dX1_layCell_113 : decode cX1_layCell 113 = .ok (.iload_n 1, 1) := by decide +kernel
theorem dX1_layCell_114 : decode cX1_layCell 114 = .ok (.ifCond .le 9, 3) := by decide +kernel
theorem dX1_layCell_117 : decode cX1_layCell 117 = .ok (.iload_n 3, 1) := by decide +kernel
theorem dX1_layCell_118 : decode cX1_layCell 118 = .ok (.iconst 1, 1) := by decide +kernel
theorem dX1_layCell_119 : decode cX1_layCell 119 = .ok (.isub, 1) := by decide +kernel
theorem dX1_layCell_120 : decode cX1_layCell 120 = .ok (.goto 4, 3) := by decide +kernel
theorem dX1_layCell_123 : decode cX1_layCell 123 = .ok (.iconst (-1), 1) := by decide +kernel
theorem dX1_layCell_124 : decode cX1_layCell 124 = .ok (.iastore, 1) := by decide +kernel
theorem dX1_layCell_125 : decode cX1_layCell 125 = .ok (.return_, 1) := by decide +kernel
theorem dX1_addDoor_0 : decode cX1_addDoor 0 = .ok (.aload_n 0, 1) := by decide +kernel
theorem dX1_addDoor_1 : decode cX1_addDoor 1 = .ok (.getfield 9, 3) := by decide +kernel
theorem dX1_addDoor_4 : decode cX1_addDoor 4 = .ok (.iload_n 1, 1) := by decide +kernel
theorem dX1_addDoor_5 : decode cX1_addDoor 5 = .ok (.iconst 2, 1) := by decide +kernel
theorem dX1_addDoor_6 : decode cX1_addDoor 6 = .ok (.iastore, 1) := by decide +kernel
theorem dX1_addDoor_7 : decode cX1_addDoor 7 = .ok (.aload_n 0, 1) := by decide +kernel
theorem dX1_addDoor_8 : decode cX1_addDoor 8 = .ok (.getfield 15, 3) := by decide +kernel
theorem dX1_addDoor_11 : decode cX1_addDoor 11 = .ok (.iload_n 1, 1) := by decide +kernel
theorem dX1_addDoor_12 : decode cX1_addDoor 12 = .ok (.aload_n 0, 1) := by decide +kernel
theorem dX1_addDoor_13 : decode cX1_addDoor 13 = .ok (.getfield 46, 3) := by decide +kernel
theorem dX1_addDoor_16 : decode cX1_addDoor 16 = .ok (.iastore, 1) := by decide +kernel
theorem dX1_addDoor_17 : decode cX1_addDoor 17 = .ok (.aload_n 0, 1) := by decide +kernel
theorem dX1_addDoor_18 : decode cX1_addDoor 18 = .ok (.getfield 27, 3) := by decide +kernel
theorem dX1_addDoor_21 : decode cX1_addDoor 21 = .ok (.aload_n 0, 1) := by decide +kernel
theorem dX1_addDoor_22 : decode cX1_addDoor 22 = .ok (.getfield 46, 3) := by decide +kernel
theorem dX1_addDoor_25 : decode cX1_addDoor 25 = .ok (.iload_n 2, 1) := by decide +kernel
theorem dX1_addDoor_26 : decode cX1_addDoor 26 = .ok (.iastore, 1) := by decide +kernel
theorem dX1_addDoor_27 : decode cX1_addDoor 27 = .ok (.aload_n 0, 1) := by decide +kernel
theorem dX1_addDoor_28 : decode cX1_addDoor 28 = .ok (.dup, 1) := by decide +kernel
theorem dX1_addDoor_29 : decode cX1_addDoor 29 = .ok (.getfield 46, 3) := by decide +kernel
theorem dX1_addDoor_32 : decode cX1_addDoor 32 = .ok (.dup_x1, 1) := by decide +kernel
theorem dX1_addDoor_33 : decode cX1_addDoor 33 = .ok (.iconst 1, 1) := by decide +kernel
theorem dX1_addDoor_34 : decode cX1_addDoor 34 = .ok (.iadd, 1) := by decide +kernel
theorem dX1_addDoor_35 : decode cX1_addDoor 35 = .ok (.putfield 46, 3) := by decide +kernel
theorem dX1_addDoor_38 : decode cX1_addDoor 38 = .ok (.ireturn, 1) := by decide +kernel
theorem dX1_addThing_0 : decode cX1_addThing 0 = .ok (.aload_n 0, 1) := by decide +kernel
theorem dX1_addThing_1 : decode cX1_addThing 1 = .ok (.getfield 30, 3) := by decide +kernel
theorem dX1_addThing_4 : decode cX1_addThing 4 = .ok (.aload_n 0, 1) := by decide +kernel
theorem dX1_addThing_5 : decode cX1_addThing 5 = .ok (.getfield 49, 3) := by decide +kernel
theorem dX1_addThing_8 : decode cX1_addThing 8 = .ok (.iload_n 1, 1) := by decide +kernel
theorem dX1_addThing_9 : decode cX1_addThing 9 = .ok (.iastore, 1) := by decide +kernel
theorem dX1_addThing_10 : decode cX1_addThing 10 = .ok (.aload_n 0, 1) := by decide +kernel
theorem dX1_addThing_11 : decode cX1_addThing 11 = .ok (.dup, 1) := by decide +kernel
theorem dX1_addThing_12 : decode cX1_addThing 12 = .ok (.getfield 49, 3) := by decide +kernel
theorem dX1_addThing_15 : decode cX1_addThing 15 = .ok (.dup_x1, 1) := by decide +kernel
theorem dX1_addThing_16 : decode cX1_addThing 16 = .ok (.iconst 1, 1) := by decide +kernel
theorem dX1_addThing_17 : decode cX1_addThing 17 = .ok (.iadd, 1) := by decide +kernel
theorem dX1_addThing_18 : decode cX1_addThing 18 = .ok (.putfield 49, 3) := by decide +kernel
theorem dX1_addThing_21 : decode cX1_addThing 21 = .ok (.ireturn, 1) := by decide +kernel
theorem dX1_hasCell_0 : decode cX1_hasCell 0 = .ok (.iload_n 1, 1) := by decide +kernel
theorem dX1_hasCell_1 : decode cX1_hasCell 1 = .ok (.ifCond .lt 15, 3) := by decide +kernel
theorem dX1_hasCell_4 : decode cX1_hasCell 4 = .ok (.iload_n 1, 1) := by decide +kernel
theorem dX1_hasCell_5 : decode cX1_hasCell 5 = .ok (.aload_n 0, 1) := by decide +kernel
theorem dX1_hasCell_6 : decode cX1_hasCell 6 = .ok (.getfield 43, 3) := by decide +kernel
theorem dX1_hasCell_9 : decode cX1_hasCell 9 = .ok (.if_icmp .ge 7, 3) := by decide +kernel
theorem dX1_hasCell_12 : decode cX1_hasCell 12 = .ok (.iconst 1, 1) := by decide +kernel
theorem dX1_hasCell_13 : decode cX1_hasCell 13 = .ok (.goto 4, 3) := by decide +kernel
theorem dX1_hasCell_16 : decode cX1_hasCell 16 = .ok (.iconst 0, 1) := by decide +kernel
theorem dX1_hasCell_17 : decode cX1_hasCell 17 = .ok (.ireturn, 1) := by decide +kernel
theorem dX1_hasDoor_0 : decode cX1_hasDoor 0 = .ok (.iload_n 1, 1) := by decide +kernel
theorem dX1_hasDoor_1 : decode cX1_hasDoor 1 = .ok (.ifCond .lt 15, 3) := by decide +kernel
theorem dX1_hasDoor_4 : decode cX1_hasDoor 4 = .ok (.iload_n 1, 1) := by decide +kernel
theorem dX1_hasDoor_5 : decode cX1_hasDoor 5 = .ok (.aload_n 0, 1) := by decide +kernel
theorem dX1_hasDoor_6 : decode cX1_hasDoor 6 = .ok (.getfield 46, 3) := by decide +kernel
theorem dX1_hasDoor_9 : decode cX1_hasDoor 9 = .ok (.if_icmp .ge 7, 3) := by decide +kernel
theorem dX1_hasDoor_12 : decode cX1_hasDoor 12 = .ok (.iconst 1, 1) := by decide +kernel
theorem dX1_hasDoor_13 : decode cX1_hasDoor 13 = .ok (.goto 4, 3) := by decide +kernel
theorem dX1_hasDoor_16 : decode cX1_hasDoor 16 = .ok (.iconst 0, 1) := by decide +kernel
theorem dX1_hasDoor_17 : decode cX1_hasDoor 17 = .ok (.ireturn, 1) := by decide +kernel
theorem dX1_hasPlayer_0 : decode cX1_hasPlayer 0 = .ok (.iload_n 1, 1) := by decide +kernel
theorem dX1_hasPlayer_1 : decode cX1_hasPlayer 1 = .ok (.ifCond .lt 15, 3) := by decide +kernel
theorem dX1_hasPlayer_4 : decode cX1_hasPlayer 4 = .ok (.iload_n 1, 1) := by decide +kernel
theorem dX1_hasPlayer_5 : decode cX1_hasPlayer 5 = .ok (.aload_n 0, 1) := by decide +kernel
theorem dX1_hasPlayer_6 : decode cX1_hasPlayer 6 = .ok (.getfield 40, 3) := by decide +kernel
theorem dX1_hasPlayer_9 : decode cX1_hasPlayer 9 = .ok (.if_icmp .ge 7, 3) := by decide +kernel
theorem dX1_hasPlayer_12 : decode cX1_hasPlayer 12 = .ok (.iconst 1, 1) := by decide +kernel
theorem dX1_hasPlayer_13 : decode cX1_hasPlayer 13 = .ok (.goto 4, 3) := by decide +kernel
theorem dX1_hasPlayer_16 : decode cX1_hasPlayer 16 = .ok (.iconst 0, 1) := by decide +kernel
theorem dX1_hasPlayer_17 : decode cX1_hasPlayer 17 = .ok (.ireturn, 1) := by decide +kernel
theorem dX1_firstCellOf_0 : decode cX1_firstCellOf 0 = .ok (.iload_n 1, 1) := by decide +kernel
theorem dX1_firstCellOf_1 : decode cX1_firstCellOf 1 = .ok (.tableswitch 43 0 2 #[27, 29, 36], 27) := by decide +kernel
theorem dX1_firstCellOf_28 : decode cX1_firstCellOf 28 = .ok (.iconst 0, 1) := by decide +kernel
theorem dX1_firstCellOf_29 : decode cX1_firstCellOf 29 = .ok (.ireturn, 1) := by decide +kernel
theorem dX1_firstCellOf_30 : decode cX1_firstCellOf 30 = .ok (.aload_n 0, 1) := by decide +kernel
theorem dX1_firstCellOf_31 : decode cX1_firstCellOf 31 = .ok (.getfield 43, 3) := by decide +kernel
theorem dX1_firstCellOf_34 : decode cX1_firstCellOf 34 = .ok (.iconst 1, 1) := by decide +kernel
theorem dX1_firstCellOf_35 : decode cX1_firstCellOf 35 = .ok (.isub, 1) := by decide +kernel
theorem dX1_firstCellOf_36 : decode cX1_firstCellOf 36 = .ok (.ireturn, 1) := by decide +kernel
theorem dX1_firstCellOf_37 : decode cX1_firstCellOf 37 = .ok (.aload_n 0, 1) := by decide +kernel
theorem dX1_firstCellOf_38 : decode cX1_firstCellOf 38 = .ok (.getfield 33, 3) := by decide +kernel
theorem dX1_firstCellOf_41 : decode cX1_firstCellOf 41 = .ok (.iconst 1, 1) := by decide +kernel
theorem dX1_firstCellOf_42 : decode cX1_firstCellOf 42 = .ok (.isub, 1) := by decide +kernel
theorem dX1_firstCellOf_43 : decode cX1_firstCellOf 43 = .ok (.ireturn, 1) := by decide +kernel
theorem dX1_firstCellOf_44 : decode cX1_firstCellOf 44 = .ok (.aload_n 0, 1) := by decide +kernel
theorem dX1_firstCellOf_45 : decode cX1_firstCellOf 45 = .ok (.getfield 37, 3) := by decide +kernel
theorem dX1_firstCellOf_48 : decode cX1_firstCellOf 48 = .ok (.iconst 1, 1) := by decide +kernel
theorem dX1_firstCellOf_49 : decode cX1_firstCellOf 49 = .ok (.isub, 1) := by decide +kernel
theorem dX1_firstCellOf_50 : decode cX1_firstCellOf 50 = .ok (.aload_n 0, 1) := by decide +kernel
theorem dX1_firstCellOf_51 : decode cX1_firstCellOf 51 = .ok (.getfield 33, 3) := by decide +kernel
theorem dX1_firstCellOf_54 : decode cX1_firstCellOf 54 = .ok (.imul, 1) := by decide +kernel
theorem dX1_firstCellOf_55 : decode cX1_firstCellOf 55 = .ok (.ireturn, 1) := by decide +kernel
theorem dX1_nextTo_0 : decode cX1_nextTo 0 = .ok (.aload_n 0, 1) := by decide +kernel
theorem dX1_nextTo_1 : decode cX1_nextTo 1 = .ok (.getfield 24, 3) := by decide +kernel
theorem dX1_nextTo_4 : decode cX1_nextTo 4 = .ok (.iload_n 1, 1) := by decide +kernel
theorem dX1_nextTo_5 : decode cX1_nextTo 5 = .ok (.iconst 4, 1) := by decide +kernel
theorem dX1_nextTo_6 : decode cX1_nextTo 6 = .ok (.imul, 1) := by decide +kernel
theorem dX1_nextTo_7 : decode cX1_nextTo 7 = .ok (.iload_n 2, 1) := by decide +kernel
theorem dX1_nextTo_8 : decode cX1_nextTo 8 = .ok (.iadd, 1) := by decide +kernel
theorem dX1_nextTo_9 : decode cX1_nextTo 9 = .ok (.iaload, 1) := by decide +kernel
theorem dX1_nextTo_10 : decode cX1_nextTo 10 = .ok (.ireturn, 1) := by decide +kernel
theorem dX2_init_0 : decode cX2_init 0 = .ok (.aload_n 0, 1) := by decide +kernel
theorem dX2_init_1 : decode cX2_init 1 = .ok (.invokespecial 3, 3) := by decide +kernel
theorem dX2_init_4 : decode cX2_init 4 = .ok (.aload_n 0, 1) := by decide +kernel
theorem dX2_init_5 : decode cX2_init 5 = .ok (.sipush 256, 3) := by decide +kernel
theorem dX2_init_8 : decode cX2_init 8 = .ok (.newarray .int, 2) := by decide +kernel
theorem dX2_init_10 : decode cX2_init 10 = .ok (.putfield 9, 3) := by decide +kernel
theorem dX2_init_13 : decode cX2_init 13 = .ok (.aload_n 0, 1) := by decide +kernel
theorem dX2_init_14 : decode cX2_init 14 = .ok (.bipush 32, 2) := by decide +kernel
theorem dX2_init_16 : decode cX2_init 16 = .ok (.newarray .int, 2) := by decide +kernel
theorem dX2_init_18 : decode cX2_init 18 = .ok (.putfield 15, 3) := by decide +kernel
theorem dX2_init_21 : decode cX2_init 21 = .ok (.return_, 1) := by decide +kernel
theorem dX2_wipe_0 : decode cX2_wipe 0 = .ok (.aload_n 0, 1) := by decide +kernel
theorem dX2_wipe_1 : decode cX2_wipe 1 = .ok (.iconst 0, 1) := by decide +kernel
theorem dX2_wipe_2 : decode cX2_wipe 2 = .ok (.putfield 18, 3) := by decide +kernel
theorem dX2_wipe_5 : decode cX2_wipe 5 = .ok (.aload_n 0, 1) := by decide +kernel
theorem dX2_wipe_6 : decode cX2_wipe 6 = .ok (.iconst 0, 1) := by decide +kernel
theorem dX2_wipe_7 : decode cX2_wipe 7 = .ok (.putfield 22, 3) := by decide +kernel
theorem dX2_wipe_10 : decode cX2_wipe 10 = .ok (.aload_n 0, 1) := by decide +kernel
theorem dX2_wipe_11 : decode cX2_wipe 11 = .ok (.iconst 0, 1) := by decide +kernel
theorem dX2_wipe_12 : decode cX2_wipe 12 = .ok (.putfield 25, 3) := by decide +kernel
theorem dX2_wipe_15 : decode cX2_wipe 15 = .ok (.aload_n 0, 1) := by decide +kernel
theorem dX2_wipe_16 : decode cX2_wipe 16 = .ok (.iconst 0, 1) := by decide +kernel
theorem dX2_wipe_17 : decode cX2_wipe 17 = .ok (.putfield 28, 3) := by decide +kernel
theorem dX2_wipe_20 : decode cX2_wipe 20 = .ok (.return_, 1) := by decide +kernel
theorem dX2_noted_0 : decode cX2_noted 0 = .ok (.aload_n 0, 1) := by decide +kernel
theorem dX2_noted_1 : decode cX2_noted 1 = .ok (.getfield 28, 3) := by decide +kernel
theorem dX2_noted_4 : decode cX2_noted 4 = .ok (.bipush 64, 2) := by decide +kernel
theorem dX2_noted_6 : decode cX2_noted 6 = .ok (.if_icmp .ge 10, 3) := by decide +kernel
theorem dX2_noted_9 : decode cX2_noted 9 = .ok (.aload_n 0, 1) := by decide +kernel
theorem dX2_noted_10 : decode cX2_noted 10 = .ok (.getfield 28, 3) := by decide +kernel
theorem dX2_noted_13 : decode cX2_noted 13 = .ok (.goto 5, 3) := by decide +kernel
theorem dX2_noted_16 : decode cX2_noted 16 = .ok (.bipush 64, 2) := by decide +kernel
theorem dX2_noted_18 : decode cX2_noted 18 = .ok (.ireturn, 1) := by decide +kernel
theorem dX2_keepHits_0 : decode cX2_keepHits 0 = .ok (.iload_n 2, 1) := by decide +kernel
theorem dX2_keepHits_1 : decode cX2_keepHits 1 = .ok (.istore 4, 2) := by decide +kernel
theorem dX2_keepHits_3 : decode cX2_keepHits 3 = .ok (.iload 4, 2) := by decide +kernel
theorem dX2_keepHits_5 : decode cX2_keepHits 5 = .ok (.iload_n 3, 1) := by decide +kernel
theorem dX2_keepHits_6 : decode cX2_keepHits 6 = .ok (.if_icmp .ge 46, 3) := by decide +kernel
theorem dX2_keepHits_9 : decode cX2_keepHits 9 = .ok (.iconst 0, 1) := by decide +kernel
theorem dX2_keepHits_10 : decode cX2_keepHits 10 = .ok (.istore 5, 2) := by decide +kernel
theorem dX2_keepHits_12 : decode cX2_keepHits 12 = .ok (.iload 5, 2) := by decide +kernel
theorem dX2_keepHits_14 : decode cX2_keepHits 14 = .ok (.iconst 4, 1) := by decide +kernel
theorem dX2_keepHits_15 : decode cX2_keepHits 15 = .ok (.if_icmp .ge 31, 3) := by decide +kernel
theorem dX2_keepHits_18 : decode cX2_keepHits 18 = .ok (.aload_n 0, 1) := by decide +kernel
theorem dX2_keepHits_19 : decode cX2_keepHits 19 = .ok (.getfield 15, 3) := by decide +kernel
theorem dX2_keepHits_22 : decode cX2_keepHits 22 = .ok (.iload 4, 2) := by decide +kernel
theorem dX2_keepHits_24 : decode cX2_keepHits 24 = .ok (.iload_n 2, 1) := by decide +kernel
theorem dX2_keepHits_25 : decode cX2_keepHits 25 = .ok (.isub, 1) := by decide +kernel
theorem dX2_keepHits_26 : decode cX2_keepHits 26 = .ok (.iconst 4, 1) := by decide +kernel
theorem dX2_keepHits_27 : decode cX2_keepHits 27 = .ok (.imul, 1) := by decide +kernel
theorem dX2_keepHits_28 : decode cX2_keepHits 28 = .ok (.iload 5, 2) := by decide +kernel
theorem dX2_keepHits_30 : decode cX2_keepHits 30 = .ok (.iadd, 1) := by decide +kernel
theorem dX2_keepHits_31 : decode cX2_keepHits 31 = .ok (.aload_n 1, 1) := by decide +kernel
theorem dX2_keepHits_32 : decode cX2_keepHits 32 = .ok (.iload 4, 2) := by decide +kernel
theorem dX2_keepHits_34 : decode cX2_keepHits 34 = .ok (.iload 5, 2) := by decide +kernel
theorem dX2_keepHits_36 : decode cX2_keepHits 36 = .ok (.invokevirtual 31, 3) := by decide +kernel
theorem dX2_keepHits_39 : decode cX2_keepHits 39 = .ok (.iastore, 1) := by decide +kernel
theorem dX2_keepHits_40 : decode cX2_keepHits 40 = .ok (.iinc 5 1, 3) := by decide +kernel
theorem dX2_keepHits_43 : decode cX2_keepHits 43 = .ok (.goto (-31), 3) := by decide +kernel
theorem dX2_keepHits_46 : decode cX2_keepHits 46 = .ok (.iinc 4 1, 3) := by decide +kernel
theorem dX2_keepHits_49 : decode cX2_keepHits 49 = .ok (.goto (-46), 3) := by decide +kernel
theorem dX2_keepHits_52 : decode cX2_keepHits 52 = .ok (.return_, 1) := by decide +kernel
theorem dX2_noteGoingBack_0 : decode cX2_noteGoingBack 0 = .ok (.aload_n 0, 1) := by decide +kernel
theorem dX2_noteGoingBack_1 : decode cX2_noteGoingBack 1 = .ok (.dup, 1) := by decide +kernel
theorem dX2_noteGoingBack_2 : decode cX2_noteGoingBack 2 = .ok (.getfield 18, 3) := by decide +kernel
theorem dX2_noteGoingBack_5 : decode cX2_noteGoingBack 5 = .ok (.iconst 1, 1) := by decide +kernel
theorem dX2_noteGoingBack_6 : decode cX2_noteGoingBack 6 = .ok (.iadd, 1) := by decide +kernel
theorem dX2_noteGoingBack_7 : decode cX2_noteGoingBack 7 = .ok (.putfield 18, 3) := by decide +kernel
theorem dX2_noteGoingBack_10 : decode cX2_noteGoingBack 10 = .ok (.aload_n 0, 1) := by decide +kernel
theorem dX2_noteGoingBack_11 : decode cX2_noteGoingBack 11 = .ok (.dup, 1) := by decide +kernel
theorem dX2_noteGoingBack_12 : decode cX2_noteGoingBack 12 = .ok (.getfield 22, 3) := by decide +kernel
theorem dX2_noteGoingBack_15 : decode cX2_noteGoingBack 15 = .ok (.iload_n 3, 1) := by decide +kernel
theorem dX2_noteGoingBack_16 : decode cX2_noteGoingBack 16 = .ok (.iload_n 2, 1) := by decide +kernel
theorem dX2_noteGoingBack_17 : decode cX2_noteGoingBack 17 = .ok (.isub, 1) := by decide +kernel
theorem dX2_noteGoingBack_18 : decode cX2_noteGoingBack 18 = .ok (.iadd, 1) := by decide +kernel
theorem dX2_noteGoingBack_19 : decode cX2_noteGoingBack 19 = .ok (.putfield 22, 3) := by decide +kernel
theorem dX2_noteGoingBack_22 : decode cX2_noteGoingBack 22 = .ok (.aload_n 0, 1) := by decide +kernel
theorem dX2_noteGoingBack_23 : decode cX2_noteGoingBack 23 = .ok (.aload_n 0, 1) := by decide +kernel
theorem dX2_noteGoingBack_24 : decode cX2_noteGoingBack 24 = .ok (.getfield 25, 3) := by decide +kernel
theorem dX2_noteGoingBack_27 : decode cX2_noteGoingBack 27 = .ok (.iload_n 3, 1) := by decide +kernel
theorem dX2_noteGoingBack_28 : decode cX2_noteGoingBack 28 = .ok (.iload_n 2, 1) := by decide +kernel
theorem dX2_noteGoingBack_29 : decode cX2_noteGoingBack 29 = .ok (.isub, 1) := by decide +kernel
theorem dX2_noteGoingBack_30 : decode cX2_noteGoingBack 30 = .ok (.invokestatic 37, 3) := by decide +kernel
theorem dX2_noteGoingBack_33 : decode cX2_noteGoingBack 33 = .ok (.putfield 25, 3) := by decide +kernel
theorem dX2_noteGoingBack_36 : decode cX2_noteGoingBack 36 = .ok (.iload_n 2, 1) := by decide +kernel
theorem dX2_noteGoingBack_37 : decode cX2_noteGoingBack 37 = .ok (.istore 4, 2) := by decide +kernel
theorem dX2_noteGoingBack_39 : decode cX2_noteGoingBack 39 = .ok (.iload 4, 2) := by decide +kernel
theorem dX2_noteGoingBack_41 : decode cX2_noteGoingBack 41 = .ok (.iload_n 3, 1) := by decide +kernel
theorem dX2_noteGoingBack_42 : decode cX2_noteGoingBack 42 = .ok (.if_icmp .ge 71, 3) := by decide +kernel
theorem dX2_noteGoingBack_45 : decode cX2_noteGoingBack 45 = .ok (.iconst 0, 1) := by decide +kernel
theorem dX2_noteGoingBack_46 : decode cX2_noteGoingBack 46 = .ok (.istore 5, 2) := by decide +kernel
theorem dX2_noteGoingBack_48 : decode cX2_noteGoingBack 48 = .ok (.iload 5, 2) := by decide +kernel
theorem dX2_noteGoingBack_50 : decode cX2_noteGoingBack 50 = .ok (.iconst 4, 1) := by decide +kernel
theorem dX2_noteGoingBack_51 : decode cX2_noteGoingBack 51 = .ok (.if_icmp .ge 56, 3) := by decide +kernel
theorem dX2_noteGoingBack_54 : decode cX2_noteGoingBack 54 = .ok (.aload_n 0, 1) := by decide +kernel
theorem dX2_noteGoingBack_55 : decode cX2_noteGoingBack 55 = .ok (.getfield 15, 3) := by decide +kernel
theorem dX2_noteGoingBack_58 : decode cX2_noteGoingBack 58 = .ok (.iload 4, 2) := by decide +kernel
theorem dX2_noteGoingBack_60 : decode cX2_noteGoingBack 60 = .ok (.iload_n 2, 1) := by decide +kernel
theorem dX2_noteGoingBack_61 : decode cX2_noteGoingBack 61 = .ok (.isub, 1) := by decide +kernel
theorem dX2_noteGoingBack_62 : decode cX2_noteGoingBack 62 = .ok (.iconst 4, 1) := by decide +kernel
theorem dX2_noteGoingBack_63 : decode cX2_noteGoingBack 63 = .ok (.imul, 1) := by decide +kernel
theorem dX2_noteGoingBack_64 : decode cX2_noteGoingBack 64 = .ok (.iload 5, 2) := by decide +kernel
theorem dX2_noteGoingBack_66 : decode cX2_noteGoingBack 66 = .ok (.iadd, 1) := by decide +kernel
theorem dX2_noteGoingBack_67 : decode cX2_noteGoingBack 67 = .ok (.iaload, 1) := by decide +kernel
theorem dX2_noteGoingBack_68 : decode cX2_noteGoingBack 68 = .ok (.istore 6, 2) := by decide +kernel
theorem dX2_noteGoingBack_70 : decode cX2_noteGoingBack 70 = .ok (.iload 6, 2) := by decide +kernel
theorem dX2_noteGoingBack_72 : decode cX2_noteGoingBack 72 = .ok (.ifCond .eq 29, 3) := by decide +kernel
theorem dX2_noteGoingBack_75 : decode cX2_noteGoingBack 75 = .ok (.iload 6, 2) := by decide +kernel
theorem dX2_noteGoingBack_77 : decode cX2_noteGoingBack 77 = .ok (.aload_n 1, 1) := by decide +kernel
theorem dX2_noteGoingBack_78 : decode cX2_noteGoingBack 78 = .ok (.iload 4, 2) := by decide +kernel
theorem dX2_noteGoingBack_80 : decode cX2_noteGoingBack 80 = .ok (.iload 5, 2) := by decide +kernel
theorem dX2_noteGoingBack_82 : decode cX2_noteGoingBack 82 = .ok (.invokevirtual 31, 3) := by decide +kernel
theorem dX2_noteGoingBack_85 : decode cX2_noteGoingBack 85 = .ok (.if_icmp .eq 16, 3) := by decide +kernel
theorem dX2_noteGoingBack_88 : decode cX2_noteGoingBack 88 = .ok (.aload_n 0, 1) := by decide +kernel
theorem dX2_noteGoingBack_89 : decode cX2_noteGoingBack 89 = .ok (.iload 4, 2) := by decide +kernel
theorem dX2_noteGoingBack_91 : decode cX2_noteGoingBack 91 = .ok (.iload 5, 2) := by decide +kernel
theorem dX2_noteGoingBack_93 : decode cX2_noteGoingBack 93 = .ok (.iload 6, 2) := by decide +kernel
theorem dX2_noteGoingBack_95 : decode cX2_noteGoingBack 95 = .ok (.iconst 1, 1) := by decide +kernel
theorem dX2_noteGoingBack_96 : decode cX2_noteGoingBack 96 = .ok (.isub, 1) := by decide +kernel
theorem dX2_noteGoingBack_97 : decode cX2_noteGoingBack 97 = .ok (.iload_n 3, 1) := by decide +kernel
theorem dX2_noteGoingBack_98 : decode cX2_noteGoingBack 98 = .ok (.invokevirtual 42, 3) := by decide +kernel
theorem dX2_noteGoingBack_101 : decode cX2_noteGoingBack 101 = .ok (.iinc 5 1, 3) := by decide +kernel
theorem dX2_noteGoingBack_104 : decode cX2_noteGoingBack 104 = .ok (.goto (-56), 3) := by decide +kernel
theorem dX2_noteGoingBack_107 : decode cX2_noteGoingBack 107 = .ok (.iinc 4 1, 3) := by decide +kernel
theorem dX2_noteGoingBack_110 : decode cX2_noteGoingBack 110 = .ok (.goto (-71), 3) := by decide +kernel
theorem dX2_noteGoingBack_113 : decode cX2_noteGoingBack 113 = .ok (.return_, 1) := by decide +kernel
theorem dX2_noteTakenBack_0 : decode cX2_noteTakenBack 0 = .ok (.aload_n 0, 1) := by decide +kernel
theorem dX2_noteTakenBack_1 : decode cX2_noteTakenBack 1 = .ok (.getfield 28, 3) := by decide +kernel
theorem dX2_noteTakenBack_4 : decode cX2_noteTakenBack 4 = .ok (.bipush 64, 2) := by decide +kernel
theorem dX2_noteTakenBack_6 : decode cX2_noteTakenBack 6 = .ok (.if_icmp .ge 58, 3) := by decide +kernel
theorem dX2_noteTakenBack_9 : decode cX2_noteTakenBack 9 = .ok (.aload_n 0, 1) := by decide +kernel
theorem dX2_noteTakenBack_10 : decode cX2_noteTakenBack 10 = .ok (.getfield 9, 3) := by decide +kernel
theorem dX2_noteTakenBack_13 : decode cX2_noteTakenBack 13 = .ok (.aload_n 0, 1) := by decide +kernel
theorem dX2_noteTakenBack_14 : decode cX2_noteTakenBack 14 = .ok (.getfield 28, 3) := by decide +kernel
theorem dX2_noteTakenBack_17 : decode cX2_noteTakenBack 17 = .ok (.iconst 4, 1) := by decide +kernel
theorem dX2_noteTakenBack_18 : decode cX2_noteTakenBack 18 = .ok (.imul, 1) := by decide +kernel
theorem dX2_noteTakenBack_19 : decode cX2_noteTakenBack 19 = .ok (.iload_n 1, 1) := by decide +kernel
theorem dX2_noteTakenBack_20 : decode cX2_noteTakenBack 20 = .ok (.iastore, 1) := by decide +kernel
theorem dX2_noteTakenBack_21 : decode cX2_noteTakenBack 21 = .ok (.aload_n 0, 1) := by decide +kernel
theorem dX2_noteTakenBack_22 : decode cX2_noteTakenBack 22 = .ok (.getfield 9, 3) := by decide +kernel
theorem dX2_noteTakenBack_25 : decode cX2_noteTakenBack 25 = .ok (.aload_n 0, 1) := by decide +kernel
theorem dX2_noteTakenBack_26 : decode cX2_noteTakenBack 26 = .ok (.getfield 28, 3) := by decide +kernel
theorem dX2_noteTakenBack_29 : decode cX2_noteTakenBack 29 = .ok (.iconst 4, 1) := by decide +kernel
theorem dX2_noteTakenBack_30 : decode cX2_noteTakenBack 30 = .ok (.imul, 1) := by decide +kernel
theorem dX2_noteTakenBack_31 : decode cX2_noteTakenBack 31 = .ok (.iconst 1, 1) := by decide +kernel
theorem dX2_noteTakenBack_32 : decode cX2_noteTakenBack 32 = .ok (.iadd, 1) := by decide +kernel
theorem dX2_noteTakenBack_33 : decode cX2_noteTakenBack 33 = .ok (.iload_n 2, 1) := by decide +kernel
theorem dX2_noteTakenBack_34 : decode cX2_noteTakenBack 34 = .ok (.iastore, 1) := by decide +kernel
theorem dX2_noteTakenBack_35 : decode cX2_noteTakenBack 35 = .ok (.aload_n 0, 1) := by decide +kernel
theorem dX2_noteTakenBack_36 : decode cX2_noteTakenBack 36 = .ok (.getfield 9, 3) := by decide +kernel
theorem dX2_noteTakenBack_39 : decode cX2_noteTakenBack 39 = .ok (.aload_n 0, 1) := by decide +kernel
theorem dX2_noteTakenBack_40 : decode cX2_noteTakenBack 40 = .ok (.getfield 28, 3) := by decide +kernel
theorem dX2_noteTakenBack_43 : decode cX2_noteTakenBack 43 = .ok (.iconst 4, 1) := by decide +kernel
theorem dX2_noteTakenBack_44 : decode cX2_noteTakenBack 44 = .ok (.imul, 1) := by decide +kernel
theorem dX2_noteTakenBack_45 : decode cX2_noteTakenBack 45 = .ok (.iconst 2, 1) := by decide +kernel
theorem dX2_noteTakenBack_46 : decode cX2_noteTakenBack 46 = .ok (.iadd, 1) := by decide +kernel
theorem dX2_noteTakenBack_47 : decode cX2_noteTakenBack 47 = .ok (.iload_n 3, 1) := by decide +kernel
theorem dX2_noteTakenBack_48 : decode cX2_noteTakenBack 48 = .ok (.iastore, 1) := by decide +kernel
theorem dX2_noteTakenBack_49 : decode cX2_noteTakenBack 49 = .ok (.aload_n 0, 1) := by decide +kernel
theorem dX2_noteTakenBack_50 : decode cX2_noteTakenBack 50 = .ok (.getfield 9, 3) := by decide +kernel
theorem dX2_noteTakenBack_53 : decode cX2_noteTakenBack 53 = .ok (.aload_n 0, 1) := by decide +kernel
theorem dX2_noteTakenBack_54 : decode cX2_noteTakenBack 54 = .ok (.getfield 28, 3) := by decide +kernel
theorem dX2_noteTakenBack_57 : decode cX2_noteTakenBack 57 = .ok (.iconst 4, 1) := by decide +kernel
theorem dX2_noteTakenBack_58 : decode cX2_noteTakenBack 58 = .ok (.imul, 1) := by decide +kernel
theorem dX2_noteTakenBack_59 : decode cX2_noteTakenBack 59 = .ok (.iconst 3, 1) := by decide +kernel
theorem dX2_noteTakenBack_60 : decode cX2_noteTakenBack 60 = .ok (.iadd, 1) := by decide +kernel
theorem dX2_noteTakenBack_61 : decode cX2_noteTakenBack 61 = .ok (.iload 4, 2) := by decide +kernel
theorem dX2_noteTakenBack_63 : decode cX2_noteTakenBack 63 = .ok (.iastore, 1) := by decide +kernel
theorem dX2_noteTakenBack_64 : decode cX2_noteTakenBack 64 = .ok (.aload_n 0, 1) := by decide +kernel
theorem dX2_noteTakenBack_65 : decode cX2_noteTakenBack 65 = .ok (.dup, 1) := by decide +kernel
theorem dX2_noteTakenBack_66 : decode cX2_noteTakenBack 66 = .ok (.getfield 28, 3) := by decide +kernel
theorem dX2_noteTakenBack_69 : decode cX2_noteTakenBack 69 = .ok (.iconst 1, 1) := by decide +kernel
theorem dX2_noteTakenBack_70 : decode cX2_noteTakenBack 70 = .ok (.iadd, 1) := by decide +kernel
theorem dX2_noteTakenBack_71 : decode cX2_noteTakenBack 71 = .ok (.putfield 28, 3) := by decide +kernel
theorem dX2_noteTakenBack_74 : decode cX2_noteTakenBack 74 = .ok (.return_, 1) := by decide +kernel
theorem dX3_init_0 : decode cX3_init 0 = .ok (.aload_n 0, 1) := by decide +kernel
theorem dX3_init_1 : decode cX3_init 1 = .ok (.invokespecial 3, 3) := by decide +kernel
theorem dX3_init_4 : decode cX3_init 4 = .ok (.aload_n 0, 1) := by decide +kernel
theorem dX3_init_5 : decode cX3_init 5 = .ok (.sipush 2000, 3) := by decide +kernel
theorem dX3_init_8 : decode cX3_init 8 = .ok (.newarray .int, 2) := by decide +kernel
theorem dX3_init_10 : decode cX3_init 10 = .ok (.putfield 9, 3) := by decide +kernel
theorem dX3_init_13 : decode cX3_init 13 = .ok (.aload_n 0, 1) := by decide +kernel
theorem dX3_init_14 : decode cX3_init 14 = .ok (.sipush 2000, 3) := by decide +kernel
theorem dX3_init_17 : decode cX3_init 17 = .ok (.newarray .byte, 2) := by decide +kernel
theorem dX3_init_19 : decode cX3_init 19 = .ok (.putfield 15, 3) := by decide +kernel
theorem dX3_init_22 : decode cX3_init 22 = .ok (.aload_n 0, 1) := by decide +kernel
theorem dX3_init_23 : decode cX3_init 23 = .ok (.sipush 2000, 3) := by decide +kernel
theorem dX3_init_26 : decode cX3_init 26 = .ok (.newarray .byte, 2) := by decide +kernel
theorem dX3_init_28 : decode cX3_init 28 = .ok (.putfield 19, 3) := by decide +kernel
theorem dX3_init_31 : decode cX3_init 31 = .ok (.return_, 1) := by decide +kernel
theorem dX3_wipe_0 : decode cX3_wipe 0 = .ok (.aload_n 0, 1) := by decide +kernel
theorem dX3_wipe_1 : decode cX3_wipe 1 = .ok (.getfield 9, 3) := by decide +kernel
theorem dX3_wipe_4 : decode cX3_wipe 4 = .ok (.sipush 4096, 3) := by decide +kernel
theorem dX3_wipe_7 : decode cX3_wipe 7 = .ok (.invokestatic 22, 3) := by decide +kernel
theorem dX3_wipe_10 : decode cX3_wipe 10 = .ok (.aload_n 0, 1) := by decide +kernel
theorem dX3_wipe_11 : decode cX3_wipe 11 = .ok (.getfield 15, 3) := by decide +kernel
theorem dX3_wipe_14 : decode cX3_wipe 14 = .ok (.iconst 0, 1) := by decide +kernel
theorem dX3_wipe_15 : decode cX3_wipe 15 = .ok (.invokestatic 28, 3) := by decide +kernel
theorem dX3_wipe_18 : decode cX3_wipe 18 = .ok (.aload_n 0, 1) := by decide +kernel
theorem dX3_wipe_19 : decode cX3_wipe 19 = .ok (.getfield 19, 3) := by decide +kernel
theorem dX3_wipe_22 : decode cX3_wipe 22 = .ok (.iconst 0, 1) := by decide +kernel
theorem dX3_wipe_23 : decode cX3_wipe 23 = .ok (.invokestatic 28, 3) := by decide +kernel
theorem dX3_wipe_26 : decode cX3_wipe 26 = .ok (.return_, 1) := by decide +kernel
theorem dX3_noteAct_0 : decode cX3_noteAct 0 = .ok (.aload_n 0, 1) := by decide +kernel
theorem dX3_noteAct_1 : decode cX3_noteAct 1 = .ok (.getfield 9, 3) := by decide +kernel
theorem dX3_noteAct_4 : decode cX3_noteAct 4 = .ok (.iload_n 1, 1) := by decide +kernel
theorem dX3_noteAct_5 : decode cX3_noteAct 5 = .ok (.iconst 4, 1) := by decide +kernel
theorem dX3_noteAct_6 : decode cX3_noteAct 6 = .ok (.imul, 1) := by decide +kernel
theorem dX3_noteAct_7 : decode cX3_noteAct 7 = .ok (.iload_n 2, 1) := by decide +kernel
theorem dX3_noteAct_8 : decode cX3_noteAct 8 = .ok (.iadd, 1) := by decide +kernel
theorem dX3_noteAct_9 : decode cX3_noteAct 9 = .ok (.iload_n 3, 1) := by decide +kernel
theorem dX3_noteAct_10 : decode cX3_noteAct 10 = .ok (.iastore, 1) := by decide +kernel
theorem dX3_noteAct_11 : decode cX3_noteAct 11 = .ok (.aload_n 0, 1) := by decide +kernel
theorem dX3_noteAct_12 : decode cX3_noteAct 12 = .ok (.getfield 19, 3) := by decide +kernel
theorem dX3_noteAct_15 : decode cX3_noteAct 15 = .ok (.iload_n 1, 1) := by decide +kernel
theorem dX3_noteAct_16 : decode cX3_noteAct 16 = .ok (.iconst 4, 1) := by decide +kernel
theorem dX3_noteAct_17 : decode cX3_noteAct 17 = .ok (.imul, 1) := by decide +kernel
theorem dX3_noteAct_18 : decode cX3_noteAct 18 = .ok (.iload_n 2, 1) := by decide +kernel
theorem dX3_noteAct_19 : decode cX3_noteAct 19 = .ok (.iadd, 1) := by decide +kernel
theorem dX3_noteAct_20 : decode cX3_noteAct 20 = .ok (.iload 4, 2) := by decide +kernel
theorem dX3_noteAct_22 : decode cX3_noteAct 22 = .ok (.ifCond .eq 7, 3) := by decide +kernel
theorem dX3_noteAct_25 : decode cX3_noteAct 25 = .ok (.iconst 1, 1) := by decide +kernel
theorem dX3_noteAct_26 : decode cX3_noteAct 26 = .ok (.goto 4, 3) := by decide +kernel
theorem dX3_noteAct_29 : decode cX3_noteAct 29 = .ok (.iconst 0, 1) := by decide +kernel
theorem dX3_noteAct_30 : decode cX3_noteAct 30 = .ok (.i2b, 1) := by decide +kernel
theorem dX3_noteAct_31 : decode cX3_noteAct 31 = .ok (.bastore, 1) := by decide +kernel
theorem dX3_noteAct_32 : decode cX3_noteAct 32 = .ok (.return_, 1) := by decide +kernel
theorem dX3_codeOf_0 : decode cX3_codeOf 0 = .ok (.aload_n 0, 1) := by decide +kernel
theorem dX3_codeOf_1 : decode cX3_codeOf 1 = .ok (.getfield 9, 3) := by decide +kernel
theorem dX3_codeOf_4 : decode cX3_codeOf 4 = .ok (.iload_n 1, 1) := by decide +kernel
theorem dX3_codeOf_5 : decode cX3_codeOf 5 = .ok (.iconst 4, 1) := by decide +kernel
theorem dX3_codeOf_6 : decode cX3_codeOf 6 = .ok (.imul, 1) := by decide +kernel
theorem dX3_codeOf_7 : decode cX3_codeOf 7 = .ok (.iload_n 2, 1) := by decide +kernel
theorem dX3_codeOf_8 : decode cX3_codeOf 8 = .ok (.iadd, 1) := by decide +kernel
theorem dX3_codeOf_9 : decode cX3_codeOf 9 = .ok (.iaload, 1) := by decide +kernel
theorem dX3_codeOf_10 : decode cX3_codeOf 10 = .ok (.ireturn, 1) := by decide +kernel
theorem dX3_isLate_0 : decode cX3_isLate 0 = .ok (.aload_n 0, 1) := by decide +kernel
theorem dX3_isLate_1 : decode cX3_isLate 1 = .ok (.getfield 19, 3) := by decide +kernel
theorem dX3_isLate_4 : decode cX3_isLate 4 = .ok (.iload_n 1, 1) := by decide +kernel
theorem dX3_isLate_5 : decode cX3_isLate 5 = .ok (.iconst 4, 1) := by decide +kernel
theorem dX3_isLate_6 : decode cX3_isLate 6 = .ok (.imul, 1) := by decide +kernel
theorem dX3_isLate_7 : decode cX3_isLate 7 = .ok (.iload_n 2, 1) := by decide +kernel
theorem dX3_isLate_8 : decode cX3_isLate 8 = .ok (.iadd, 1) := by decide +kernel
theorem dX3_isLate_9 : decode cX3_isLate 9 = .ok (.baload, 1) := by decide +kernel
theorem dX3_isLate_10 : decode cX3_isLate 10 = .ok (.ifCond .eq 7, 3) := by decide +kernel
theorem dX3_isLate_13 : decode cX3_isLate 13 = .ok (.iconst 1, 1) := by decide +kernel
theorem dX3_isLate_14 : decode cX3_isLate 14 = .ok (.goto 4, 3) := by decide +kernel
theorem dX3_isLate_17 : decode cX3_isLate 17 = .ok (.iconst 0, 1) := by decide +kernel
theorem dX3_isLate_18 : decode cX3_isLate 18 = .ok (.ireturn, 1) := by decide +kernel
theorem dX3_noteHit_0 : decode cX3_noteHit 0 = .ok (.aload_n 0, 1) := by decide +kernel
theorem dX3_noteHit_1 : decode cX3_noteHit 1 = .ok (.getfield 15, 3) := by decide +kernel
theorem dX3_noteHit_4 : decode cX3_noteHit 4 = .ok (.iload_n 1, 1) := by decide +kernel
theorem dX3_noteHit_5 : decode cX3_noteHit 5 = .ok (.iconst 4, 1) := by decide +kernel
theorem dX3_noteHit_6 : decode cX3_noteHit 6 = .ok (.imul, 1) := by decide +kernel
theorem dX3_noteHit_7 : decode cX3_noteHit 7 = .ok (.iload_n 2, 1) := by decide +kernel
theorem dX3_noteHit_8 : decode cX3_noteHit 8 = .ok (.iadd, 1) := by decide +kernel
theorem dX3_noteHit_9 : decode cX3_noteHit 9 = .ok (.iload_n 3, 1) := by decide +kernel
theorem dX3_noteHit_10 : decode cX3_noteHit 10 = .ok (.i2b, 1) := by decide +kernel
theorem dX3_noteHit_11 : decode cX3_noteHit 11 = .ok (.bastore, 1) := by decide +kernel
theorem dX3_noteHit_12 : decode cX3_noteHit 12 = .ok (.return_, 1) := by decide +kernel
theorem dX3_hitOf_0 : decode cX3_hitOf 0 = .ok (.aload_n 0, 1) := by decide +kernel
theorem dX3_hitOf_1 : decode cX3_hitOf 1 = .ok (.getfield 15, 3) := by decide +kernel
theorem dX3_hitOf_4 : decode cX3_hitOf 4 = .ok (.iload_n 1, 1) := by decide +kernel
theorem dX3_hitOf_5 : decode cX3_hitOf 5 = .ok (.iconst 4, 1) := by decide +kernel
theorem dX3_hitOf_6 : decode cX3_hitOf 6 = .ok (.imul, 1) := by decide +kernel
theorem dX3_hitOf_7 : decode cX3_hitOf 7 = .ok (.iload_n 2, 1) := by decide +kernel
theorem dX3_hitOf_8 : decode cX3_hitOf 8 = .ok (.iadd, 1) := by decide +kernel
theorem dX3_hitOf_9 : decode cX3_hitOf 9 = .ok (.baload, 1) := by decide +kernel
theorem dX3_hitOf_10 : decode cX3_hitOf 10 = .ok (.ireturn, 1) := by decide +kernel
theorem dX4_init_0 : decode cX4_init 0 = .ok (.aload_n 0, 1) := by decide +kernel
theorem dX4_init_1 : decode cX4_init 1 = .ok (.invokespecial 3, 3) := by decide +kernel
theorem dX4_init_4 : decode cX4_init 4 = .ok (.aload_n 0, 1) := by decide +kernel
theorem dX4_init_5 : decode cX4_init 5 = .ok (.bipush 65, 2) := by decide +kernel
theorem dX4_init_7 : decode cX4_init 7 = .ok (.newarray .int, 2) := by decide +kernel
theorem dX4_init_9 : decode cX4_init 9 = .ok (.putfield 9, 3) := by decide +kernel
theorem dX4_init_12 : decode cX4_init 12 = .ok (.return_, 1) := by decide +kernel
theorem dX4_wipe_0 : decode cX4_wipe 0 = .ok (.aload_n 0, 1) := by decide +kernel
theorem dX4_wipe_1 : decode cX4_wipe 1 = .ok (.getfield 9, 3) := by decide +kernel
theorem dX4_wipe_4 : decode cX4_wipe 4 = .ok (.iconst 0, 1) := by decide +kernel
theorem dX4_wipe_5 : decode cX4_wipe 5 = .ok (.invokestatic 15, 3) := by decide +kernel
theorem dX4_wipe_8 : decode cX4_wipe 8 = .ok (.aload_n 0, 1) := by decide +kernel
theorem dX4_wipe_9 : decode cX4_wipe 9 = .ok (.getfield 9, 3) := by decide +kernel
theorem dX4_wipe_12 : decode cX4_wipe 12 = .ok (.iconst 0, 1) := by decide +kernel
theorem dX4_wipe_13 : decode cX4_wipe 13 = .ok (.ldc 21, 2) := by decide +kernel
theorem dX4_wipe_15 : decode cX4_wipe 15 = .ok (.iastore, 1) := by decide +kernel
theorem dX4_wipe_16 : decode cX4_wipe 16 = .ok (.aload_n 0, 1) := by decide +kernel
theorem dX4_wipe_17 : decode cX4_wipe 17 = .ok (.iconst 0, 1) := by decide +kernel
theorem dX4_wipe_18 : decode cX4_wipe 18 = .ok (.putfield 22, 3) := by decide +kernel
theorem dX4_wipe_21 : decode cX4_wipe 21 = .ok (.aload_n 0, 1) := by decide +kernel
theorem dX4_wipe_22 : decode cX4_wipe 22 = .ok (.iconst 0, 1) := by decide +kernel
theorem dX4_wipe_23 : decode cX4_wipe 23 = .ok (.putfield 26, 3) := by decide +kernel
theorem dX4_wipe_26 : decode cX4_wipe 26 = .ok (.aload_n 0, 1) := by decide +kernel
theorem dX4_wipe_27 : decode cX4_wipe 27 = .ok (.iconst 0, 1) := by decide +kernel
theorem dX4_wipe_28 : decode cX4_wipe 28 = .ok (.putfield 29, 3) := by decide +kernel
theorem dX4_wipe_31 : decode cX4_wipe 31 = .ok (.return_, 1) := by decide +kernel
theorem dX4_addTrial_0 : decode cX4_addTrial 0 = .ok (.iload_n 1, 1) := by decide +kernel
theorem dX4_addTrial_1 : decode cX4_addTrial 1 = .ok (.iconst (-1), 1) := by decide +kernel
theorem dX4_addTrial_2 : decode cX4_addTrial 2 = .ok (.if_icmp .eq 12, 3) := by decide +kernel
theorem dX4_addTrial_5 : decode cX4_addTrial 5 = .ok (.aload_n 0, 1) := by decide +kernel
theorem dX4_addTrial_6 : decode cX4_addTrial 6 = .ok (.getfield 22, 3) := by decide +kernel
theorem dX4_addTrial_9 : decode cX4_addTrial 9 = .ok (.bipush 64, 2) := by decide +kernel
theorem dX4_addTrial_11 : decode cX4_addTrial 11 = .ok (.if_icmp .lt 4, 3) := by decide +kernel
theorem dX4_addTrial_14 : decode cX4_addTrial 14 = .ok (.return_, 1) := by decide +kernel
theorem dX4_addTrial_15 : decode cX4_addTrial 15 = .ok (.aload_n 0, 1) := by decide +kernel
theorem dX4_addTrial_16 : decode cX4_addTrial 16 = .ok (.dup, 1) := by decide +kernel
theorem dX4_addTrial_17 : decode cX4_addTrial 17 = .ok (.getfield 22, 3) := by decide +kernel
theorem dX4_addTrial_20 : decode cX4_addTrial 20 = .ok (.iconst 1, 1) := by decide +kernel
theorem dX4_addTrial_21 : decode cX4_addTrial 21 = .ok (.iadd, 1) := by decide +kernel
theorem dX4_addTrial_22 : decode cX4_addTrial 22 = .ok (.putfield 22, 3) := by decide +kernel
theorem dX4_addTrial_25 : decode cX4_addTrial 25 = .ok (.aload_n 0, 1) := by decide +kernel
theorem dX4_addTrial_26 : decode cX4_addTrial 26 = .ok (.dup, 1) := by decide +kernel
theorem dX4_addTrial_27 : decode cX4_addTrial 27 = .ok (.getfield 26, 3) := by decide +kernel
theorem dX4_addTrial_30 : decode cX4_addTrial 30 = .ok (.iload_n 2, 1) := by decide +kernel
theorem dX4_addTrial_31 : decode cX4_addTrial 31 = .ok (.ifCond .eq 7, 3) := by decide +kernel
theorem dX4_addTrial_34 : decode cX4_addTrial 34 = .ok (.iconst 1, 1) := by decide +kernel
theorem dX4_addTrial_35 : decode cX4_addTrial 35 = .ok (.goto 4, 3) := by decide +kernel
theorem dX4_addTrial_38 : decode cX4_addTrial 38 = .ok (.iconst 0, 1) := by decide +kernel
theorem dX4_addTrial_39 : decode cX4_addTrial 39 = .ok (.iadd, 1) := by decide +kernel
theorem dX4_addTrial_40 : decode cX4_addTrial 40 = .ok (.putfield 26, 3) := by decide +kernel
theorem dX4_addTrial_43 : decode cX4_addTrial 43 = .ok (.aload_n 0, 1) := by decide +kernel
theorem dX4_addTrial_44 : decode cX4_addTrial 44 = .ok (.iload_n 1, 1) := by decide +kernel
theorem dX4_addTrial_45 : decode cX4_addTrial 45 = .ok (.invokevirtual 32, 3) := by decide +kernel
theorem dX4_addTrial_48 : decode cX4_addTrial 48 = .ok (.aload_n 0, 1) := by decide +kernel
theorem dX4_addTrial_49 : decode cX4_addTrial 49 = .ok (.getfield 29, 3) := by decide +kernel
theorem dX4_addTrial_52 : decode cX4_addTrial 52 = .ok (.ifCond .ne 19, 3) := by decide +kernel
theorem dX4_addTrial_55 : decode cX4_addTrial 55 = .ok (.aload_n 0, 1) := by decide +kernel
theorem dX4_addTrial_56 : decode cX4_addTrial 56 = .ok (.invokevirtual 36, 3) := by decide +kernel
theorem dX4_addTrial_59 : decode cX4_addTrial 59 = .ok (.iload_n 3, 1) := by decide +kernel
theorem dX4_addTrial_60 : decode cX4_addTrial 60 = .ok (.if_icmp .gt 11, 3) := by decide +kernel
theorem dX4_addTrial_63 : decode cX4_addTrial 63 = .ok (.aload_n 0, 1) := by decide +kernel
theorem dX4_addTrial_64 : decode cX4_addTrial 64 = .ok (.iload 4, 2) := by decide +kernel
theorem dX4_addTrial_66 : decode cX4_addTrial 66 = .ok (.iconst 1, 1) := by decide +kernel
theorem dX4_addTrial_67 : decode cX4_addTrial 67 = .ok (.iadd, 1) := by decide +kernel
theorem dX4_addTrial_68 : decode cX4_addTrial 68 = .ok (.putfield 29, 3) := by decide +kernel
theorem dX4_addTrial_71 : decode cX4_addTrial 71 = .ok (.return_, 1) := by decide +kernel
theorem dX4_spread_0 : decode cX4_spread 0 = .ok (.ldc 21, 2) := by decide +kernel
theorem dX4_spread_2 : decode cX4_spread 2 = .ok (.iload_n 1, 1) := by decide +kernel
theorem dX4_spread_3 : decode cX4_spread 3 = .ok (.isub, 1) := by decide +kernel
theorem dX4_spread_4 : decode cX4_spread 4 = .ok (.i2l, 1) := by decide +kernel
theorem dX4_spread_5 : decode cX4_spread 5 = .ok (.lstore_n 2, 1) := by decide +kernel
theorem dX4_spread_6 : decode cX4_spread 6 = .ok (.aload_n 0, 1) := by decide +kernel
theorem dX4_spread_7 : decode cX4_spread 7 = .ok (.getfield 22, 3) := by decide +kernel
theorem dX4_spread_10 : decode cX4_spread 10 = .ok (.istore 4, 2) := by decide +kernel
theorem dX4_spread_12 : decode cX4_spread 12 = .ok (.iload 4, 2) := by decide +kernel
theorem dX4_spread_14 : decode cX4_spread 14 = .ok (.ifCond .le 44, 3) := by decide +kernel
theorem dX4_spread_17 : decode cX4_spread 17 = .ok (.aload_n 0, 1) := by decide +kernel
theorem dX4_spread_18 : decode cX4_spread 18 = .ok (.getfield 9, 3) := by decide +kernel
theorem dX4_spread_21 : decode cX4_spread 21 = .ok (.iload 4, 2) := by decide +kernel
theorem dX4_spread_23 : decode cX4_spread 23 = .ok (.aload_n 0, 1) := by decide +kernel
theorem dX4_spread_24 : decode cX4_spread 24 = .ok (.getfield 9, 3) := by decide +kernel
theorem dX4_spread_27 : decode cX4_spread 27 = .ok (.iload 4, 2) := by decide +kernel
theorem dX4_spread_29 : decode cX4_spread 29 = .ok (.iaload, 1) := by decide +kernel
theorem dX4_spread_30 : decode cX4_spread 30 = .ok (.i2l, 1) := by decide +kernel
theorem dX4_spread_31 : decode cX4_spread 31 = .ok (.lload_n 2, 1) := by decide +kernel
theorem dX4_spread_32 : decode cX4_spread 32 = .ok (.lmul, 1) := by decide +kernel
theorem dX4_spread_33 : decode cX4_spread 33 = .ok (.aload_n 0, 1) := by decide +kernel
theorem dX4_spread_34 : decode cX4_spread 34 = .ok (.getfield 9, 3) := by decide +kernel
theorem dX4_spread_37 : decode cX4_spread 37 = .ok (.iload 4, 2) := by decide +kernel
theorem dX4_spread_39 : decode cX4_spread 39 = .ok (.iconst 1, 1) := by decide +kernel
theorem dX4_spread_40 : decode cX4_spread 40 = .ok (.isub, 1) := by decide +kernel
theorem dX4_spread_41 : decode cX4_spread 41 = .ok (.iaload, 1) := by decide +kernel
theorem dX4_spread_42 : decode cX4_spread 42 = .ok (.i2l, 1) := by decide +kernel
theorem dX4_spread_43 : decode cX4_spread 43 = .ok (.iload_n 1, 1) := by decide +kernel
theorem dX4_spread_44 : decode cX4_spread 44 = .ok (.i2l, 1) := by decide +kernel
theorem dX4_spread_45 : decode cX4_spread 45 = .ok (.lmul, 1) := by decide +kernel
theorem dX4_spread_46 : decode cX4_spread 46 = .ok (.ladd, 1) := by decide +kernel
theorem dX4_spread_47 : decode cX4_spread 47 = .ok (.bipush 20, 2) := by decide +kernel
theorem dX4_spread_49 : decode cX4_spread 49 = .ok (.lshr, 1) := by decide +kernel
theorem dX4_spread_50 : decode cX4_spread 50 = .ok (.l2i, 1) := by decide +kernel
theorem dX4_spread_51 : decode cX4_spread 51 = .ok (.iastore, 1) := by decide +kernel
theorem dX4_spread_52 : decode cX4_spread 52 = .ok (.iinc 4 (-1), 3) := by decide +kernel
theorem dX4_spread_55 : decode cX4_spread 55 = .ok (.goto (-43), 3) := by decide +kernel
theorem dX4_spread_58 : decode cX4_spread 58 = .ok (.aload_n 0, 1) := by decide +kernel
theorem dX4_spread_59 : decode cX4_spread 59 = .ok (.getfield 9, 3) := by decide +kernel
theorem dX4_spread_62 : decode cX4_spread 62 = .ok (.iconst 0, 1) := by decide +kernel
theorem dX4_spread_63 : decode cX4_spread 63 = .ok (.aload_n 0, 1) := by decide +kernel
theorem dX4_spread_64 : decode cX4_spread 64 = .ok (.getfield 9, 3) := by decide +kernel
theorem dX4_spread_67 : decode cX4_spread 67 = .ok (.iconst 0, 1) := by decide +kernel
theorem dX4_spread_68 : decode cX4_spread 68 = .ok (.iaload, 1) := by decide +kernel
theorem dX4_spread_69 : decode cX4_spread 69 = .ok (.i2l, 1) := by decide +kernel
theorem dX4_spread_70 : decode cX4_spread 70 = .ok (.lload_n 2, 1) := by decide +kernel
theorem dX4_spread_71 : decode cX4_spread 71 = .ok (.lmul, 1) := by decide +kernel
theorem dX4_spread_72 : decode cX4_spread 72 = .ok (.bipush 20, 2) := by decide +kernel
theorem dX4_spread_74 : decode cX4_spread 74 = .ok (.lshr, 1) := by decide +kernel
theorem dX4_spread_75 : decode cX4_spread 75 = .ok (.l2i, 1) := by decide +kernel
theorem dX4_spread_76 : decode cX4_spread 76 = .ok (.iastore, 1) := by decide +kernel
theorem dX4_spread_77 : decode cX4_spread 77 = .ok (.return_, 1) := by decide +kernel
theorem dX4_tail_0 : decode cX4_tail 0 = .ok (.iconst 0, 1) := by decide +kernel
theorem dX4_tail_1 : decode cX4_tail 1 = .ok (.istore_n 1, 1) := by decide +kernel
theorem dX4_tail_2 : decode cX4_tail 2 = .ok (.aload_n 0, 1) := by decide +kernel
theorem dX4_tail_3 : decode cX4_tail 3 = .ok (.getfield 26, 3) := by decide +kernel
theorem dX4_tail_6 : decode cX4_tail 6 = .ok (.istore_n 2, 1) := by decide +kernel
theorem dX4_tail_7 : decode cX4_tail 7 = .ok (.iload_n 2, 1) := by decide +kernel
theorem dX4_tail_8 : decode cX4_tail 8 = .ok (.bipush 64, 2) := by decide +kernel
theorem dX4_tail_10 : decode cX4_tail 10 = .ok (.if_icmp .gt 18, 3) := by decide +kernel
theorem dX4_tail_13 : decode cX4_tail 13 = .ok (.iload_n 1, 1) := by decide +kernel
theorem dX4_tail_14 : decode cX4_tail 14 = .ok (.aload_n 0, 1) := by decide +kernel
theorem dX4_tail_15 : decode cX4_tail 15 = .ok (.getfield 9, 3) := by decide +kernel
theorem dX4_tail_18 : decode cX4_tail 18 = .ok (.iload_n 2, 1) := by decide +kernel
theorem dX4_tail_19 : decode cX4_tail 19 = .ok (.iaload, 1) := by decide +kernel
theorem dX4_tail_20 : decode cX4_tail 20 = .ok (.iadd, 1) := by decide +kernel
theorem dX4_tail_21 : decode cX4_tail 21 = .ok (.istore_n 1, 1) := by decide +kernel
theorem dX4_tail_22 : decode cX4_tail 22 = .ok (.iinc 2 1, 3) := by decide +kernel
theorem dX4_tail_25 : decode cX4_tail 25 = .ok (.goto (-18), 3) := by decide +kernel
theorem dX4_tail_28 : decode cX4_tail 28 = .ok (.iload_n 1, 1) := by decide +kernel
theorem dX4_tail_29 : decode cX4_tail 29 = .ok (.ireturn, 1) := by decide +kernel
theorem dX5_init_0 : decode cX5_init 0 = .ok (.aload_n 0, 1) := by decide +kernel
theorem dX5_init_1 : decode cX5_init 1 = .ok (.invokespecial 1, 3) := by decide +kernel
theorem dX5_init_4 : decode cX5_init 4 = .ok (.aload_n 0, 1) := by decide +kernel
theorem dX5_init_5 : decode cX5_init 5 = .ok (.iload_n 1, 1) := by decide +kernel
theorem dX5_init_6 : decode cX5_init 6 = .ok (.anewarray 7, 3) := by decide +kernel
theorem dX5_init_9 : decode cX5_init 9 = .ok (.putfield 9, 3) := by decide +kernel
theorem dX5_init_12 : decode cX5_init 12 = .ok (.iconst 0, 1) := by decide +kernel
theorem dX5_init_13 : decode cX5_init 13 = .ok (.istore_n 3, 1) := by decide +kernel
theorem dX5_init_14 : decode cX5_init 14 = .ok (.iload_n 3, 1) := by decide +kernel
theorem dX5_init_15 : decode cX5_init 15 = .ok (.iload_n 1, 1) := by decide +kernel
theorem dX5_init_16 : decode cX5_init 16 = .ok (.if_icmp .ge 23, 3) := by decide +kernel
theorem dX5_init_19 : decode cX5_init 19 = .ok (.aload_n 0, 1) := by decide +kernel
theorem dX5_init_20 : decode cX5_init 20 = .ok (.getfield 9, 3) := by decide +kernel
theorem dX5_init_23 : decode cX5_init 23 = .ok (.iload_n 3, 1) := by decide +kernel
theorem dX5_init_24 : decode cX5_init 24 = .ok (.new 7, 3) := by decide +kernel
theorem dX5_init_27 : decode cX5_init 27 = .ok (.dup, 1) := by decide +kernel
theorem dX5_init_28 : decode cX5_init 28 = .ok (.aload_n 2, 1) := by decide +kernel
theorem dX5_init_29 : decode cX5_init 29 = .ok (.invokespecial 15, 3) := by decide +kernel
theorem dX5_init_32 : decode cX5_init 32 = .ok (.aastore, 1) := by decide +kernel
theorem dX5_init_33 : decode cX5_init 33 = .ok (.iinc 3 1, 3) := by decide +kernel
theorem dX5_init_36 : decode cX5_init 36 = .ok (.goto (-22), 3) := by decide +kernel
theorem dX5_init_39 : decode cX5_init 39 = .ok (.return_, 1) := by decide +kernel
theorem dX5_stateAt_0 : decode cX5_stateAt 0 = .ok (.aload_n 0, 1) := by decide +kernel
theorem dX5_stateAt_1 : decode cX5_stateAt 1 = .ok (.getfield 9, 3) := by decide +kernel
theorem dX5_stateAt_4 : decode cX5_stateAt 4 = .ok (.iload_n 1, 1) := by decide +kernel
theorem dX5_stateAt_5 : decode cX5_stateAt 5 = .ok (.aload_n 0, 1) := by decide +kernel
theorem dX5_stateAt_6 : decode cX5_stateAt 6 = .ok (.getfield 9, 3) := by decide +kernel
theorem dX5_stateAt_9 : decode cX5_stateAt 9 = .ok (.arraylength, 1) := by decide +kernel
theorem dX5_stateAt_10 : decode cX5_stateAt 10 = .ok (.iconst 1, 1) := by decide +kernel
theorem dX5_stateAt_11 : decode cX5_stateAt 11 = .ok (.isub, 1) := by decide +kernel
theorem dX5_stateAt_12 : decode cX5_stateAt 12 = .ok (.iand, 1) := by decide +kernel
theorem dX5_stateAt_13 : decode cX5_stateAt 13 = .ok (.aaload, 1) := by decide +kernel
theorem dX5_stateAt_14 : decode cX5_stateAt 14 = .ok (.areturn, 1) := by decide +kernel
theorem dX5_restart_0 : decode cX5_restart 0 = .ok (.aload_n 0, 1) := by decide +kernel
theorem dX5_restart_1 : decode cX5_restart 1 = .ok (.getfield 9, 3) := by decide +kernel
theorem dX5_restart_4 : decode cX5_restart 4 = .ok (.iconst 0, 1) := by decide +kernel
theorem dX5_restart_5 : decode cX5_restart 5 = .ok (.aaload, 1) := by decide +kernel
theorem dX5_restart_6 : decode cX5_restart 6 = .ok (.aload_n 1, 1) := by decide +kernel
theorem dX5_restart_7 : decode cX5_restart 7 = .ok (.invokevirtual 18, 3) := by decide +kernel
theorem dX5_restart_10 : decode cX5_restart 10 = .ok (.return_, 1) := by decide +kernel
theorem dX5_work_0 : decode cX5_work 0 = .ok (.iload_n 1, 1) := by decide +kernel
theorem dX5_work_1 : decode cX5_work 1 = .ok (.istore 4, 2) := by decide +kernel
theorem dX5_work_3 : decode cX5_work 3 = .ok (.iload 4, 2) := by decide +kernel
theorem dX5_work_5 : decode cX5_work 5 = .ok (.iload_n 2, 1) := by decide +kernel
theorem dX5_work_6 : decode cX5_work 6 = .ok (.if_icmp .ge 48, 3) := by decide +kernel
theorem dX5_work_9 : decode cX5_work 9 = .ok (.aload_n 0, 1) := by decide +kernel
theorem dX5_work_10 : decode cX5_work 10 = .ok (.iload 4, 2) := by decide +kernel
theorem dX5_work_12 : decode cX5_work 12 = .ok (.iconst 1, 1) := by decide +kernel
theorem dX5_work_13 : decode cX5_work 13 = .ok (.iadd, 1) := by decide +kernel
theorem dX5_work_14 : decode cX5_work 14 = .ok (.invokevirtual 22, 3) := by decide +kernel
theorem dX5_work_17 : decode cX5_work 17 = .ok (.astore 5, 2) := by decide +kernel
theorem dX5_work_19 : decode cX5_work 19 = .ok (.aload 5, 2) := by decide +kernel
theorem dX5_work_21 : decode cX5_work 21 = .ok (.aload_n 0, 1) := by decide +kernel
theorem dX5_work_22 : decode cX5_work 22 = .ok (.iload 4, 2) := by decide +kernel
theorem dX5_work_24 : decode cX5_work 24 = .ok (.invokevirtual 22, 3) := by decide +kernel
theorem dX5_work_27 : decode cX5_work 27 = .ok (.invokevirtual 18, 3) := by decide +kernel
theorem dX5_work_30 : decode cX5_work 30 = .ok (.aload 5, 2) := by decide +kernel
theorem dX5_work_32 : decode cX5_work 32 = .ok (.iload 4, 2) := by decide +kernel
theorem dX5_work_34 : decode cX5_work 34 = .ok (.aload_n 3, 1) := by decide +kernel
theorem dX5_work_35 : decode cX5_work 35 = .ok (.invokevirtual 26, 3) := by decide +kernel
theorem dX5_work_38 : decode cX5_work 38 = .ok (.aload 5, 2) := by decide +kernel
theorem dX5_work_40 : decode cX5_work 40 = .ok (.invokevirtual 30, 3) := by decide +kernel
theorem dX5_work_43 : decode cX5_work 43 = .ok (.aload 5, 2) := by decide +kernel
theorem dX5_work_45 : decode cX5_work 45 = .ok (.invokevirtual 33, 3) := by decide +kernel
theorem dX5_work_48 : decode cX5_work 48 = .ok (.iinc 4 1, 3) := by decide +kernel
theorem dX5_work_51 : decode cX5_work 51 = .ok (.goto (-48), 3) := by decide +kernel
theorem dX5_work_54 : decode cX5_work 54 = .ok (.return_, 1) := by decide +kernel
theorem dX6_init_0 : decode cX6_init 0 = .ok (.aload_n 0, 1) := by decide +kernel
theorem dX6_init_1 : decode cX6_init 1 = .ok (.invokespecial 3, 3) := by decide +kernel
theorem dX6_init_4 : decode cX6_init 4 = .ok (.aload_n 0, 1) := by decide +kernel
theorem dX6_init_5 : decode cX6_init 5 = .ok (.bipush 16, 2) := by decide +kernel
theorem dX6_init_7 : decode cX6_init 7 = .ok (.newarray .int, 2) := by decide +kernel
theorem dX6_init_9 : decode cX6_init 9 = .ok (.putfield 9, 3) := by decide +kernel
theorem dX6_init_12 : decode cX6_init 12 = .ok (.aload_n 0, 1) := by decide +kernel
theorem dX6_init_13 : decode cX6_init 13 = .ok (.bipush 16, 2) := by decide +kernel
theorem dX6_init_15 : decode cX6_init 15 = .ok (.newarray .int, 2) := by decide +kernel
theorem dX6_init_17 : decode cX6_init 17 = .ok (.putfield 15, 3) := by decide +kernel
theorem dX6_init_20 : decode cX6_init 20 = .ok (.aload_n 0, 1) := by decide +kernel
theorem dX6_init_21 : decode cX6_init 21 = .ok (.bipush 16, 2) := by decide +kernel
theorem dX6_init_23 : decode cX6_init 23 = .ok (.newarray .int, 2) := by decide +kernel
theorem dX6_init_25 : decode cX6_init 25 = .ok (.putfield 18, 3) := by decide +kernel
theorem dX6_init_28 : decode cX6_init 28 = .ok (.aload_n 0, 1) := by decide +kernel
theorem dX6_init_29 : decode cX6_init 29 = .ok (.iconst 4, 1) := by decide +kernel
theorem dX6_init_30 : decode cX6_init 30 = .ok (.newarray .int, 2) := by decide +kernel
theorem dX6_init_32 : decode cX6_init 32 = .ok (.putfield 21, 3) := by decide +kernel
theorem dX6_init_35 : decode cX6_init 35 = .ok (.aload_n 0, 1) := by decide +kernel
theorem dX6_init_36 : decode cX6_init 36 = .ok (.iconst 4, 1) := by decide +kernel
theorem dX6_init_37 : decode cX6_init 37 = .ok (.newarray .int, 2) := by decide +kernel
theorem dX6_init_39 : decode cX6_init 39 = .ok (.putfield 24, 3) := by decide +kernel
theorem dX6_init_42 : decode cX6_init 42 = .ok (.aload_n 0, 1) := by decide +kernel
theorem dX6_init_43 : decode cX6_init 43 = .ok (.iconst 4, 1) := by decide +kernel
theorem dX6_init_44 : decode cX6_init 44 = .ok (.newarray .int, 2) := by decide +kernel
theorem dX6_init_46 : decode cX6_init 46 = .ok (.putfield 27, 3) := by decide +kernel
theorem dX6_init_49 : decode cX6_init 49 = .ok (.aload_n 0, 1) := by decide +kernel
theorem dX6_init_50 : decode cX6_init 50 = .ok (.iconst 4, 1) := by decide +kernel
theorem dX6_init_51 : decode cX6_init 51 = .ok (.newarray .int, 2) := by decide +kernel
theorem dX6_init_53 : decode cX6_init 53 = .ok (.putfield 30, 3) := by decide +kernel
theorem dX6_init_56 : decode cX6_init 56 = .ok (.aload_n 0, 1) := by decide +kernel
theorem dX6_init_57 : decode cX6_init 57 = .ok (.iconst 4, 1) := by decide +kernel
theorem dX6_init_58 : decode cX6_init 58 = .ok (.newarray .int, 2) := by decide +kernel
theorem dX6_init_60 : decode cX6_init 60 = .ok (.putfield 33, 3) := by decide +kernel
theorem dX6_init_63 : decode cX6_init 63 = .ok (.aload_n 0, 1) := by decide +kernel
theorem dX6_init_64 : decode cX6_init 64 = .ok (.bipush 8, 2) := by decide +kernel
theorem dX6_init_66 : decode cX6_init 66 = .ok (.newarray .int, 2) := by decide +kernel
theorem dX6_init_68 : decode cX6_init 68 = .ok (.putfield 36, 3) := by decide +kernel
theorem dX6_init_71 : decode cX6_init 71 = .ok (.aload_n 0, 1) := by decide +kernel
theorem dX6_init_72 : decode cX6_init 72 = .ok (.aload_n 1, 1) := by decide +kernel
theorem dX6_init_73 : decode cX6_init 73 = .ok (.putfield 39, 3) := by decide +kernel
theorem dX6_init_76 : decode cX6_init 76 = .ok (.return_, 1) := by decide +kernel
theorem dX6_arrange_0 : decode cX6_arrange 0 = .ok (.aload_n 0, 1) := by decide +kernel
theorem dX6_arrange_1 : decode cX6_arrange 1 = .ok (.getfield 9, 3) := by decide +kernel
theorem dX6_arrange_4 : decode cX6_arrange 4 = .ok (.iconst (-1), 1) := by decide +kernel
theorem dX6_arrange_5 : decode cX6_arrange 5 = .ok (.invokestatic 43, 3) := by decide +kernel
theorem dX6_arrange_8 : decode cX6_arrange 8 = .ok (.aload_n 0, 1) := by decide +kernel
theorem dX6_arrange_9 : decode cX6_arrange 9 = .ok (.getfield 15, 3) := by decide +kernel
theorem dX6_arrange_12 : decode cX6_arrange 12 = .ok (.iconst 0, 1) := by decide +kernel
theorem dX6_arrange_13 : decode cX6_arrange 13 = .ok (.invokestatic 43, 3) := by decide +kernel
theorem dX6_arrange_16 : decode cX6_arrange 16 = .ok (.aload_n 0, 1) := by decide +kernel
theorem dX6_arrange_17 : decode cX6_arrange 17 = .ok (.getfield 18, 3) := by decide +kernel
theorem dX6_arrange_20 : decode cX6_arrange 20 = .ok (.iconst (-1), 1) := by decide +kernel
theorem dX6_arrange_21 : decode cX6_arrange 21 = .ok (.invokestatic 43, 3) := by decide +kernel
theorem dX6_arrange_24 : decode cX6_arrange 24 = .ok (.aload_n 0, 1) := by decide +kernel
theorem dX6_arrange_25 : decode cX6_arrange 25 = .ok (.getfield 21, 3) := by decide +kernel
theorem dX6_arrange_28 : decode cX6_arrange 28 = .ok (.iconst 1, 1) := by decide +kernel
theorem dX6_arrange_29 : decode cX6_arrange 29 = .ok (.invokestatic 43, 3) := by decide +kernel
theorem dX6_arrange_32 : decode cX6_arrange 32 = .ok (.aload_n 0, 1) := by decide +kernel
theorem dX6_arrange_33 : decode cX6_arrange 33 = .ok (.getfield 24, 3) := by decide +kernel
theorem dX6_arrange_36 : decode cX6_arrange 36 = .ok (.iconst 0, 1) := by decide +kernel
theorem dX6_arrange_37 : decode cX6_arrange 37 = .ok (.invokestatic 43, 3) := by decide +kernel
theorem dX6_arrange_40 : decode cX6_arrange 40 = .ok (.aload_n 0, 1) := by decide +kernel
theorem dX6_arrange_41 : decode cX6_arrange 41 = .ok (.getfield 27, 3) := by decide +kernel
theorem dX6_arrange_44 : decode cX6_arrange 44 = .ok (.iconst (-1), 1) := by decide +kernel
theorem dX6_arrange_45 : decode cX6_arrange 45 = .ok (.invokestatic 43, 3) := by decide +kernel
theorem dX6_arrange_48 : decode cX6_arrange 48 = .ok (.aload_n 0, 1) := by decide +kernel
theorem dX6_arrange_49 : decode cX6_arrange 49 = .ok (.getfield 30, 3) := by decide +kernel
theorem dX6_arrange_52 : decode cX6_arrange 52 = .ok (.iconst 0, 1) := by decide +kernel
theorem dX6_arrange_53 : decode cX6_arrange 53 = .ok (.invokestatic 43, 3) := by decide +kernel
theorem dX6_arrange_56 : decode cX6_arrange 56 = .ok (.aload_n 0, 1) := by decide +kernel
theorem dX6_arrange_57 : decode cX6_arrange 57 = .ok (.getfield 33, 3) := by decide +kernel
theorem dX6_arrange_60 : decode cX6_arrange 60 = .ok (.iconst 0, 1) := by decide +kernel
theorem dX6_arrange_61 : decode cX6_arrange 61 = .ok (.invokestatic 43, 3) := by decide +kernel
theorem dX6_arrange_64 : decode cX6_arrange 64 = .ok (.aload_n 0, 1) := by decide +kernel
theorem dX6_arrange_65 : decode cX6_arrange 65 = .ok (.getfield 36, 3) := by decide +kernel
theorem dX6_arrange_68 : decode cX6_arrange 68 = .ok (.iconst 0, 1) := by decide +kernel
theorem dX6_arrange_69 : decode cX6_arrange 69 = .ok (.invokestatic 43, 3) := by decide +kernel
theorem dX6_arrange_72 : decode cX6_arrange 72 = .ok (.iconst 0, 1) := by decide +kernel
theorem dX6_arrange_73 : decode cX6_arrange 73 = .ok (.istore_n 1, 1) := by decide +kernel
theorem dX6_arrange_74 : decode cX6_arrange 74 = .ok (.iload_n 1, 1) := by decide +kernel
theorem dX6_arrange_75 : decode cX6_arrange 75 = .ok (.aload_n 0, 1) := by decide +kernel
theorem dX6_arrange_76 : decode cX6_arrange 76 = .ok (.getfield 39, 3) := by decide +kernel
theorem dX6_arrange_79 : decode cX6_arrange 79 = .ok (.getfield 49, 3) := by decide +kernel
theorem dX6_arrange_82 : decode cX6_arrange 82 = .ok (.if_icmp .ge 23, 3) := by decide +kernel
theorem dX6_arrange_85 : decode cX6_arrange 85 = .ok (.aload_n 0, 1) := by decide +kernel
theorem dX6_arrange_86 : decode cX6_arrange 86 = .ok (.iload_n 1, 1) := by decide +kernel
theorem dX6_arrange_87 : decode cX6_arrange 87 = .ok (.iconst 0, 1) := by decide +kernel
theorem dX6_arrange_88 : decode cX6_arrange 88 = .ok (.aload_n 0, 1) := by decide +kernel
theorem dX6_arrange_89 : decode cX6_arrange 89 = .ok (.getfield 39, 3) := by decide +kernel
theorem dX6_arrange_92 : decode cX6_arrange 92 = .ok (.iload_n 1, 1) := by decide +kernel
theorem dX6_arrange_93 : decode cX6_arrange 93 = .ok (.invokevirtual 55, 3) := by decide +kernel
theorem dX6_arrange_96 : decode cX6_arrange 96 = .ok (.invokevirtual 59, 3) := by decide +kernel
theorem dX6_arrange_99 : decode cX6_arrange 99 = .ok (.iinc 1 1, 3) := by decide +kernel
theorem dX6_arrange_102 : decode cX6_arrange 102 = .ok (.goto (-28), 3) := by decide +kernel
theorem dX6_arrange_105 : decode cX6_arrange 105 = .ok (.return_, 1) := by decide +kernel
theorem dX6_putNew_0 : decode cX6_putNew 0 = .ok (.aload_n 0, 1) := by decide +kernel
theorem dX6_putNew_1 : decode cX6_putNew 1 = .ok (.getfield 9, 3) := by decide +kernel
theorem dX6_putNew_4 : decode cX6_putNew 4 = .ok (.iload_n 1, 1) := by decide +kernel
theorem dX6_putNew_5 : decode cX6_putNew 5 = .ok (.iload_n 3, 1) := by decide +kernel
theorem dX6_putNew_6 : decode cX6_putNew 6 = .ok (.iastore, 1) := by decide +kernel
theorem dX6_putNew_7 : decode cX6_putNew 7 = .ok (.aload_n 0, 1) := by decide +kernel
theorem dX6_putNew_8 : decode cX6_putNew 8 = .ok (.getfield 15, 3) := by decide +kernel
theorem dX6_putNew_11 : decode cX6_putNew 11 = .ok (.iload_n 1, 1) := by decide +kernel
theorem dX6_putNew_12 : decode cX6_putNew 12 = .ok (.getstatic 63, 3) := by decide +kernel
theorem dX6_putNew_15 : decode cX6_putNew 15 = .ok (.iload_n 2, 1) := by decide +kernel
theorem dX6_putNew_16 : decode cX6_putNew 16 = .ok (.iaload, 1) := by decide +kernel
theorem dX6_putNew_17 : decode cX6_putNew 17 = .ok (.iastore, 1) := by decide +kernel
theorem dX6_putNew_18 : decode cX6_putNew 18 = .ok (.return_, 1) := by decide +kernel
theorem dX6_copyFrom_0 : decode cX6_copyFrom 0 = .ok (.aload_n 1, 1) := by decide +kernel
theorem dX6_copyFrom_1 : decode cX6_copyFrom 1 = .ok (.getfield 9, 3) := by decide +kernel
theorem dX6_copyFrom_4 : decode cX6_copyFrom 4 = .ok (.iconst 0, 1) := by decide +kernel
theorem dX6_copyFrom_5 : decode cX6_copyFrom 5 = .ok (.aload_n 0, 1) := by decide +kernel
theorem dX6_copyFrom_6 : decode cX6_copyFrom 6 = .ok (.getfield 9, 3) := by decide +kernel
theorem dX6_copyFrom_9 : decode cX6_copyFrom 9 = .ok (.iconst 0, 1) := by decide +kernel
theorem dX6_copyFrom_10 : decode cX6_copyFrom 10 = .ok (.bipush 16, 2) := by decide +kernel
theorem dX6_copyFrom_12 : decode cX6_copyFrom 12 = .ok (.invokestatic 66, 3) := by decide +kernel
theorem dX6_copyFrom_15 : decode cX6_copyFrom 15 = .ok (.aload_n 1, 1) := by decide +kernel
theorem dX6_copyFrom_16 : decode cX6_copyFrom 16 = .ok (.getfield 15, 3) := by decide +kernel
theorem dX6_copyFrom_19 : decode cX6_copyFrom 19 = .ok (.iconst 0, 1) := by decide +kernel
theorem dX6_copyFrom_20 : decode cX6_copyFrom 20 = .ok (.aload_n 0, 1) := by decide +kernel
theorem dX6_copyFrom_21 : decode cX6_copyFrom 21 = .ok (.getfield 15, 3) := by decide +kernel
theorem dX6_copyFrom_24 : decode cX6_copyFrom 24 = .ok (.iconst 0, 1) := by decide +kernel
theorem dX6_copyFrom_25 : decode cX6_copyFrom 25 = .ok (.bipush 16, 2) := by decide +kernel
theorem dX6_copyFrom_27 : decode cX6_copyFrom 27 = .ok (.invokestatic 66, 3) := by decide +kernel
theorem dX6_copyFrom_30 : decode cX6_copyFrom 30 = .ok (.aload_n 1, 1) := by decide +kernel
theorem dX6_copyFrom_31 : decode cX6_copyFrom 31 = .ok (.getfield 18, 3) := by decide +kernel
theorem dX6_copyFrom_34 : decode cX6_copyFrom 34 = .ok (.iconst 0, 1) := by decide +kernel
theorem dX6_copyFrom_35 : decode cX6_copyFrom 35 = .ok (.aload_n 0, 1) := by decide +kernel
theorem dX6_copyFrom_36 : decode cX6_copyFrom 36 = .ok (.getfield 18, 3) := by decide +kernel
theorem dX6_copyFrom_39 : decode cX6_copyFrom 39 = .ok (.iconst 0, 1) := by decide +kernel
theorem dX6_copyFrom_40 : decode cX6_copyFrom 40 = .ok (.bipush 16, 2) := by decide +kernel
theorem dX6_copyFrom_42 : decode cX6_copyFrom 42 = .ok (.invokestatic 66, 3) := by decide +kernel
theorem dX6_copyFrom_45 : decode cX6_copyFrom 45 = .ok (.aload_n 1, 1) := by decide +kernel
theorem dX6_copyFrom_46 : decode cX6_copyFrom 46 = .ok (.getfield 21, 3) := by decide +kernel
theorem dX6_copyFrom_49 : decode cX6_copyFrom 49 = .ok (.iconst 0, 1) := by decide +kernel
theorem dX6_copyFrom_50 : decode cX6_copyFrom 50 = .ok (.aload_n 0, 1) := by decide +kernel
theorem dX6_copyFrom_51 : decode cX6_copyFrom 51 = .ok (.getfield 21, 3) := by decide +kernel
theorem dX6_copyFrom_54 : decode cX6_copyFrom 54 = .ok (.iconst 0, 1) := by decide +kernel
theorem dX6_copyFrom_55 : decode cX6_copyFrom 55 = .ok (.iconst 4, 1) := by decide +kernel
theorem dX6_copyFrom_56 : decode cX6_copyFrom 56 = .ok (.invokestatic 66, 3) := by decide +kernel
theorem dX6_copyFrom_59 : decode cX6_copyFrom 59 = .ok (.aload_n 1, 1) := by decide +kernel
theorem dX6_copyFrom_60 : decode cX6_copyFrom 60 = .ok (.getfield 24, 3) := by decide +kernel
theorem dX6_copyFrom_63 : decode cX6_copyFrom 63 = .ok (.iconst 0, 1) := by decide +kernel
theorem dX6_copyFrom_64 : decode cX6_copyFrom 64 = .ok (.aload_n 0, 1) := by decide +kernel
theorem dX6_copyFrom_65 : decode cX6_copyFrom 65 = .ok (.getfield 24, 3) := by decide +kernel
theorem dX6_copyFrom_68 : decode cX6_copyFrom 68 = .ok (.iconst 0, 1) := by decide +kernel
theorem dX6_copyFrom_69 : decode cX6_copyFrom 69 = .ok (.iconst 4, 1) := by decide +kernel
theorem dX6_copyFrom_70 : decode cX6_copyFrom 70 = .ok (.invokestatic 66, 3) := by decide +kernel
theorem dX6_copyFrom_73 : decode cX6_copyFrom 73 = .ok (.aload_n 1, 1) := by decide +kernel
theorem dX6_copyFrom_74 : decode cX6_copyFrom 74 = .ok (.getfield 27, 3) := by decide +kernel
theorem dX6_copyFrom_77 : decode cX6_copyFrom 77 = .ok (.iconst 0, 1) := by decide +kernel
theorem dX6_copyFrom_78 : decode cX6_copyFrom 78 = .ok (.aload_n 0, 1) := by decide +kernel
theorem dX6_copyFrom_79 : decode cX6_copyFrom 79 = .ok (.getfield 27, 3) := by decide +kernel
theorem dX6_copyFrom_82 : decode cX6_copyFrom 82 = .ok (.iconst 0, 1) := by decide +kernel
theorem dX6_copyFrom_83 : decode cX6_copyFrom 83 = .ok (.iconst 4, 1) := by decide +kernel
theorem dX6_copyFrom_84 : decode cX6_copyFrom 84 = .ok (.invokestatic 66, 3) := by decide +kernel
theorem dX6_copyFrom_87 : decode cX6_copyFrom 87 = .ok (.aload_n 1, 1) := by decide +kernel
theorem dX6_copyFrom_88 : decode cX6_copyFrom 88 = .ok (.getfield 30, 3) := by decide +kernel
theorem dX6_copyFrom_91 : decode cX6_copyFrom 91 = .ok (.iconst 0, 1) := by decide +kernel
theorem dX6_copyFrom_92 : decode cX6_copyFrom 92 = .ok (.aload_n 0, 1) := by decide +kernel
theorem dX6_copyFrom_93 : decode cX6_copyFrom 93 = .ok (.getfield 30, 3) := by decide +kernel
theorem dX6_copyFrom_96 : decode cX6_copyFrom 96 = .ok (.iconst 0, 1) := by decide +kernel
theorem dX6_copyFrom_97 : decode cX6_copyFrom 97 = .ok (.iconst 4, 1) := by decide +kernel
theorem dX6_copyFrom_98 : decode cX6_copyFrom 98 = .ok (.invokestatic 66, 3) := by decide +kernel
theorem dX6_copyFrom_101 : decode cX6_copyFrom 101 = .ok (.aload_n 1, 1) := by decide +kernel
theorem dX6_copyFrom_102 : decode cX6_copyFrom 102 = .ok (.getfield 33, 3) := by decide +kernel
theorem dX6_copyFrom_105 : decode cX6_copyFrom 105 = .ok (.iconst 0, 1) := by decide +kernel
theorem dX6_copyFrom_106 : decode cX6_copyFrom 106 = .ok (.aload_n 0, 1) := by decide +kernel
theorem dX6_copyFrom_107 : decode cX6_copyFrom 107 = .ok (.getfield 33, 3) := by decide +kernel
theorem dX6_copyFrom_110 : decode cX6_copyFrom 110 = .ok (.iconst 0, 1) := by decide +kernel
theorem dX6_copyFrom_111 : decode cX6_copyFrom 111 = .ok (.iconst 4, 1) := by decide +kernel
theorem dX6_copyFrom_112 : decode cX6_copyFrom 112 = .ok (.invokestatic 66, 3) := by decide +kernel
theorem dX6_copyFrom_115 : decode cX6_copyFrom 115 = .ok (.aload_n 1, 1) := by decide +kernel
theorem dX6_copyFrom_116 : decode cX6_copyFrom 116 = .ok (.getfield 36, 3) := by decide +kernel
theorem dX6_copyFrom_119 : decode cX6_copyFrom 119 = .ok (.iconst 0, 1) := by decide +kernel
theorem dX6_copyFrom_120 : decode cX6_copyFrom 120 = .ok (.aload_n 0, 1) := by decide +kernel
theorem dX6_copyFrom_121 : decode cX6_copyFrom 121 = .ok (.getfield 36, 3) := by decide +kernel
theorem dX6_copyFrom_124 : decode cX6_copyFrom 124 = .ok (.iconst 0, 1) := by decide +kernel
theorem dX6_copyFrom_125 : decode cX6_copyFrom 125 = .ok (.bipush 8, 2) := by decide +kernel
theorem dX6_copyFrom_127 : decode cX6_copyFrom 127 = .ok (.invokestatic 66, 3) := by decide +kernel
theorem dX6_copyFrom_130 : decode cX6_copyFrom 130 = .ok (.return_, 1) := by decide +kernel
theorem dX6_standsOrLiesIn_0 : decode cX6_standsOrLiesIn 0 = .ok (.aload_n 0, 1) := by decide +kernel
theorem dX6_standsOrLiesIn_1 : decode cX6_standsOrLiesIn 1 = .ok (.getfield 9, 3) := by decide +kernel
theorem dX6_standsOrLiesIn_4 : decode cX6_standsOrLiesIn 4 = .ok (.iload_n 1, 1) := by decide +kernel
theorem dX6_standsOrLiesIn_5 : decode cX6_standsOrLiesIn 5 = .ok (.iaload, 1) := by decide +kernel
theorem dX6_standsOrLiesIn_6 : decode cX6_standsOrLiesIn 6 = .ok (.iload_n 2, 1) := by decide +kernel
theorem dX6_standsOrLiesIn_7 : decode cX6_standsOrLiesIn 7 = .ok (.if_icmp .ne 29, 3) := by decide +kernel
theorem dX6_standsOrLiesIn_10 : decode cX6_standsOrLiesIn 10 = .ok (.aload_n 0, 1) := by decide +kernel
theorem dX6_standsOrLiesIn_11 : decode cX6_standsOrLiesIn 11 = .ok (.getfield 39, 3) := by decide +kernel
theorem dX6_standsOrLiesIn_14 : decode cX6_standsOrLiesIn 14 = .ok (.getfield 72, 3) := by decide +kernel
theorem dX6_standsOrLiesIn_17 : decode cX6_standsOrLiesIn 17 = .ok (.iload_n 1, 1) := by decide +kernel
theorem dX6_standsOrLiesIn_18 : decode cX6_standsOrLiesIn 18 = .ok (.iaload, 1) := by decide +kernel
theorem dX6_standsOrLiesIn_19 : decode cX6_standsOrLiesIn 19 = .ok (.iconst 2, 1) := by decide +kernel
theorem dX6_standsOrLiesIn_20 : decode cX6_standsOrLiesIn 20 = .ok (.if_icmp .gt 12, 3) := by decide +kernel
theorem dX6_standsOrLiesIn_23 : decode cX6_standsOrLiesIn 23 = .ok (.aload_n 0, 1) := by decide +kernel
theorem dX6_standsOrLiesIn_24 : decode cX6_standsOrLiesIn 24 = .ok (.getfield 15, 3) := by decide +kernel
theorem dX6_standsOrLiesIn_27 : decode cX6_standsOrLiesIn 27 = .ok (.iload_n 1, 1) := by decide +kernel
theorem dX6_standsOrLiesIn_28 : decode cX6_standsOrLiesIn 28 = .ok (.iaload, 1) := by decide +kernel
theorem dX6_standsOrLiesIn_29 : decode cX6_standsOrLiesIn 29 = .ok (.ifCond .le 7, 3) := by decide +kernel
theorem dX6_standsOrLiesIn_32 : decode cX6_standsOrLiesIn 32 = .ok (.iconst 1, 1) := by decide +kernel
theorem dX6_standsOrLiesIn_33 : decode cX6_standsOrLiesIn 33 = .ok (.goto 4, 3) := by decide +kernel
theorem dX6_standsOrLiesIn_36 : decode cX6_standsOrLiesIn 36 = .ok (.iconst 0, 1) := by decide +kernel
theorem dX6_standsOrLiesIn_37 : decode cX6_standsOrLiesIn 37 = .ok (.ireturn, 1) := by decide +kernel
theorem dX6_holdsThing_0 : decode cX6_holdsThing 0 = .ok (.iconst 0, 1) := by decide +kernel
theorem dX6_holdsThing_1 : decode cX6_holdsThing 1 = .ok (.istore_n 2, 1) := by decide +kernel
theorem dX6_holdsThing_2 : decode cX6_holdsThing 2 = .ok (.iload_n 2, 1) := by decide +kernel
theorem dX6_holdsThing_3 : decode cX6_holdsThing 3 = .ok (.aload_n 0, 1) := by decide +kernel
theorem dX6_holdsThing_4 : decode cX6_holdsThing 4 = .ok (.getfield 39, 3) := by decide +kernel
theorem dX6_holdsThing_7 : decode cX6_holdsThing 7 = .ok (.getfield 75, 3) := by decide +kernel
theorem dX6_holdsThing_10 : decode cX6_holdsThing 10 = .ok (.if_icmp .ge 21, 3) := by decide +kernel
theorem dX6_holdsThing_13 : decode cX6_holdsThing 13 = .ok (.aload_n 0, 1) := by decide +kernel
theorem dX6_holdsThing_14 : decode cX6_holdsThing 14 = .ok (.getfield 9, 3) := by decide +kernel
theorem dX6_holdsThing_17 : decode cX6_holdsThing 17 = .ok (.iload_n 2, 1) := by decide +kernel
theorem dX6_holdsThing_18 : decode cX6_holdsThing 18 = .ok (.iaload, 1) := by decide +kernel
theorem dX6_holdsThing_19 : decode cX6_holdsThing 19 = .ok (.iload_n 1, 1) := by decide +kernel
theorem dX6_holdsThing_20 : decode cX6_holdsThing 20 = .ok (.if_icmp .ne 5, 3) := by decide +kernel
theorem dX6_holdsThing_23 : decode cX6_holdsThing 23 = .ok (.iconst 1, 1) := by decide +kernel
theorem dX6_holdsThing_24 : decode cX6_holdsThing 24 = .ok (.ireturn, 1) := by decide +kernel
theorem dX6_holdsThing_25 : decode cX6_holdsThing 25 = .ok (.iinc 2 1, 3) := by decide +kernel
theorem dX6_holdsThing_28 : decode cX6_holdsThing 28 = .ok (.goto (-26), 3) := by decide +kernel
theorem dX6_holdsThing_31 : decode cX6_holdsThing 31 = .ok (.iconst 0, 1) := by decide +kernel
theorem dX6_holdsThing_32 : decode cX6_holdsThing 32 = .ok (.ireturn, 1) := by decide +kernel
theorem dX6_standingIn_0 : decode cX6_standingIn 0 = .ok (.iconst 0, 1) := by decide +kernel
theorem dX6_standingIn_1 : decode cX6_standingIn 1 = .ok (.istore_n 2, 1) := by decide +kernel
theorem dX6_standingIn_2 : decode cX6_standingIn 2 = .ok (.iload_n 2, 1) := by decide +kernel
theorem dX6_standingIn_3 : decode cX6_standingIn 3 = .ok (.aload_n 0, 1) := by decide +kernel
theorem dX6_standingIn_4 : decode cX6_standingIn 4 = .ok (.getfield 39, 3) := by decide +kernel
theorem dX6_standingIn_7 : decode cX6_standingIn 7 = .ok (.getfield 75, 3) := by decide +kernel
theorem dX6_standingIn_10 : decode cX6_standingIn 10 = .ok (.if_icmp .ge 30, 3) := by decide +kernel
theorem dX6_standingIn_13 : decode cX6_standingIn 13 = .ok (.aload_n 0, 1) := by decide +kernel
theorem dX6_standingIn_14 : decode cX6_standingIn 14 = .ok (.getfield 9, 3) := by decide +kernel
theorem dX6_standingIn_17 : decode cX6_standingIn 17 = .ok (.iload_n 2, 1) := by decide +kernel
theorem dX6_standingIn_18 : decode cX6_standingIn 18 = .ok (.iaload, 1) := by decide +kernel
theorem dX6_standingIn_19 : decode cX6_standingIn 19 = .ok (.iload_n 1, 1) := by decide +kernel
theorem dX6_standingIn_20 : decode cX6_standingIn 20 = .ok (.if_icmp .ne 14, 3) := by decide +kernel
theorem dX6_standingIn_23 : decode cX6_standingIn 23 = .ok (.aload_n 0, 1) := by decide +kernel
theorem dX6_standingIn_24 : decode cX6_standingIn 24 = .ok (.getfield 15, 3) := by decide +kernel
theorem dX6_standingIn_27 : decode cX6_standingIn 27 = .ok (.iload_n 2, 1) := by decide +kernel
theorem dX6_standingIn_28 : decode cX6_standingIn 28 = .ok (.iaload, 1) := by decide +kernel
theorem dX6_standingIn_29 : decode cX6_standingIn 29 = .ok (.ifCond .le 5, 3) := by decide +kernel
theorem dX6_standingIn_32 : decode cX6_standingIn 32 = .ok (.iload_n 2, 1) := by decide +kernel
theorem dX6_standingIn_33 : decode cX6_standingIn 33 = .ok (.ireturn, 1) := by decide +kernel
theorem dX6_standingIn_34 : decode cX6_standingIn 34 = .ok (.iinc 2 1, 3) := by decide +kernel
theorem dX6_standingIn_37 : decode cX6_standingIn 37 = .ok (.goto (-35), 3) := by decide +kernel
theorem dX6_standingIn_40 : decode cX6_standingIn 40 = .ok (.iconst (-1), 1) := by decide +kernel
theorem dX6_standingIn_41 : decode cX6_standingIn 41 = .ok (.ireturn, 1) := by decide +kernel
theorem dX6_bars_0 : decode cX6_bars 0 = .ok (.aload_n 0, 1) := by decide +kernel
theorem dX6_bars_1 : decode cX6_bars 1 = .ok (.getfield 39, 3) := by decide +kernel
theorem dX6_bars_4 : decode cX6_bars 4 = .ok (.getfield 78, 3) := by decide +kernel
theorem dX6_bars_7 : decode cX6_bars 7 = .ok (.iload_n 1, 1) := by decide +kernel
theorem dX6_bars_8 : decode cX6_bars 8 = .ok (.iaload, 1) := by decide +kernel
theorem dX6_bars_9 : decode cX6_bars 9 = .ok (.iconst 1, 1) := by decide +kernel
theorem dX6_bars_10 : decode cX6_bars 10 = .ok (.if_icmp .eq 33, 3) := by decide +kernel
theorem dX6_bars_13 : decode cX6_bars 13 = .ok (.aload_n 0, 1) := by decide +kernel
theorem dX6_bars_14 : decode cX6_bars 14 = .ok (.getfield 39, 3) := by decide +kernel
theorem dX6_bars_17 : decode cX6_bars 17 = .ok (.getfield 78, 3) := by decide +kernel
theorem dX6_bars_20 : decode cX6_bars 20 = .ok (.iload_n 1, 1) := by decide +kernel
theorem dX6_bars_21 : decode cX6_bars 21 = .ok (.iaload, 1) := by decide +kernel
theorem dX6_bars_22 : decode cX6_bars 22 = .ok (.iconst 2, 1) := by decide +kernel
theorem dX6_bars_23 : decode cX6_bars 23 = .ok (.if_icmp .ne 24, 3) := by decide +kernel
theorem dX6_bars_26 : decode cX6_bars 26 = .ok (.aload_n 0, 1) := by decide +kernel
theorem dX6_bars_27 : decode cX6_bars 27 = .ok (.getfield 36, 3) := by decide +kernel
theorem dX6_bars_30 : decode cX6_bars 30 = .ok (.aload_n 0, 1) := by decide +kernel
theorem dX6_bars_31 : decode cX6_bars 31 = .ok (.getfield 39, 3) := by decide +kernel
theorem dX6_bars_34 : decode cX6_bars 34 = .ok (.getfield 81, 3) := by decide +kernel
theorem dX6_bars_37 : decode cX6_bars 37 = .ok (.iload_n 1, 1) := by decide +kernel
theorem dX6_bars_38 : decode cX6_bars 38 = .ok (.iaload, 1) := by decide +kernel
theorem dX6_bars_39 : decode cX6_bars 39 = .ok (.iaload, 1) := by decide +kernel
theorem dX6_bars_40 : decode cX6_bars 40 = .ok (.ifCond .ne 7, 3) := by decide +kernel
theorem dX6_bars_43 : decode cX6_bars 43 = .ok (.iconst 1, 1) := by decide +kernel
theorem dX6_bars_44 : decode cX6_bars 44 = .ok (.goto 4, 3) := by decide +kernel
theorem dX6_bars_47 : decode cX6_bars 47 = .ok (.iconst 0, 1) := by decide +kernel
theorem dX6_bars_48 : decode cX6_bars 48 = .ok (.ireturn, 1) := by decide +kernel
theorem dX6_isShutDoor_0 : decode cX6_isShutDoor 0 = .ok (.iload_n 1, 1) := by decide +kernel
theorem dX6_isShutDoor_1 : decode cX6_isShutDoor 1 = .ok (.ifCond .lt 37, 3) := by decide +kernel
theorem dX6_isShutDoor_4 : decode cX6_isShutDoor 4 = .ok (.aload_n 0, 1) := by decide +kernel
theorem dX6_isShutDoor_5 : decode cX6_isShutDoor 5 = .ok (.getfield 39, 3) := by decide +kernel
theorem dX6_isShutDoor_8 : decode cX6_isShutDoor 8 = .ok (.getfield 78, 3) := by decide +kernel
theorem dX6_isShutDoor_11 : decode cX6_isShutDoor 11 = .ok (.iload_n 1, 1) := by decide +kernel
theorem dX6_isShutDoor_12 : decode cX6_isShutDoor 12 = .ok (.iaload, 1) := by decide +kernel
theorem dX6_isShutDoor_13 : decode cX6_isShutDoor 13 = .ok (.iconst 2, 1) := by decide +kernel
theorem dX6_isShutDoor_14 : decode cX6_isShutDoor 14 = .ok (.if_icmp .ne 24, 3) := by decide +kernel
theorem dX6_isShutDoor_17 : decode cX6_isShutDoor 17 = .ok (.aload_n 0, 1) := by decide +kernel
theorem dX6_isShutDoor_18 : decode cX6_isShutDoor 18 = .ok (.getfield 36, 3) := by decide +kernel
theorem dX6_isShutDoor_21 : decode cX6_isShutDoor 21 = .ok (.aload_n 0, 1) := by decide +kernel
theorem dX6_isShutDoor_22 : decode cX6_isShutDoor 22 = .ok (.getfield 39, 3) := by decide +kernel
theorem dX6_isShutDoor_25 : decode cX6_isShutDoor 25 = .ok (.getfield 81, 3) := by decide +kernel
theorem dX6_isShutDoor_28 : decode cX6_isShutDoor 28 = .ok (.iload_n 1, 1) := by decide +kernel
theorem dX6_isShutDoor_29 : decode cX6_isShutDoor 29 = .ok (.iaload, 1) := by decide +kernel
theorem dX6_isShutDoor_30 : decode cX6_isShutDoor 30 = .ok (.iaload, 1) := by decide +kernel
theorem dX6_isShutDoor_31 : decode cX6_isShutDoor 31 = .ok (.ifCond .ne 7, 3) := by decide +kernel
theorem dX6_isShutDoor_34 : decode cX6_isShutDoor 34 = .ok (.iconst 1, 1) := by decide +kernel
theorem dX6_isShutDoor_35 : decode cX6_isShutDoor 35 = .ok (.goto 4, 3) := by decide +kernel
theorem dX6_isShutDoor_38 : decode cX6_isShutDoor 38 = .ok (.iconst 0, 1) := by decide +kernel
theorem dX6_isShutDoor_39 : decode cX6_isShutDoor 39 = .ok (.ireturn, 1) := by decide +kernel
theorem dX6_isFree_0 : decode cX6_isFree 0 = .ok (.iload_n 1, 1) := by decide +kernel
theorem dX6_isFree_1 : decode cX6_isFree 1 = .ok (.ifCond .lt 23, 3) := by decide +kernel
theorem dX6_isFree_4 : decode cX6_isFree 4 = .ok (.aload_n 0, 1) := by decide +kernel
theorem dX6_isFree_5 : decode cX6_isFree 5 = .ok (.iload_n 1, 1) := by decide +kernel
theorem dX6_isFree_6 : decode cX6_isFree 6 = .ok (.invokevirtual 84, 3) := by decide +kernel
theorem dX6_isFree_9 : decode cX6_isFree 9 = .ok (.ifCond .ne 15, 3) := by decide +kernel
theorem dX6_isFree_12 : decode cX6_isFree 12 = .ok (.aload_n 0, 1) := by decide +kernel
theorem dX6_isFree_13 : decode cX6_isFree 13 = .ok (.iload_n 1, 1) := by decide +kernel
theorem dX6_isFree_14 : decode cX6_isFree 14 = .ok (.invokevirtual 88, 3) := by decide +kernel
theorem dX6_isFree_17 : decode cX6_isFree 17 = .ok (.ifCond .ge 7, 3) := by decide +kernel
theorem dX6_isFree_20 : decode cX6_isFree 20 = .ok (.iconst 1, 1) := by decide +kernel
theorem dX6_isFree_21 : decode cX6_isFree 21 = .ok (.goto 4, 3) := by decide +kernel
theorem dX6_isFree_24 : decode cX6_isFree 24 = .ok (.iconst 0, 1) := by decide +kernel
theorem dX6_isFree_25 : decode cX6_isFree 25 = .ok (.ireturn, 1) := by decide +kernel
theorem dX6_carries_0 : decode cX6_carries 0 = .ok (.aload_n 0, 1) := by decide +kernel
theorem dX6_carries_1 : decode cX6_carries 1 = .ok (.getfield 27, 3) := by decide +kernel
theorem dX6_carries_4 : decode cX6_carries 4 = .ok (.iload_n 1, 1) := by decide +kernel
theorem dX6_carries_5 : decode cX6_carries 5 = .ok (.iaload, 1) := by decide +kernel
theorem dX6_carries_6 : decode cX6_carries 6 = .ok (.ifCond .lt 25, 3) := by decide +kernel
theorem dX6_carries_9 : decode cX6_carries 9 = .ok (.aload_n 0, 1) := by decide +kernel
theorem dX6_carries_10 : decode cX6_carries 10 = .ok (.getfield 39, 3) := by decide +kernel
theorem dX6_carries_13 : decode cX6_carries 13 = .ok (.getfield 72, 3) := by decide +kernel
theorem dX6_carries_16 : decode cX6_carries 16 = .ok (.aload_n 0, 1) := by decide +kernel
theorem dX6_carries_17 : decode cX6_carries 17 = .ok (.getfield 27, 3) := by decide +kernel
theorem dX6_carries_20 : decode cX6_carries 20 = .ok (.iload_n 1, 1) := by decide +kernel
theorem dX6_carries_21 : decode cX6_carries 21 = .ok (.iaload, 1) := by decide +kernel
theorem dX6_carries_22 : decode cX6_carries 22 = .ok (.iaload, 1) := by decide +kernel
theorem dX6_carries_23 : decode cX6_carries 23 = .ok (.iload_n 2, 1) := by decide +kernel
theorem dX6_carries_24 : decode cX6_carries 24 = .ok (.if_icmp .ne 7, 3) := by decide +kernel
theorem dX6_carries_27 : decode cX6_carries 27 = .ok (.iconst 1, 1) := by decide +kernel
theorem dX6_carries_28 : decode cX6_carries 28 = .ok (.goto 4, 3) := by decide +kernel
theorem dX6_carries_31 : decode cX6_carries 31 = .ok (.iconst 0, 1) := by decide +kernel
theorem dX6_carries_32 : decode cX6_carries 32 = .ok (.ireturn, 1) := by decide +kernel
theorem dX6_reaches_0 : decode cX6_reaches 0 = .ok (.aload_n 0, 1) := by decide +kernel
theorem dX6_reaches_1 : decode cX6_reaches 1 = .ok (.getfield 39, 3) := by decide +kernel
theorem dX6_reaches_4 : decode cX6_reaches 4 = .ok (.getfield 91, 3) := by decide +kernel
theorem dX6_reaches_7 : decode cX6_reaches 7 = .ok (.iload_n 2, 1) := by decide +kernel
theorem dX6_reaches_8 : decode cX6_reaches 8 = .ok (.iaload, 1) := by decide +kernel
theorem dX6_reaches_9 : decode cX6_reaches 9 = .ok (.aload_n 0, 1) := by decide +kernel
theorem dX6_reaches_10 : decode cX6_reaches 10 = .ok (.getfield 39, 3) := by decide +kernel
theorem dX6_reaches_13 : decode cX6_reaches 13 = .ok (.getfield 91, 3) := by decide +kernel
theorem dX6_reaches_16 : decode cX6_reaches 16 = .ok (.iload_n 1, 1) := by decide +kernel
theorem dX6_reaches_17 : decode cX6_reaches 17 = .ok (.iaload, 1) := by decide +kernel
theorem dX6_reaches_18 : decode cX6_reaches 18 = .ok (.isub, 1) := by decide +kernel
theorem dX6_reaches_19 : decode cX6_reaches 19 = .ok (.istore 4, 2) := by decide +kernel
theorem dX6_reaches_21 : decode cX6_reaches 21 = .ok (.aload_n 0, 1) := by decide +kernel
theorem dX6_reaches_22 : decode cX6_reaches 22 = .ok (.getfield 39, 3) := by decide +kernel
theorem dX6_reaches_25 : decode cX6_reaches 25 = .ok (.getfield 94, 3) := by decide +kernel
theorem dX6_reaches_28 : decode cX6_reaches 28 = .ok (.iload_n 2, 1) := by decide +kernel
theorem dX6_reaches_29 : decode cX6_reaches 29 = .ok (.iaload, 1) := by decide +kernel
theorem dX6_reaches_30 : decode cX6_reaches 30 = .ok (.aload_n 0, 1) := by decide +kernel
theorem dX6_reaches_31 : decode cX6_reaches 31 = .ok (.getfield 39, 3) := by decide +kernel
theorem dX6_reaches_34 : decode cX6_reaches 34 = .ok (.getfield 94, 3) := by decide +kernel
theorem dX6_reaches_37 : decode cX6_reaches 37 = .ok (.iload_n 1, 1) := by decide +kernel
theorem dX6_reaches_38 : decode cX6_reaches 38 = .ok (.iaload, 1) := by decide +kernel
theorem dX6_reaches_39 : decode cX6_reaches 39 = .ok (.isub, 1) := by decide +kernel
theorem dX6_reaches_40 : decode cX6_reaches 40 = .ok (.istore 5, 2) := by decide +kernel
theorem dX6_reaches_42 : decode cX6_reaches 42 = .ok (.iload 4, 2) := by decide +kernel
theorem dX6_reaches_44 : decode cX6_reaches 44 = .ok (.invokestatic 97, 3) := by decide +kernel
theorem dX6_reaches_47 : decode cX6_reaches 47 = .ok (.iload 5, 2) := by decide +kernel
theorem dX6_reaches_49 : decode cX6_reaches 49 = .ok (.invokestatic 97, 3) := by decide +kernel
theorem dX6_reaches_52 : decode cX6_reaches 52 = .ok (.invokestatic 102, 3) := by decide +kernel
theorem dX6_reaches_55 : decode cX6_reaches 55 = .ok (.istore 6, 2) := by decide +kernel
theorem dX6_reaches_57 : decode cX6_reaches 57 = .ok (.iload 6, 2) := by decide +kernel
theorem dX6_reaches_59 : decode cX6_reaches 59 = .ok (.iload_n 3, 1) := by decide +kernel
theorem dX6_reaches_60 : decode cX6_reaches 60 = .ok (.if_icmp .le 5, 3) := by decide +kernel
theorem dX6_reaches_63 : decode cX6_reaches 63 = .ok (.iconst 0, 1) := by decide +kernel
theorem dX6_reaches_64 : decode cX6_reaches 64 = .ok (.ireturn, 1) := by decide +kernel
theorem dX6_reaches_65 : decode cX6_reaches 65 = .ok (.iconst 1, 1) := by decide +kernel
theorem dX6_reaches_66 : decode cX6_reaches 66 = .ok (.istore 7, 2) := by decide +kernel
theorem dX6_reaches_68 : decode cX6_reaches 68 = .ok (.iload 7, 2) := by decide +kernel
theorem dX6_reaches_70 : decode cX6_reaches 70 = .ok (.iload 6, 2) := by decide +kernel
theorem dX6_reaches_72 : decode cX6_reaches 72 = .ok (.if_icmp .ge 89, 3) := by decide +kernel
theorem dX6_reaches_75 : decode cX6_reaches 75 = .ok (.aload_n 0, 1) := by decide +kernel
theorem dX6_reaches_76 : decode cX6_reaches 76 = .ok (.getfield 39, 3) := by decide +kernel
theorem dX6_reaches_79 : decode cX6_reaches 79 = .ok (.getfield 91, 3) := by decide +kernel
theorem dX6_reaches_82 : decode cX6_reaches 82 = .ok (.iload_n 1, 1) := by decide +kernel
theorem dX6_reaches_83 : decode cX6_reaches 83 = .ok (.iaload, 1) := by decide +kernel
theorem dX6_reaches_84 : decode cX6_reaches 84 = .ok (.iconst 2, 1) := by decide +kernel
theorem dX6_reaches_85 : decode cX6_reaches 85 = .ok (.iload 7, 2) := by decide +kernel
theorem dX6_reaches_87 : decode cX6_reaches 87 = .ok (.imul, 1) := by decide +kernel
theorem dX6_reaches_88 : decode cX6_reaches 88 = .ok (.iload 4, 2) := by decide +kernel
theorem dX6_reaches_90 : decode cX6_reaches 90 = .ok (.imul, 1) := by decide +kernel
theorem dX6_reaches_91 : decode cX6_reaches 91 = .ok (.iload 6, 2) := by decide +kernel
theorem dX6_reaches_93 : decode cX6_reaches 93 = .ok (.iadd, 1) := by decide +kernel
theorem dX6_reaches_94 : decode cX6_reaches 94 = .ok (.iconst 2, 1) := by decide +kernel
theorem dX6_reaches_95 : decode cX6_reaches 95 = .ok (.iload 6, 2) := by decide +kernel
theorem dX6_reaches_97 : decode cX6_reaches 97 = .ok (.imul, 1) := by decide +kernel
theorem dX6_reaches_98 : decode cX6_reaches 98 = .ok (.invokestatic 106, 3) := by decide +kernel
theorem dX6_reaches_101 : decode cX6_reaches 101 = .ok (.iadd, 1) := by decide +kernel
theorem dX6_reaches_102 : decode cX6_reaches 102 = .ok (.istore 8, 2) := by decide +kernel
theorem dX6_reaches_104 : decode cX6_reaches 104 = .ok (.aload_n 0, 1) := by decide +kernel
theorem dX6_reaches_105 : decode cX6_reaches 105 = .ok (.getfield 39, 3) := by decide +kernel
theorem dX6_reaches_108 : decode cX6_reaches 108 = .ok (.getfield 94, 3) := by decide +kernel
theorem dX6_reaches_111 : decode cX6_reaches 111 = .ok (.iload_n 1, 1) := by decide +kernel
theorem dX6_reaches_112 : decode cX6_reaches 112 = .ok (.iaload, 1) := by decide +kernel
theorem dX6_reaches_113 : decode cX6_reaches 113 = .ok (.iconst 2, 1) := by decide +kernel
theorem dX6_reaches_114 : decode cX6_reaches 114 = .ok (.iload 7, 2) := by decide +kernel
theorem dX6_reaches_116 : decode cX6_reaches 116 = .ok (.imul, 1) := by decide +kernel
theorem dX6_reaches_117 : decode cX6_reaches 117 = .ok (.iload 5, 2) := by decide +kernel
theorem dX6_reaches_119 : decode cX6_reaches 119 = .ok (.imul, 1) := by decide +kernel
theorem dX6_reaches_120 : decode cX6_reaches 120 = .ok (.iload 6, 2) := by decide +kernel
theorem dX6_reaches_122 : decode cX6_reaches 122 = .ok (.iadd, 1) := by decide +kernel
theorem dX6_reaches_123 : decode cX6_reaches 123 = .ok (.iconst 2, 1) := by decide +kernel
theorem dX6_reaches_124 : decode cX6_reaches 124 = .ok (.iload 6, 2) := by decide +kernel
theorem dX6_reaches_126 : decode cX6_reaches 126 = .ok (.imul, 1) := by decide +kernel
theorem dX6_reaches_127 : decode cX6_reaches 127 = .ok (.invokestatic 106, 3) := by decide +kernel
theorem dX6_reaches_130 : decode cX6_reaches 130 = .ok (.iadd, 1) := by decide +kernel
theorem dX6_reaches_131 : decode cX6_reaches 131 = .ok (.istore 9, 2) := by decide +kernel
theorem dX6_reaches_133 : decode cX6_reaches 133 = .ok (.aload_n 0, 1) := by decide +kernel
theorem dX6_reaches_134 : decode cX6_reaches 134 = .ok (.iload 9, 2) := by decide +kernel
theorem dX6_reaches_136 : decode cX6_reaches 136 = .ok (.aload_n 0, 1) := by decide +kernel
theorem dX6_reaches_137 : decode cX6_reaches 137 = .ok (.getfield 39, 3) := by decide +kernel
theorem dX6_reaches_140 : decode cX6_reaches 140 = .ok (.getfield 109, 3) := by decide +kernel
theorem dX6_reaches_143 : decode cX6_reaches 143 = .ok (.imul, 1) := by decide +kernel
theorem dX6_reaches_144 : decode cX6_reaches 144 = .ok (.iload 8, 2) := by decide +kernel
theorem dX6_reaches_146 : decode cX6_reaches 146 = .ok (.iadd, 1) := by decide +kernel
theorem dX6_reaches_147 : decode cX6_reaches 147 = .ok (.invokevirtual 84, 3) := by decide +kernel
theorem dX6_reaches_150 : decode cX6_reaches 150 = .ok (.ifCond .eq 5, 3) := by decide +kernel
theorem dX6_reaches_153 : decode cX6_reaches 153 = .ok (.iconst 0, 1) := by decide +kernel
theorem dX6_reaches_154 : decode cX6_reaches 154 = .ok (.ireturn, 1) := by decide +kernel
theorem dX6_reaches_155 : decode cX6_reaches 155 = .ok (.iinc 7 1, 3) := by decide +kernel
theorem dX6_reaches_158 : decode cX6_reaches 158 = .ok (.goto (-90), 3) := by decide +kernel
theorem dX6_reaches_161 : decode cX6_reaches 161 = .ok (.iconst 1, 1) := by decide +kernel
theorem dX6_reaches_162 : decode cX6_reaches 162 = .ok (.ireturn, 1) := by decide +kernel
theorem dX6_spots_0 : decode cX6_spots 0 = .ok (.aload_n 0, 1) := by decide +kernel
theorem dX6_spots_1 : decode cX6_spots 1 = .ok (.getfield 15, 3) := by decide +kernel
theorem dX6_spots_4 : decode cX6_spots 4 = .ok (.iload_n 1, 1) := by decide +kernel
theorem dX6_spots_5 : decode cX6_spots 5 = .ok (.iaload, 1) := by decide +kernel
theorem dX6_spots_6 : decode cX6_spots 6 = .ok (.ifCond .le 37, 3) := by decide +kernel
theorem dX6_spots_9 : decode cX6_spots 9 = .ok (.aload_n 0, 1) := by decide +kernel
theorem dX6_spots_10 : decode cX6_spots 10 = .ok (.aload_n 0, 1) := by decide +kernel
theorem dX6_spots_11 : decode cX6_spots 11 = .ok (.getfield 9, 3) := by decide +kernel
theorem dX6_spots_14 : decode cX6_spots 14 = .ok (.iload_n 1, 1) := by decide +kernel
theorem dX6_spots_15 : decode cX6_spots 15 = .ok (.iaload, 1) := by decide +kernel
theorem dX6_spots_16 : decode cX6_spots 16 = .ok (.iload_n 2, 1) := by decide +kernel
theorem dX6_spots_17 : decode cX6_spots 17 = .ok (.aload_n 0, 1) := by decide +kernel
theorem dX6_spots_18 : decode cX6_spots 18 = .ok (.iload_n 1, 1) := by decide +kernel
theorem dX6_spots_19 : decode cX6_spots 19 = .ok (.bipush 6, 2) := by decide +kernel
theorem dX6_spots_21 : decode cX6_spots 21 = .ok (.invokevirtual 112, 3) := by decide +kernel
theorem dX6_spots_24 : decode cX6_spots 24 = .ok (.ifCond .eq 8, 3) := by decide +kernel
theorem dX6_spots_27 : decode cX6_spots 27 = .ok (.bipush 6, 2) := by decide +kernel
theorem dX6_spots_29 : decode cX6_spots 29 = .ok (.goto 4, 3) := by decide +kernel
theorem dX6_spots_32 : decode cX6_spots 32 = .ok (.iconst 4, 1) := by decide +kernel
theorem dX6_spots_33 : decode cX6_spots 33 = .ok (.invokevirtual 116, 3) := by decide +kernel
theorem dX6_spots_36 : decode cX6_spots 36 = .ok (.ifCond .eq 7, 3) := by decide +kernel
theorem dX6_spots_39 : decode cX6_spots 39 = .ok (.iconst 1, 1) := by decide +kernel
theorem dX6_spots_40 : decode cX6_spots 40 = .ok (.goto 4, 3) := by decide +kernel
theorem dX6_spots_43 : decode cX6_spots 43 = .ok (.iconst 0, 1) := by decide +kernel
theorem dX6_spots_44 : decode cX6_spots 44 = .ok (.ireturn, 1) := by decide +kernel
theorem dX6_looksOf_0 : decode cX6_looksOf 0 = .ok (.aload_n 0, 1) := by decide +kernel
theorem dX6_looksOf_1 : decode cX6_looksOf 1 = .ok (.getfield 39, 3) := by decide +kernel
theorem dX6_looksOf_4 : decode cX6_looksOf 4 = .ok (.getfield 78, 3) := by decide +kernel
theorem dX6_looksOf_7 : decode cX6_looksOf 7 = .ok (.iload_n 1, 1) := by decide +kernel
theorem dX6_looksOf_8 : decode cX6_looksOf 8 = .ok (.iaload, 1) := by decide +kernel
theorem dX6_looksOf_9 : decode cX6_looksOf 9 = .ok (.iconst 2, 1) := by decide +kernel
theorem dX6_looksOf_10 : decode cX6_looksOf 10 = .ok (.if_icmp .ne 24, 3) := by decide +kernel
theorem dX6_looksOf_13 : decode cX6_looksOf 13 = .ok (.aload_n 0, 1) := by decide +kernel
theorem dX6_looksOf_14 : decode cX6_looksOf 14 = .ok (.getfield 36, 3) := by decide +kernel
theorem dX6_looksOf_17 : decode cX6_looksOf 17 = .ok (.aload_n 0, 1) := by decide +kernel
theorem dX6_looksOf_18 : decode cX6_looksOf 18 = .ok (.getfield 39, 3) := by decide +kernel
theorem dX6_looksOf_21 : decode cX6_looksOf 21 = .ok (.getfield 81, 3) := by decide +kernel
theorem dX6_looksOf_24 : decode cX6_looksOf 24 = .ok (.iload_n 1, 1) := by decide +kernel
theorem dX6_looksOf_25 : decode cX6_looksOf 25 = .ok (.iaload, 1) := by decide +kernel
theorem dX6_looksOf_26 : decode cX6_looksOf 26 = .ok (.iaload, 1) := by decide +kernel
theorem dX6_looksOf_27 : decode cX6_looksOf 27 = .ok (.ifCond .eq 7, 3) := by decide +kernel
theorem dX6_looksOf_30 : decode cX6_looksOf 30 = .ok (.iconst 4, 1) := by decide +kernel
theorem dX6_looksOf_31 : decode cX6_looksOf 31 = .ok (.goto 12, 3) := by decide +kernel
theorem dX6_looksOf_34 : decode cX6_looksOf 34 = .ok (.aload_n 0, 1) := by decide +kernel
theorem dX6_looksOf_35 : decode cX6_looksOf 35 = .ok (.getfield 39, 3) := by decide +kernel
theorem dX6_looksOf_38 : decode cX6_looksOf 38 = .ok (.getfield 78, 3) := by decide +kernel
theorem dX6_looksOf_41 : decode cX6_looksOf 41 = .ok (.iload_n 1, 1) := by decide +kernel
theorem dX6_looksOf_42 : decode cX6_looksOf 42 = .ok (.iaload, 1) := by decide +kernel
theorem dX6_looksOf_43 : decode cX6_looksOf 43 = .ok (.ireturn, 1) := by decide +kernel
theorem dX6_tellOf_0 : decode cX6_tellOf 0 = .ok (.aload_n 0, 1) := by decide +kernel
theorem dX6_tellOf_1 : decode cX6_tellOf 1 = .ok (.iload_n 1, 1) := by decide +kernel
theorem dX6_tellOf_2 : decode cX6_tellOf 2 = .ok (.iload_n 2, 1) := by decide +kernel
theorem dX6_tellOf_3 : decode cX6_tellOf 3 = .ok (.invokevirtual 120, 3) := by decide +kernel
theorem dX6_tellOf_6 : decode cX6_tellOf 6 = .ok (.ifCond .ne 5, 3) := by decide +kernel
theorem dX6_tellOf_9 : decode cX6_tellOf 9 = .ok (.iconst (-1), 1) := by decide +kernel
theorem dX6_tellOf_10 : decode cX6_tellOf 10 = .ok (.ireturn, 1) := by decide +kernel
theorem dX6_tellOf_11 : decode cX6_tellOf 11 = .ok (.aload_n 0, 1) := by decide +kernel
theorem dX6_tellOf_12 : decode cX6_tellOf 12 = .ok (.iload_n 2, 1) := by decide +kernel
theorem dX6_tellOf_13 : decode cX6_tellOf 13 = .ok (.invokevirtual 123, 3) := by decide +kernel
theorem dX6_tellOf_16 : decode cX6_tellOf 16 = .ok (.istore_n 3, 1) := by decide +kernel
theorem dX6_tellOf_17 : decode cX6_tellOf 17 = .ok (.iconst 0, 1) := by decide +kernel
theorem dX6_tellOf_18 : decode cX6_tellOf 18 = .ok (.istore 4, 2) := by decide +kernel
theorem dX6_tellOf_20 : decode cX6_tellOf 20 = .ok (.iload 4, 2) := by decide +kernel
theorem dX6_tellOf_22 : decode cX6_tellOf 22 = .ok (.aload_n 0, 1) := by decide +kernel
theorem dX6_tellOf_23 : decode cX6_tellOf 23 = .ok (.getfield 39, 3) := by decide +kernel
theorem dX6_tellOf_26 : decode cX6_tellOf 26 = .ok (.getfield 75, 3) := by decide +kernel
theorem dX6_tellOf_29 : decode cX6_tellOf 29 = .ok (.if_icmp .ge 36, 3) := by decide +kernel
theorem dX6_tellOf_32 : decode cX6_tellOf 32 = .ok (.aload_n 0, 1) := by decide +kernel
theorem dX6_tellOf_33 : decode cX6_tellOf 33 = .ok (.getfield 39, 3) := by decide +kernel
theorem dX6_tellOf_36 : decode cX6_tellOf 36 = .ok (.getfield 72, 3) := by decide +kernel
theorem dX6_tellOf_39 : decode cX6_tellOf 39 = .ok (.iload 4, 2) := by decide +kernel
theorem dX6_tellOf_41 : decode cX6_tellOf 41 = .ok (.iaload, 1) := by decide +kernel
theorem dX6_tellOf_42 : decode cX6_tellOf 42 = .ok (.iconst 4, 1) := by decide +kernel
theorem dX6_tellOf_43 : decode cX6_tellOf 43 = .ok (.if_icmp .eq 16, 3) := by decide +kernel
theorem dX6_tellOf_46 : decode cX6_tellOf 46 = .ok (.aload_n 0, 1) := by decide +kernel
theorem dX6_tellOf_47 : decode cX6_tellOf 47 = .ok (.iload 4, 2) := by decide +kernel
theorem dX6_tellOf_49 : decode cX6_tellOf 49 = .ok (.iload_n 2, 1) := by decide +kernel
theorem dX6_tellOf_50 : decode cX6_tellOf 50 = .ok (.invokevirtual 126, 3) := by decide +kernel
theorem dX6_tellOf_53 : decode cX6_tellOf 53 = .ok (.ifCond .eq 6, 3) := by decide +kernel
theorem dX6_tellOf_56 : decode cX6_tellOf 56 = .ok (.iinc 3 8, 3) := by decide +kernel
theorem dX6_tellOf_59 : decode cX6_tellOf 59 = .ok (.iinc 4 1, 3) := by decide +kernel
theorem dX6_tellOf_62 : decode cX6_tellOf 62 = .ok (.goto (-42), 3) := by decide +kernel
theorem dX6_tellOf_65 : decode cX6_tellOf 65 = .ok (.iload_n 3, 1) := by decide +kernel
theorem dX6_tellOf_66 : decode cX6_tellOf 66 = .ok (.ireturn, 1) := by decide +kernel
theorem dX6_letterTo_0 : decode cX6_letterTo 0 = .ok (.aload_n 0, 1) := by decide +kernel
theorem dX6_letterTo_1 : decode cX6_letterTo 1 = .ok (.getfield 15, 3) := by decide +kernel
theorem dX6_letterTo_4 : decode cX6_letterTo 4 = .ok (.iload_n 1, 1) := by decide +kernel
theorem dX6_letterTo_5 : decode cX6_letterTo 5 = .ok (.iaload, 1) := by decide +kernel
theorem dX6_letterTo_6 : decode cX6_letterTo 6 = .ok (.ifCond .gt 5, 3) := by decide +kernel
theorem dX6_letterTo_9 : decode cX6_letterTo 9 = .ok (.iconst 0, 1) := by decide +kernel
theorem dX6_letterTo_10 : decode cX6_letterTo 10 = .ok (.ireturn, 1) := by decide +kernel
theorem dX6_letterTo_11 : decode cX6_letterTo 11 = .ok (.iconst 1, 1) := by decide +kernel
theorem dX6_letterTo_12 : decode cX6_letterTo 12 = .ok (.istore_n 2, 1) := by decide +kernel
theorem dX6_letterTo_13 : decode cX6_letterTo 13 = .ok (.iconst 0, 1) := by decide +kernel
theorem dX6_letterTo_14 : decode cX6_letterTo 14 = .ok (.istore_n 3, 1) := by decide +kernel
theorem dX6_letterTo_15 : decode cX6_letterTo 15 = .ok (.iload_n 3, 1) := by decide +kernel
theorem dX6_letterTo_16 : decode cX6_letterTo 16 = .ok (.aload_n 0, 1) := by decide +kernel
theorem dX6_letterTo_17 : decode cX6_letterTo 17 = .ok (.getfield 39, 3) := by decide +kernel
theorem dX6_letterTo_20 : decode cX6_letterTo 20 = .ok (.getfield 129, 3) := by decide +kernel
theorem dX6_letterTo_23 : decode cX6_letterTo 23 = .ok (.if_icmp .ge 42, 3) := by decide +kernel
theorem dX6_letterTo_26 : decode cX6_letterTo 26 = .ok (.aload_n 0, 1) := by decide +kernel
theorem dX6_letterTo_27 : decode cX6_letterTo 27 = .ok (.iload_n 1, 1) := by decide +kernel
theorem dX6_letterTo_28 : decode cX6_letterTo 28 = .ok (.iload_n 3, 1) := by decide +kernel
theorem dX6_letterTo_29 : decode cX6_letterTo 29 = .ok (.invokevirtual 120, 3) := by decide +kernel
theorem dX6_letterTo_32 : decode cX6_letterTo 32 = .ok (.ifCond .eq 27, 3) := by decide +kernel
theorem dX6_letterTo_35 : decode cX6_letterTo 35 = .ok (.bipush 31, 2) := by decide +kernel
theorem dX6_letterTo_37 : decode cX6_letterTo 37 = .ok (.iload_n 2, 1) := by decide +kernel
theorem dX6_letterTo_38 : decode cX6_letterTo 38 = .ok (.imul, 1) := by decide +kernel
theorem dX6_letterTo_39 : decode cX6_letterTo 39 = .ok (.iload_n 3, 1) := by decide +kernel
theorem dX6_letterTo_40 : decode cX6_letterTo 40 = .ok (.iadd, 1) := by decide +kernel
theorem dX6_letterTo_41 : decode cX6_letterTo 41 = .ok (.sipush 128, 3) := by decide +kernel
theorem dX6_letterTo_44 : decode cX6_letterTo 44 = .ok (.aload_n 0, 1) := by decide +kernel
theorem dX6_letterTo_45 : decode cX6_letterTo 45 = .ok (.iload_n 3, 1) := by decide +kernel
theorem dX6_letterTo_46 : decode cX6_letterTo 46 = .ok (.invokevirtual 123, 3) := by decide +kernel
theorem dX6_letterTo_49 : decode cX6_letterTo 49 = .ok (.imul, 1) := by decide +kernel
theorem dX6_letterTo_50 : decode cX6_letterTo 50 = .ok (.iadd, 1) := by decide +kernel
theorem dX6_letterTo_51 : decode cX6_letterTo 51 = .ok (.istore_n 2, 1) := by decide +kernel
theorem dX6_letterTo_52 : decode cX6_letterTo 52 = .ok (.aload_n 0, 1) := by decide +kernel
theorem dX6_letterTo_53 : decode cX6_letterTo 53 = .ok (.iload_n 3, 1) := by decide +kernel
theorem dX6_letterTo_54 : decode cX6_letterTo 54 = .ok (.iload_n 2, 1) := by decide +kernel
theorem dX6_letterTo_55 : decode cX6_letterTo 55 = .ok (.invokevirtual 132, 3) := by decide +kernel
theorem dX6_letterTo_58 : decode cX6_letterTo 58 = .ok (.istore_n 2, 1) := by decide +kernel
theorem dX6_letterTo_59 : decode cX6_letterTo 59 = .ok (.iinc 3 1, 3) := by decide +kernel
theorem dX6_letterTo_62 : decode cX6_letterTo 62 = .ok (.goto (-47), 3) := by decide +kernel
theorem dX6_letterTo_65 : decode cX6_letterTo 65 = .ok (.bipush 31, 2) := by decide +kernel
theorem dX6_letterTo_67 : decode cX6_letterTo 67 = .ok (.iload_n 2, 1) := by decide +kernel
theorem dX6_letterTo_68 : decode cX6_letterTo 68 = .ok (.imul, 1) := by decide +kernel
theorem dX6_letterTo_69 : decode cX6_letterTo 69 = .ok (.aload_n 0, 1) := by decide +kernel
theorem dX6_letterTo_70 : decode cX6_letterTo 70 = .ok (.getfield 15, 3) := by decide +kernel
theorem dX6_letterTo_73 : decode cX6_letterTo 73 = .ok (.iload_n 1, 1) := by decide +kernel
theorem dX6_letterTo_74 : decode cX6_letterTo 74 = .ok (.iaload, 1) := by decide +kernel
theorem dX6_letterTo_75 : decode cX6_letterTo 75 = .ok (.iadd, 1) := by decide +kernel
theorem dX6_letterTo_76 : decode cX6_letterTo 76 = .ok (.bipush 8, 2) := by decide +kernel
theorem dX6_letterTo_78 : decode cX6_letterTo 78 = .ok (.aload_n 0, 1) := by decide +kernel
theorem dX6_letterTo_79 : decode cX6_letterTo 79 = .ok (.getfield 24, 3) := by decide +kernel
theorem dX6_letterTo_82 : decode cX6_letterTo 82 = .ok (.iload_n 1, 1) := by decide +kernel
theorem dX6_letterTo_83 : decode cX6_letterTo 83 = .ok (.iaload, 1) := by decide +kernel
theorem dX6_letterTo_84 : decode cX6_letterTo 84 = .ok (.imul, 1) := by decide +kernel
theorem dX6_letterTo_85 : decode cX6_letterTo 85 = .ok (.iadd, 1) := by decide +kernel
theorem dX6_letterTo_86 : decode cX6_letterTo 86 = .ok (.bipush 64, 2) := by decide +kernel
theorem dX6_letterTo_88 : decode cX6_letterTo 88 = .ok (.aload_n 0, 1) := by decide +kernel
theorem dX6_letterTo_89 : decode cX6_letterTo 89 = .ok (.getfield 27, 3) := by decide +kernel
theorem dX6_letterTo_92 : decode cX6_letterTo 92 = .ok (.iload_n 1, 1) := by decide +kernel
theorem dX6_letterTo_93 : decode cX6_letterTo 93 = .ok (.iaload, 1) := by decide +kernel
theorem dX6_letterTo_94 : decode cX6_letterTo 94 = .ok (.iconst 1, 1) := by decide +kernel
theorem dX6_letterTo_95 : decode cX6_letterTo 95 = .ok (.iadd, 1) := by decide +kernel
theorem dX6_letterTo_96 : decode cX6_letterTo 96 = .ok (.imul, 1) := by decide +kernel
theorem dX6_letterTo_97 : decode cX6_letterTo 97 = .ok (.iadd, 1) := by decide +kernel
theorem dX6_letterTo_98 : decode cX6_letterTo 98 = .ok (.istore_n 2, 1) := by decide +kernel
theorem dX6_letterTo_99 : decode cX6_letterTo 99 = .ok (.bipush 31, 2) := by decide +kernel
theorem dX6_letterTo_101 : decode cX6_letterTo 101 = .ok (.iload_n 2, 1) := by decide +kernel
theorem dX6_letterTo_102 : decode cX6_letterTo 102 = .ok (.imul, 1) := by decide +kernel
theorem dX6_letterTo_103 : decode cX6_letterTo 103 = .ok (.aload_n 0, 1) := by decide +kernel
theorem dX6_letterTo_104 : decode cX6_letterTo 104 = .ok (.getfield 33, 3) := by decide +kernel
theorem dX6_letterTo_107 : decode cX6_letterTo 107 = .ok (.iload_n 1, 1) := by decide +kernel
theorem dX6_letterTo_108 : decode cX6_letterTo 108 = .ok (.iaload, 1) := by decide +kernel
theorem dX6_letterTo_109 : decode cX6_letterTo 109 = .ok (.iadd, 1) := by decide +kernel
theorem dX6_letterTo_110 : decode cX6_letterTo 110 = .ok (.ireturn, 1) := by decide +kernel
theorem dX6_addThingsIn_0 : decode cX6_addThingsIn 0 = .ok (.iconst 0, 1) := by decide +kernel
theorem dX6_addThingsIn_1 : decode cX6_addThingsIn 1 = .ok (.istore_n 3, 1) := by decide +kernel
theorem dX6_addThingsIn_2 : decode cX6_addThingsIn 2 = .ok (.iload_n 3, 1) := by decide +kernel
theorem dX6_addThingsIn_3 : decode cX6_addThingsIn 3 = .ok (.aload_n 0, 1) := by decide +kernel
theorem dX6_addThingsIn_4 : decode cX6_addThingsIn 4 = .ok (.getfield 39, 3) := by decide +kernel
theorem dX6_addThingsIn_7 : decode cX6_addThingsIn 7 = .ok (.getfield 75, 3) := by decide +kernel
theorem dX6_addThingsIn_10 : decode cX6_addThingsIn 10 = .ok (.if_icmp .ge 62, 3) := by decide +kernel
theorem dX6_addThingsIn_13 : decode cX6_addThingsIn 13 = .ok (.aload_n 0, 1) := by decide +kernel
theorem dX6_addThingsIn_14 : decode cX6_addThingsIn 14 = .ok (.getfield 39, 3) := by decide +kernel
theorem dX6_addThingsIn_17 : decode cX6_addThingsIn 17 = .ok (.getfield 72, 3) := by decide +kernel
theorem dX6_addThingsIn_20 : decode cX6_addThingsIn 20 = .ok (.iload_n 3, 1) := by decide +kernel
theorem dX6_addThingsIn_21 : decode cX6_addThingsIn 21 = .ok (.iaload, 1) := by decide +kernel
theorem dX6_addThingsIn_22 : decode cX6_addThingsIn 22 = .ok (.iconst 4, 1) := by decide +kernel
theorem dX6_addThingsIn_23 : decode cX6_addThingsIn 23 = .ok (.if_icmp .eq 43, 3) := by decide +kernel
theorem dX6_addThingsIn_26 : decode cX6_addThingsIn 26 = .ok (.aload_n 0, 1) := by decide +kernel
theorem dX6_addThingsIn_27 : decode cX6_addThingsIn 27 = .ok (.iload_n 3, 1) := by decide +kernel
theorem dX6_addThingsIn_28 : decode cX6_addThingsIn 28 = .ok (.iload_n 1, 1) := by decide +kernel
theorem dX6_addThingsIn_29 : decode cX6_addThingsIn 29 = .ok (.invokevirtual 126, 3) := by decide +kernel
theorem dX6_addThingsIn_32 : decode cX6_addThingsIn 32 = .ok (.ifCond .eq 34, 3) := by decide +kernel
theorem dX6_addThingsIn_35 : decode cX6_addThingsIn 35 = .ok (.bipush 31, 2) := by decide +kernel
theorem dX6_addThingsIn_37 : decode cX6_addThingsIn 37 = .ok (.iload_n 2, 1) := by decide +kernel
theorem dX6_addThingsIn_38 : decode cX6_addThingsIn 38 = .ok (.imul, 1) := by decide +kernel
theorem dX6_addThingsIn_39 : decode cX6_addThingsIn 39 = .ok (.iload_n 3, 1) := by decide +kernel
theorem dX6_addThingsIn_40 : decode cX6_addThingsIn 40 = .ok (.iadd, 1) := by decide +kernel
theorem dX6_addThingsIn_41 : decode cX6_addThingsIn 41 = .ok (.bipush 32, 2) := by decide +kernel
theorem dX6_addThingsIn_43 : decode cX6_addThingsIn 43 = .ok (.aload_n 0, 1) := by decide +kernel
theorem dX6_addThingsIn_44 : decode cX6_addThingsIn 44 = .ok (.getfield 39, 3) := by decide +kernel
theorem dX6_addThingsIn_47 : decode cX6_addThingsIn 47 = .ok (.getfield 72, 3) := by decide +kernel
theorem dX6_addThingsIn_50 : decode cX6_addThingsIn 50 = .ok (.iload_n 3, 1) := by decide +kernel
theorem dX6_addThingsIn_51 : decode cX6_addThingsIn 51 = .ok (.iaload, 1) := by decide +kernel
theorem dX6_addThingsIn_52 : decode cX6_addThingsIn 52 = .ok (.imul, 1) := by decide +kernel
theorem dX6_addThingsIn_53 : decode cX6_addThingsIn 53 = .ok (.iadd, 1) := by decide +kernel
theorem dX6_addThingsIn_54 : decode cX6_addThingsIn 54 = .ok (.sipush 512, 3) := by decide +kernel
theorem dX6_addThingsIn_57 : decode cX6_addThingsIn 57 = .ok (.aload_n 0, 1) := by decide +kernel
theorem dX6_addThingsIn_58 : decode cX6_addThingsIn 58 = .ok (.getfield 15, 3) := by decide +kernel
theorem dX6_addThingsIn_61 : decode cX6_addThingsIn 61 = .ok (.iload_n 3, 1) := by decide +kernel
theorem dX6_addThingsIn_62 : decode cX6_addThingsIn 62 = .ok (.iaload, 1) := by decide +kernel
theorem dX6_addThingsIn_63 : decode cX6_addThingsIn 63 = .ok (.imul, 1) := by decide +kernel
theorem dX6_addThingsIn_64 : decode cX6_addThingsIn 64 = .ok (.iadd, 1) := by decide +kernel
theorem dX6_addThingsIn_65 : decode cX6_addThingsIn 65 = .ok (.istore_n 2, 1) := by decide +kernel
theorem dX6_addThingsIn_66 : decode cX6_addThingsIn 66 = .ok (.iinc 3 1, 3) := by decide +kernel
theorem dX6_addThingsIn_69 : decode cX6_addThingsIn 69 = .ok (.goto (-67), 3) := by decide +kernel
theorem dX6_addThingsIn_72 : decode cX6_addThingsIn 72 = .ok (.iload_n 2, 1) := by decide +kernel
theorem dX6_addThingsIn_73 : decode cX6_addThingsIn 73 = .ok (.ireturn, 1) := by decide +kernel
theorem dX6_sumUp_0 : decode cX6_sumUp 0 = .ok (.bipush 7, 2) := by decide +kernel
theorem dX6_sumUp_2 : decode cX6_sumUp 2 = .ok (.istore_n 1, 1) := by decide +kernel
theorem dX6_sumUp_3 : decode cX6_sumUp 3 = .ok (.iconst 0, 1) := by decide +kernel
theorem dX6_sumUp_4 : decode cX6_sumUp 4 = .ok (.istore_n 2, 1) := by decide +kernel
theorem dX6_sumUp_5 : decode cX6_sumUp 5 = .ok (.iload_n 2, 1) := by decide +kernel
theorem dX6_sumUp_6 : decode cX6_sumUp 6 = .ok (.aload_n 0, 1) := by decide +kernel
theorem dX6_sumUp_7 : decode cX6_sumUp 7 = .ok (.getfield 39, 3) := by decide +kernel
theorem dX6_sumUp_10 : decode cX6_sumUp 10 = .ok (.getfield 75, 3) := by decide +kernel
theorem dX6_sumUp_13 : decode cX6_sumUp 13 = .ok (.if_icmp .ge 126, 3) := by decide +kernel
theorem dX6_sumUp_16 : decode cX6_sumUp 16 = .ok (.iload_n 2, 1) := by decide +kernel
theorem dX6_sumUp_17 : decode cX6_sumUp 17 = .ok (.aload_n 0, 1) := by decide +kernel
theorem dX6_sumUp_18 : decode cX6_sumUp 18 = .ok (.getfield 39, 3) := by decide +kernel
theorem dX6_sumUp_21 : decode cX6_sumUp 21 = .ok (.getfield 49, 3) := by decide +kernel
theorem dX6_sumUp_24 : decode cX6_sumUp 24 = .ok (.if_icmp .ge 7, 3) := by decide +kernel
theorem dX6_sumUp_27 : decode cX6_sumUp 27 = .ok (.iconst 1, 1) := by decide +kernel
theorem dX6_sumUp_28 : decode cX6_sumUp 28 = .ok (.goto 4, 3) := by decide +kernel
theorem dX6_sumUp_31 : decode cX6_sumUp 31 = .ok (.iconst 0, 1) := by decide +kernel
theorem dX6_sumUp_32 : decode cX6_sumUp 32 = .ok (.istore_n 3, 1) := by decide +kernel
theorem dX6_sumUp_33 : decode cX6_sumUp 33 = .ok (.bipush 31, 2) := by decide +kernel
theorem dX6_sumUp_35 : decode cX6_sumUp 35 = .ok (.iload_n 1, 1) := by decide +kernel
theorem dX6_sumUp_36 : decode cX6_sumUp 36 = .ok (.imul, 1) := by decide +kernel
theorem dX6_sumUp_37 : decode cX6_sumUp 37 = .ok (.aload_n 0, 1) := by decide +kernel
theorem dX6_sumUp_38 : decode cX6_sumUp 38 = .ok (.getfield 9, 3) := by decide +kernel
theorem dX6_sumUp_41 : decode cX6_sumUp 41 = .ok (.iload_n 2, 1) := by decide +kernel
theorem dX6_sumUp_42 : decode cX6_sumUp 42 = .ok (.iaload, 1) := by decide +kernel
theorem dX6_sumUp_43 : decode cX6_sumUp 43 = .ok (.iadd, 1) := by decide +kernel
theorem dX6_sumUp_44 : decode cX6_sumUp 44 = .ok (.istore_n 1, 1) := by decide +kernel
theorem dX6_sumUp_45 : decode cX6_sumUp 45 = .ok (.bipush 31, 2) := by decide +kernel
theorem dX6_sumUp_47 : decode cX6_sumUp 47 = .ok (.iload_n 1, 1) := by decide +kernel
theorem dX6_sumUp_48 : decode cX6_sumUp 48 = .ok (.imul, 1) := by decide +kernel
theorem dX6_sumUp_49 : decode cX6_sumUp 49 = .ok (.aload_n 0, 1) := by decide +kernel
theorem dX6_sumUp_50 : decode cX6_sumUp 50 = .ok (.getfield 15, 3) := by decide +kernel
theorem dX6_sumUp_53 : decode cX6_sumUp 53 = .ok (.iload_n 2, 1) := by decide +kernel
theorem dX6_sumUp_54 : decode cX6_sumUp 54 = .ok (.iaload, 1) := by decide +kernel
theorem dX6_sumUp_55 : decode cX6_sumUp 55 = .ok (.iadd, 1) := by decide +kernel
theorem dX6_sumUp_56 : decode cX6_sumUp 56 = .ok (.istore_n 1, 1) := by decide +kernel
theorem dX6_sumUp_57 : decode cX6_sumUp 57 = .ok (.bipush 31, 2) := by decide +kernel
theorem dX6_sumUp_59 : decode cX6_sumUp 59 = .ok (.iload_n 1, 1) := by decide +kernel
theorem dX6_sumUp_60 : decode cX6_sumUp 60 = .ok (.imul, 1) := by decide +kernel
theorem dX6_sumUp_61 : decode cX6_sumUp 61 = .ok (.iload_n 3, 1) := by decide +kernel
theorem dX6_sumUp_62 : decode cX6_sumUp 62 = .ok (.ifCond .eq 12, 3) := by decide +kernel
theorem dX6_sumUp_65 : decode cX6_sumUp 65 = .ok (.aload_n 0, 1) := by decide +kernel
theorem dX6_sumUp_66 : decode cX6_sumUp 66 = .ok (.getfield 21, 3) := by decide +kernel
theorem dX6_sumUp_69 : decode cX6_sumUp 69 = .ok (.iload_n 2, 1) := by decide +kernel
theorem dX6_sumUp_70 : decode cX6_sumUp 70 = .ok (.iaload, 1) := by decide +kernel
theorem dX6_sumUp_71 : decode cX6_sumUp 71 = .ok (.goto 4, 3) := by decide +kernel
theorem dX6_sumUp_74 : decode cX6_sumUp 74 = .ok (.iconst 0, 1) := by decide +kernel
theorem dX6_sumUp_75 : decode cX6_sumUp 75 = .ok (.iadd, 1) := by decide +kernel
theorem dX6_sumUp_76 : decode cX6_sumUp 76 = .ok (.istore_n 1, 1) := by decide +kernel
theorem dX6_sumUp_77 : decode cX6_sumUp 77 = .ok (.bipush 31, 2) := by decide +kernel
theorem dX6_sumUp_79 : decode cX6_sumUp 79 = .ok (.iload_n 1, 1) := by decide +kernel
theorem dX6_sumUp_80 : decode cX6_sumUp 80 = .ok (.imul, 1) := by decide +kernel
theorem dX6_sumUp_81 : decode cX6_sumUp 81 = .ok (.iload_n 3, 1) := by decide +kernel
theorem dX6_sumUp_82 : decode cX6_sumUp 82 = .ok (.ifCond .eq 12, 3) := by decide +kernel
theorem dX6_sumUp_85 : decode cX6_sumUp 85 = .ok (.aload_n 0, 1) := by decide +kernel
theorem dX6_sumUp_86 : decode cX6_sumUp 86 = .ok (.getfield 24, 3) := by decide +kernel
theorem dX6_sumUp_89 : decode cX6_sumUp 89 = .ok (.iload_n 2, 1) := by decide +kernel
theorem dX6_sumUp_90 : decode cX6_sumUp 90 = .ok (.iaload, 1) := by decide +kernel
theorem dX6_sumUp_91 : decode cX6_sumUp 91 = .ok (.goto 4, 3) := by decide +kernel
theorem dX6_sumUp_94 : decode cX6_sumUp 94 = .ok (.iconst 0, 1) := by decide +kernel
theorem dX6_sumUp_95 : decode cX6_sumUp 95 = .ok (.iadd, 1) := by decide +kernel
theorem dX6_sumUp_96 : decode cX6_sumUp 96 = .ok (.istore_n 1, 1) := by decide +kernel
theorem dX6_sumUp_97 : decode cX6_sumUp 97 = .ok (.bipush 31, 2) := by decide +kernel
theorem dX6_sumUp_99 : decode cX6_sumUp 99 = .ok (.iload_n 1, 1) := by decide +kernel
theorem dX6_sumUp_100 : decode cX6_sumUp 100 = .ok (.imul, 1) := by decide +kernel
theorem dX6_sumUp_101 : decode cX6_sumUp 101 = .ok (.iload_n 3, 1) := by decide +kernel
theorem dX6_sumUp_102 : decode cX6_sumUp 102 = .ok (.ifCond .eq 14, 3) := by decide +kernel
theorem dX6_sumUp_105 : decode cX6_sumUp 105 = .ok (.aload_n 0, 1) := by decide +kernel
theorem dX6_sumUp_106 : decode cX6_sumUp 106 = .ok (.getfield 27, 3) := by decide +kernel
theorem dX6_sumUp_109 : decode cX6_sumUp 109 = .ok (.iload_n 2, 1) := by decide +kernel
theorem dX6_sumUp_110 : decode cX6_sumUp 110 = .ok (.iaload, 1) := by decide +kernel
theorem dX6_sumUp_111 : decode cX6_sumUp 111 = .ok (.iconst 1, 1) := by decide +kernel
theorem dX6_sumUp_112 : decode cX6_sumUp 112 = .ok (.iadd, 1) := by decide +kernel
theorem dX6_sumUp_113 : decode cX6_sumUp 113 = .ok (.goto 4, 3) := by decide +kernel
theorem dX6_sumUp_116 : decode cX6_sumUp 116 = .ok (.iconst 0, 1) := by decide +kernel
theorem dX6_sumUp_117 : decode cX6_sumUp 117 = .ok (.iadd, 1) := by decide +kernel
theorem dX6_sumUp_118 : decode cX6_sumUp 118 = .ok (.istore_n 1, 1) := by decide +kernel
theorem dX6_sumUp_119 : decode cX6_sumUp 119 = .ok (.bipush 31, 2) := by decide +kernel
theorem dX6_sumUp_121 : decode cX6_sumUp 121 = .ok (.iload_n 1, 1) := by decide +kernel
theorem dX6_sumUp_122 : decode cX6_sumUp 122 = .ok (.imul, 1) := by decide +kernel
theorem dX6_sumUp_123 : decode cX6_sumUp 123 = .ok (.aload_n 0, 1) := by decide +kernel
theorem dX6_sumUp_124 : decode cX6_sumUp 124 = .ok (.getfield 18, 3) := by decide +kernel
theorem dX6_sumUp_127 : decode cX6_sumUp 127 = .ok (.iload_n 2, 1) := by decide +kernel
theorem dX6_sumUp_128 : decode cX6_sumUp 128 = .ok (.iaload, 1) := by decide +kernel
theorem dX6_sumUp_129 : decode cX6_sumUp 129 = .ok (.iadd, 1) := by decide +kernel
theorem dX6_sumUp_130 : decode cX6_sumUp 130 = .ok (.iconst 1, 1) := by decide +kernel
theorem dX6_sumUp_131 : decode cX6_sumUp 131 = .ok (.iadd, 1) := by decide +kernel
theorem dX6_sumUp_132 : decode cX6_sumUp 132 = .ok (.istore_n 1, 1) := by decide +kernel
theorem dX6_sumUp_133 : decode cX6_sumUp 133 = .ok (.iinc 2 1, 3) := by decide +kernel
theorem dX6_sumUp_136 : decode cX6_sumUp 136 = .ok (.goto (-131), 3) := by decide +kernel
theorem dX6_sumUp_139 : decode cX6_sumUp 139 = .ok (.iconst 0, 1) := by decide +kernel
theorem dX6_sumUp_140 : decode cX6_sumUp 140 = .ok (.istore_n 2, 1) := by decide +kernel
theorem dX6_sumUp_141 : decode cX6_sumUp 141 = .ok (.iload_n 2, 1) := by decide +kernel
theorem dX6_sumUp_142 : decode cX6_sumUp 142 = .ok (.aload_n 0, 1) := by decide +kernel
theorem dX6_sumUp_143 : decode cX6_sumUp 143 = .ok (.getfield 39, 3) := by decide +kernel
theorem dX6_sumUp_146 : decode cX6_sumUp 146 = .ok (.getfield 135, 3) := by decide +kernel
theorem dX6_sumUp_149 : decode cX6_sumUp 149 = .ok (.if_icmp .ge 21, 3) := by decide +kernel
theorem dX6_sumUp_152 : decode cX6_sumUp 152 = .ok (.bipush 31, 2) := by decide +kernel
theorem dX6_sumUp_154 : decode cX6_sumUp 154 = .ok (.iload_n 1, 1) := by decide +kernel
theorem dX6_sumUp_155 : decode cX6_sumUp 155 = .ok (.imul, 1) := by decide +kernel
theorem dX6_sumUp_156 : decode cX6_sumUp 156 = .ok (.aload_n 0, 1) := by decide +kernel
theorem dX6_sumUp_157 : decode cX6_sumUp 157 = .ok (.getfield 36, 3) := by decide +kernel
theorem dX6_sumUp_160 : decode cX6_sumUp 160 = .ok (.iload_n 2, 1) := by decide +kernel
theorem dX6_sumUp_161 : decode cX6_sumUp 161 = .ok (.iaload, 1) := by decide +kernel
theorem dX6_sumUp_162 : decode cX6_sumUp 162 = .ok (.iadd, 1) := by decide +kernel
theorem dX6_sumUp_163 : decode cX6_sumUp 163 = .ok (.istore_n 1, 1) := by decide +kernel
theorem dX6_sumUp_164 : decode cX6_sumUp 164 = .ok (.iinc 2 1, 3) := by decide +kernel
theorem dX6_sumUp_167 : decode cX6_sumUp 167 = .ok (.goto (-26), 3) := by decide +kernel
theorem dX6_sumUp_170 : decode cX6_sumUp 170 = .ok (.iconst 0, 1) := by decide +kernel
theorem dX6_sumUp_171 : decode cX6_sumUp 171 = .ok (.istore_n 2, 1) := by decide +kernel
theorem dX6_sumUp_172 : decode cX6_sumUp 172 = .ok (.iload_n 2, 1) := by decide +kernel
theorem dX6_sumUp_173 : decode cX6_sumUp 173 = .ok (.aload_n 0, 1) := by decide +kernel
theorem dX6_sumUp_174 : decode cX6_sumUp 174 = .ok (.getfield 39, 3) := by decide +kernel
theorem dX6_sumUp_177 : decode cX6_sumUp 177 = .ok (.getfield 49, 3) := by decide +kernel
theorem dX6_sumUp_180 : decode cX6_sumUp 180 = .ok (.if_icmp .ge 33, 3) := by decide +kernel
theorem dX6_sumUp_183 : decode cX6_sumUp 183 = .ok (.bipush 31, 2) := by decide +kernel
theorem dX6_sumUp_185 : decode cX6_sumUp 185 = .ok (.iload_n 1, 1) := by decide +kernel
theorem dX6_sumUp_186 : decode cX6_sumUp 186 = .ok (.imul, 1) := by decide +kernel
theorem dX6_sumUp_187 : decode cX6_sumUp 187 = .ok (.aload_n 0, 1) := by decide +kernel
theorem dX6_sumUp_188 : decode cX6_sumUp 188 = .ok (.getfield 30, 3) := by decide +kernel
theorem dX6_sumUp_191 : decode cX6_sumUp 191 = .ok (.iload_n 2, 1) := by decide +kernel
theorem dX6_sumUp_192 : decode cX6_sumUp 192 = .ok (.iaload, 1) := by decide +kernel
theorem dX6_sumUp_193 : decode cX6_sumUp 193 = .ok (.iadd, 1) := by decide +kernel
theorem dX6_sumUp_194 : decode cX6_sumUp 194 = .ok (.istore_n 1, 1) := by decide +kernel
theorem dX6_sumUp_195 : decode cX6_sumUp 195 = .ok (.bipush 31, 2) := by decide +kernel
theorem dX6_sumUp_197 : decode cX6_sumUp 197 = .ok (.iload_n 1, 1) := by decide +kernel
theorem dX6_sumUp_198 : decode cX6_sumUp 198 = .ok (.imul, 1) := by decide +kernel
theorem dX6_sumUp_199 : decode cX6_sumUp 199 = .ok (.aload_n 0, 1) := by decide +kernel
theorem dX6_sumUp_200 : decode cX6_sumUp 200 = .ok (.getfield 33, 3) := by decide +kernel
theorem dX6_sumUp_203 : decode cX6_sumUp 203 = .ok (.iload_n 2, 1) := by decide +kernel
theorem dX6_sumUp_204 : decode cX6_sumUp 204 = .ok (.iaload, 1) := by decide +kernel
theorem dX6_sumUp_205 : decode cX6_sumUp 205 = .ok (.iadd, 1) := by decide +kernel
theorem dX6_sumUp_206 : decode cX6_sumUp 206 = .ok (.istore_n 1, 1) := by decide +kernel
theorem dX6_sumUp_207 : decode cX6_sumUp 207 = .ok (.iinc 2 1, 3) := by decide +kernel
theorem dX6_sumUp_210 : decode cX6_sumUp 210 = .ok (.goto (-38), 3) := by decide +kernel
theorem dX6_sumUp_213 : decode cX6_sumUp 213 = .ok (.iload_n 1, 1) := by decide +kernel
theorem dX6_sumUp_214 : decode cX6_sumUp 214 = .ok (.ireturn, 1) := by decide +kernel
theorem dX6_forbids_0 : decode cX6_forbids 0 = .ok (.iload_n 2, 1) := by decide +kernel
theorem dX6_forbids_1 : decode cX6_forbids 1 = .ok (.invokestatic 138, 3) := by decide +kernel
theorem dX6_forbids_4 : decode cX6_forbids 4 = .ok (.tableswitch 126 2 6 #[36, 51, 81, 96, 111], 36) := by decide +kernel
theorem dX6_forbids_40 : decode cX6_forbids 40 = .ok (.aload_n 0, 1) := by decide +kernel
theorem dX6_forbids_41 : decode cX6_forbids 41 = .ok (.getfield 24, 3) := by decide +kernel
theorem dX6_forbids_44 : decode cX6_forbids 44 = .ok (.iload_n 1, 1) := by decide +kernel
theorem dX6_forbids_45 : decode cX6_forbids 45 = .ok (.iaload, 1) := by decide +kernel
theorem dX6_forbids_46 : decode cX6_forbids 46 = .ok (.ifCond .le 7, 3) := by decide +kernel
theorem dX6_forbids_49 : decode cX6_forbids 49 = .ok (.iconst 1, 1) := by decide +kernel
theorem dX6_forbids_50 : decode cX6_forbids 50 = .ok (.goto 4, 3) := by decide +kernel
theorem dX6_forbids_53 : decode cX6_forbids 53 = .ok (.iconst 0, 1) := by decide +kernel
theorem dX6_forbids_54 : decode cX6_forbids 54 = .ok (.ireturn, 1) := by decide +kernel
theorem dX6_forbids_55 : decode cX6_forbids 55 = .ok (.aload_n 0, 1) := by decide +kernel
theorem dX6_forbids_56 : decode cX6_forbids 56 = .ok (.aload_n 0, 1) := by decide +kernel
theorem dX6_forbids_57 : decode cX6_forbids 57 = .ok (.getfield 39, 3) := by decide +kernel
theorem dX6_forbids_60 : decode cX6_forbids 60 = .ok (.aload_n 0, 1) := by decide +kernel
theorem dX6_forbids_61 : decode cX6_forbids 61 = .ok (.getfield 9, 3) := by decide +kernel
theorem dX6_forbids_64 : decode cX6_forbids 64 = .ok (.iload_n 1, 1) := by decide +kernel
theorem dX6_forbids_65 : decode cX6_forbids 65 = .ok (.iaload, 1) := by decide +kernel
theorem dX6_forbids_66 : decode cX6_forbids 66 = .ok (.iload_n 2, 1) := by decide +kernel
theorem dX6_forbids_67 : decode cX6_forbids 67 = .ok (.invokestatic 143, 3) := by decide +kernel
theorem dX6_forbids_70 : decode cX6_forbids 70 = .ok (.invokevirtual 146, 3) := by decide +kernel
theorem dX6_forbids_73 : decode cX6_forbids 73 = .ok (.invokevirtual 149, 3) := by decide +kernel
theorem dX6_forbids_76 : decode cX6_forbids 76 = .ok (.ifCond .ne 7, 3) := by decide +kernel
theorem dX6_forbids_79 : decode cX6_forbids 79 = .ok (.iconst 1, 1) := by decide +kernel
theorem dX6_forbids_80 : decode cX6_forbids 80 = .ok (.goto 4, 3) := by decide +kernel
theorem dX6_forbids_83 : decode cX6_forbids 83 = .ok (.iconst 0, 1) := by decide +kernel
theorem dX6_forbids_84 : decode cX6_forbids 84 = .ok (.ireturn, 1) := by decide +kernel
theorem dX6_forbids_85 : decode cX6_forbids 85 = .ok (.aload_n 0, 1) := by decide +kernel
theorem dX6_forbids_86 : decode cX6_forbids 86 = .ok (.getfield 27, 3) := by decide +kernel
theorem dX6_forbids_89 : decode cX6_forbids 89 = .ok (.iload_n 1, 1) := by decide +kernel
theorem dX6_forbids_90 : decode cX6_forbids 90 = .ok (.iaload, 1) := by decide +kernel
theorem dX6_forbids_91 : decode cX6_forbids 91 = .ok (.ifCond .lt 7, 3) := by decide +kernel
theorem dX6_forbids_94 : decode cX6_forbids 94 = .ok (.iconst 1, 1) := by decide +kernel
theorem dX6_forbids_95 : decode cX6_forbids 95 = .ok (.goto 4, 3) := by decide +kernel
theorem dX6_forbids_98 : decode cX6_forbids 98 = .ok (.iconst 0, 1) := by decide +kernel
theorem dX6_forbids_99 : decode cX6_forbids 99 = .ok (.ireturn, 1) := by decide +kernel
theorem dX6_forbids_100 : decode cX6_forbids 100 = .ok (.aload_n 0, 1) := by decide +kernel
theorem dX6_forbids_101 : decode cX6_forbids 101 = .ok (.getfield 27, 3) := by decide +kernel
theorem dX6_forbids_104 : decode cX6_forbids 104 = .ok (.iload_n 1, 1) := by decide +kernel
theorem dX6_forbids_105 : decode cX6_forbids 105 = .ok (.iaload, 1) := by decide +kernel
theorem dX6_forbids_106 : decode cX6_forbids 106 = .ok (.ifCond .ge 7, 3) := by decide +kernel
theorem dX6_forbids_109 : decode cX6_forbids 109 = .ok (.iconst 1, 1) := by decide +kernel
theorem dX6_forbids_110 : decode cX6_forbids 110 = .ok (.goto 4, 3) := by decide +kernel
theorem dX6_forbids_113 : decode cX6_forbids 113 = .ok (.iconst 0, 1) := by decide +kernel
theorem dX6_forbids_114 : decode cX6_forbids 114 = .ok (.ireturn, 1) := by decide +kernel
theorem dX6_forbids_115 : decode cX6_forbids 115 = .ok (.aload_n 0, 1) := by decide +kernel
theorem dX6_forbids_116 : decode cX6_forbids 116 = .ok (.iload_n 1, 1) := by decide +kernel
theorem dX6_forbids_117 : decode cX6_forbids 117 = .ok (.iconst 5, 1) := by decide +kernel
theorem dX6_forbids_118 : decode cX6_forbids 118 = .ok (.invokevirtual 112, 3) := by decide +kernel
theorem dX6_forbids_121 : decode cX6_forbids 121 = .ok (.ifCond .ne 7, 3) := by decide +kernel
theorem dX6_forbids_124 : decode cX6_forbids 124 = .ok (.iconst 1, 1) := by decide +kernel
theorem dX6_forbids_125 : decode cX6_forbids 125 = .ok (.goto 4, 3) := by decide +kernel
theorem dX6_forbids_128 : decode cX6_forbids 128 = .ok (.iconst 0, 1) := by decide +kernel
theorem dX6_forbids_129 : decode cX6_forbids 129 = .ok (.ireturn, 1) := by decide +kernel
theorem dX6_forbids_130 : decode cX6_forbids 130 = .ok (.iconst 0, 1) := by decide +kernel
theorem dX6_forbids_131 : decode cX6_forbids 131 = .ok (.ireturn, 1) := by decide +kernel
theorem dX6_isDoor_0 : decode cX6_isDoor 0 = .ok (.iload_n 1, 1) := by decide +kernel
theorem dX6_isDoor_1 : decode cX6_isDoor 1 = .ok (.ifCond .lt 20, 3) := by decide +kernel
theorem dX6_isDoor_4 : decode cX6_isDoor 4 = .ok (.aload_n 0, 1) := by decide +kernel
theorem dX6_isDoor_5 : decode cX6_isDoor 5 = .ok (.getfield 39, 3) := by decide +kernel
theorem dX6_isDoor_8 : decode cX6_isDoor 8 = .ok (.getfield 78, 3) := by decide +kernel
theorem dX6_isDoor_11 : decode cX6_isDoor 11 = .ok (.iload_n 1, 1) := by decide +kernel
theorem dX6_isDoor_12 : decode cX6_isDoor 12 = .ok (.iaload, 1) := by decide +kernel
theorem dX6_isDoor_13 : decode cX6_isDoor 13 = .ok (.iconst 2, 1) := by decide +kernel
theorem dX6_isDoor_14 : decode cX6_isDoor 14 = .ok (.if_icmp .ne 7, 3) := by decide +kernel
theorem dX6_isDoor_17 : decode cX6_isDoor 17 = .ok (.iconst 1, 1) := by decide +kernel
theorem dX6_isDoor_18 : decode cX6_isDoor 18 = .ok (.goto 4, 3) := by decide +kernel
theorem dX6_isDoor_21 : decode cX6_isDoor 21 = .ok (.iconst 0, 1) := by decide +kernel
theorem dX6_isDoor_22 : decode cX6_isDoor 22 = .ok (.ireturn, 1) := by decide +kernel
theorem dX6_shotChance_0 : decode cX6_shotChance 0 = .ok (.aload_n 0, 1) := by decide +kernel
theorem dX6_shotChance_1 : decode cX6_shotChance 1 = .ok (.getfield 24, 3) := by decide +kernel
theorem dX6_shotChance_4 : decode cX6_shotChance 4 = .ok (.iload_n 1, 1) := by decide +kernel
theorem dX6_shotChance_5 : decode cX6_shotChance 5 = .ok (.iaload, 1) := by decide +kernel
theorem dX6_shotChance_6 : decode cX6_shotChance 6 = .ok (.ifCond .ne 12, 3) := by decide +kernel
theorem dX6_shotChance_9 : decode cX6_shotChance 9 = .ok (.aload_n 0, 1) := by decide +kernel
theorem dX6_shotChance_10 : decode cX6_shotChance 10 = .ok (.iload_n 1, 1) := by decide +kernel
theorem dX6_shotChance_11 : decode cX6_shotChance 11 = .ok (.iload_n 2, 1) := by decide +kernel
theorem dX6_shotChance_12 : decode cX6_shotChance 12 = .ok (.invokevirtual 152, 3) := by decide +kernel
theorem dX6_shotChance_15 : decode cX6_shotChance 15 = .ok (.goto 4, 3) := by decide +kernel
theorem dX6_shotChance_18 : decode cX6_shotChance 18 = .ok (.iconst 0, 1) := by decide +kernel
theorem dX6_shotChance_19 : decode cX6_shotChance 19 = .ok (.istore_n 3, 1) := by decide +kernel
theorem dX6_shotChance_20 : decode cX6_shotChance 20 = .ok (.iload_n 3, 1) := by decide +kernel
theorem dX6_shotChance_21 : decode cX6_shotChance 21 = .ok (.ifCond .le 11, 3) := by decide +kernel
theorem dX6_shotChance_24 : decode cX6_shotChance 24 = .ok (.aload_n 0, 1) := by decide +kernel
theorem dX6_shotChance_25 : decode cX6_shotChance 25 = .ok (.iload_n 1, 1) := by decide +kernel
theorem dX6_shotChance_26 : decode cX6_shotChance 26 = .ok (.invokevirtual 155, 3) := by decide +kernel
theorem dX6_shotChance_29 : decode cX6_shotChance 29 = .ok (.goto 4, 3) := by decide +kernel
theorem dX6_shotChance_32 : decode cX6_shotChance 32 = .ok (.iconst 0, 1) := by decide +kernel
theorem dX6_shotChance_33 : decode cX6_shotChance 33 = .ok (.istore 4, 2) := by decide +kernel
theorem dX6_shotChance_35 : decode cX6_shotChance 35 = .ok (.iload 4, 2) := by decide +kernel
theorem dX6_shotChance_37 : decode cX6_shotChance 37 = .ok (.ifCond .gt 5, 3) := by decide +kernel
theorem dX6_shotChance_40 : decode cX6_shotChance 40 = .ok (.iconst (-1), 1) := by decide +kernel
theorem dX6_shotChance_41 : decode cX6_shotChance 41 = .ok (.ireturn, 1) := by decide +kernel
theorem dX6_shotChance_42 : decode cX6_shotChance 42 = .ok (.ldc 158, 2) := by decide +kernel
theorem dX6_shotChance_44 : decode cX6_shotChance 44 = .ok (.aload_n 0, 1) := by decide +kernel
theorem dX6_shotChance_45 : decode cX6_shotChance 45 = .ok (.iload_n 1, 1) := by decide +kernel
theorem dX6_shotChance_46 : decode cX6_shotChance 46 = .ok (.invokevirtual 159, 3) := by decide +kernel
theorem dX6_shotChance_49 : decode cX6_shotChance 49 = .ok (.iload_n 3, 1) := by decide +kernel
theorem dX6_shotChance_50 : decode cX6_shotChance 50 = .ok (.imul, 1) := by decide +kernel
theorem dX6_shotChance_51 : decode cX6_shotChance 51 = .ok (.iload 4, 2) := by decide +kernel
theorem dX6_shotChance_53 : decode cX6_shotChance 53 = .ok (.invokestatic 162, 3) := by decide +kernel
theorem dX6_shotChance_56 : decode cX6_shotChance 56 = .ok (.imul, 1) := by decide +kernel
theorem dX6_shotChance_57 : decode cX6_shotChance 57 = .ok (.iload 4, 2) := by decide +kernel
theorem dX6_shotChance_59 : decode cX6_shotChance 59 = .ok (.idiv, 1) := by decide +kernel
theorem dX6_shotChance_60 : decode cX6_shotChance 60 = .ok (.ireturn, 1) := by decide +kernel
theorem dX6_unseenInLine_0 : decode cX6_unseenInLine 0 = .ok (.iconst 0, 1) := by decide +kernel
theorem dX6_unseenInLine_1 : decode cX6_unseenInLine 1 = .ok (.istore_n 3, 1) := by decide +kernel
theorem dX6_unseenInLine_2 : decode cX6_unseenInLine 2 = .ok (.aload_n 0, 1) := by decide +kernel
theorem dX6_unseenInLine_3 : decode cX6_unseenInLine 3 = .ok (.getfield 39, 3) := by decide +kernel
theorem dX6_unseenInLine_6 : decode cX6_unseenInLine 6 = .ok (.aload_n 0, 1) := by decide +kernel
theorem dX6_unseenInLine_7 : decode cX6_unseenInLine 7 = .ok (.getfield 9, 3) := by decide +kernel
theorem dX6_unseenInLine_10 : decode cX6_unseenInLine 10 = .ok (.iload_n 1, 1) := by decide +kernel
theorem dX6_unseenInLine_11 : decode cX6_unseenInLine 11 = .ok (.iaload, 1) := by decide +kernel
theorem dX6_unseenInLine_12 : decode cX6_unseenInLine 12 = .ok (.iload_n 2, 1) := by decide +kernel
theorem dX6_unseenInLine_13 : decode cX6_unseenInLine 13 = .ok (.invokevirtual 146, 3) := by decide +kernel
theorem dX6_unseenInLine_16 : decode cX6_unseenInLine 16 = .ok (.istore 4, 2) := by decide +kernel
theorem dX6_unseenInLine_18 : decode cX6_unseenInLine 18 = .ok (.iconst 0, 1) := by decide +kernel
theorem dX6_unseenInLine_19 : decode cX6_unseenInLine 19 = .ok (.istore 5, 2) := by decide +kernel
theorem dX6_unseenInLine_21 : decode cX6_unseenInLine 21 = .ok (.iload 5, 2) := by decide +kernel
theorem dX6_unseenInLine_23 : decode cX6_unseenInLine 23 = .ok (.bipush 7, 2) := by decide +kernel
theorem dX6_unseenInLine_25 : decode cX6_unseenInLine 25 = .ok (.if_icmp .ge 62, 3) := by decide +kernel
theorem dX6_unseenInLine_28 : decode cX6_unseenInLine 28 = .ok (.iload 4, 2) := by decide +kernel
theorem dX6_unseenInLine_30 : decode cX6_unseenInLine 30 = .ok (.ifCond .lt 57, 3) := by decide +kernel
theorem dX6_unseenInLine_33 : decode cX6_unseenInLine 33 = .ok (.aload_n 0, 1) := by decide +kernel
theorem dX6_unseenInLine_34 : decode cX6_unseenInLine 34 = .ok (.iload 4, 2) := by decide +kernel
theorem dX6_unseenInLine_36 : decode cX6_unseenInLine 36 = .ok (.invokevirtual 84, 3) := by decide +kernel
theorem dX6_unseenInLine_39 : decode cX6_unseenInLine 39 = .ok (.ifCond .ne 48, 3) := by decide +kernel
theorem dX6_unseenInLine_42 : decode cX6_unseenInLine 42 = .ok (.aload_n 0, 1) := by decide +kernel
theorem dX6_unseenInLine_43 : decode cX6_unseenInLine 43 = .ok (.iload_n 1, 1) := by decide +kernel
theorem dX6_unseenInLine_44 : decode cX6_unseenInLine 44 = .ok (.iload 4, 2) := by decide +kernel
theorem dX6_unseenInLine_46 : decode cX6_unseenInLine 46 = .ok (.invokevirtual 120, 3) := by decide +kernel
theorem dX6_unseenInLine_49 : decode cX6_unseenInLine 49 = .ok (.ifCond .ne 9, 3) := by decide +kernel
theorem dX6_unseenInLine_52 : decode cX6_unseenInLine 52 = .ok (.iinc 3 1, 3) := by decide +kernel
theorem dX6_unseenInLine_55 : decode cX6_unseenInLine 55 = .ok (.goto 14, 3) := by decide +kernel
theorem dX6_unseenInLine_58 : decode cX6_unseenInLine 58 = .ok (.aload_n 0, 1) := by decide +kernel
theorem dX6_unseenInLine_59 : decode cX6_unseenInLine 59 = .ok (.iload 4, 2) := by decide +kernel
theorem dX6_unseenInLine_61 : decode cX6_unseenInLine 61 = .ok (.invokevirtual 88, 3) := by decide +kernel
theorem dX6_unseenInLine_64 : decode cX6_unseenInLine 64 = .ok (.ifCond .lt 5, 3) := by decide +kernel
theorem dX6_unseenInLine_67 : decode cX6_unseenInLine 67 = .ok (.iconst 0, 1) := by decide +kernel
theorem dX6_unseenInLine_68 : decode cX6_unseenInLine 68 = .ok (.ireturn, 1) := by decide +kernel
theorem dX6_unseenInLine_69 : decode cX6_unseenInLine 69 = .ok (.aload_n 0, 1) := by decide +kernel
theorem dX6_unseenInLine_70 : decode cX6_unseenInLine 70 = .ok (.getfield 39, 3) := by decide +kernel
theorem dX6_unseenInLine_73 : decode cX6_unseenInLine 73 = .ok (.iload 4, 2) := by decide +kernel
theorem dX6_unseenInLine_75 : decode cX6_unseenInLine 75 = .ok (.iload_n 2, 1) := by decide +kernel
theorem dX6_unseenInLine_76 : decode cX6_unseenInLine 76 = .ok (.invokevirtual 146, 3) := by decide +kernel
theorem dX6_unseenInLine_79 : decode cX6_unseenInLine 79 = .ok (.istore 4, 2) := by decide +kernel
theorem dX6_unseenInLine_81 : decode cX6_unseenInLine 81 = .ok (.iinc 5 1, 3) := by decide +kernel
theorem dX6_unseenInLine_84 : decode cX6_unseenInLine 84 = .ok (.goto (-63), 3) := by decide +kernel
theorem dX6_unseenInLine_87 : decode cX6_unseenInLine 87 = .ok (.iload_n 3, 1) := by decide +kernel
theorem dX6_unseenInLine_88 : decode cX6_unseenInLine 88 = .ok (.ireturn, 1) := by decide +kernel
theorem dX6_hiddenThings_0 : decode cX6_hiddenThings 0 = .ok (.iconst 0, 1) := by decide +kernel
theorem dX6_hiddenThings_1 : decode cX6_hiddenThings 1 = .ok (.istore_n 2, 1) := by decide +kernel
theorem dX6_hiddenThings_2 : decode cX6_hiddenThings 2 = .ok (.iconst 0, 1) := by decide +kernel
theorem dX6_hiddenThings_3 : decode cX6_hiddenThings 3 = .ok (.istore_n 3, 1) := by decide +kernel
theorem dX6_hiddenThings_4 : decode cX6_hiddenThings 4 = .ok (.iload_n 3, 1) := by decide +kernel
theorem dX6_hiddenThings_5 : decode cX6_hiddenThings 5 = .ok (.aload_n 0, 1) := by decide +kernel
theorem dX6_hiddenThings_6 : decode cX6_hiddenThings 6 = .ok (.getfield 39, 3) := by decide +kernel
theorem dX6_hiddenThings_9 : decode cX6_hiddenThings 9 = .ok (.getfield 75, 3) := by decide +kernel
theorem dX6_hiddenThings_12 : decode cX6_hiddenThings 12 = .ok (.if_icmp .ge 35, 3) := by decide +kernel
theorem dX6_hiddenThings_15 : decode cX6_hiddenThings 15 = .ok (.aload_n 0, 1) := by decide +kernel
theorem dX6_hiddenThings_16 : decode cX6_hiddenThings 16 = .ok (.getfield 15, 3) := by decide +kernel
theorem dX6_hiddenThings_19 : decode cX6_hiddenThings 19 = .ok (.iload_n 3, 1) := by decide +kernel
theorem dX6_hiddenThings_20 : decode cX6_hiddenThings 20 = .ok (.iaload, 1) := by decide +kernel
theorem dX6_hiddenThings_21 : decode cX6_hiddenThings 21 = .ok (.ifCond .le 20, 3) := by decide +kernel
theorem dX6_hiddenThings_24 : decode cX6_hiddenThings 24 = .ok (.aload_n 0, 1) := by decide +kernel
theorem dX6_hiddenThings_25 : decode cX6_hiddenThings 25 = .ok (.iload_n 1, 1) := by decide +kernel
theorem dX6_hiddenThings_26 : decode cX6_hiddenThings 26 = .ok (.aload_n 0, 1) := by decide +kernel
theorem dX6_hiddenThings_27 : decode cX6_hiddenThings 27 = .ok (.getfield 9, 3) := by decide +kernel
theorem dX6_hiddenThings_30 : decode cX6_hiddenThings 30 = .ok (.iload_n 3, 1) := by decide +kernel
theorem dX6_hiddenThings_31 : decode cX6_hiddenThings 31 = .ok (.iaload, 1) := by decide +kernel
theorem dX6_hiddenThings_32 : decode cX6_hiddenThings 32 = .ok (.invokevirtual 120, 3) := by decide +kernel
theorem dX6_hiddenThings_35 : decode cX6_hiddenThings 35 = .ok (.ifCond .ne 6, 3) := by decide +kernel
theorem dX6_hiddenThings_38 : decode cX6_hiddenThings 38 = .ok (.iinc 2 1, 3) := by decide +kernel
theorem dX6_hiddenThings_41 : decode cX6_hiddenThings 41 = .ok (.iinc 3 1, 3) := by decide +kernel
theorem dX6_hiddenThings_44 : decode cX6_hiddenThings 44 = .ok (.goto (-40), 3) := by decide +kernel
theorem dX6_hiddenThings_47 : decode cX6_hiddenThings 47 = .ok (.iload_n 2, 1) := by decide +kernel
theorem dX6_hiddenThings_48 : decode cX6_hiddenThings 48 = .ok (.ireturn, 1) := by decide +kernel
theorem dX6_darkCells_0 : decode cX6_darkCells 0 = .ok (.iconst 0, 1) := by decide +kernel
theorem dX6_darkCells_1 : decode cX6_darkCells 1 = .ok (.istore_n 2, 1) := by decide +kernel
theorem dX6_darkCells_2 : decode cX6_darkCells 2 = .ok (.iconst 0, 1) := by decide +kernel
theorem dX6_darkCells_3 : decode cX6_darkCells 3 = .ok (.istore_n 3, 1) := by decide +kernel
theorem dX6_darkCells_4 : decode cX6_darkCells 4 = .ok (.iload_n 3, 1) := by decide +kernel
theorem dX6_darkCells_5 : decode cX6_darkCells 5 = .ok (.aload_n 0, 1) := by decide +kernel
theorem dX6_darkCells_6 : decode cX6_darkCells 6 = .ok (.getfield 39, 3) := by decide +kernel
theorem dX6_darkCells_9 : decode cX6_darkCells 9 = .ok (.getfield 129, 3) := by decide +kernel
theorem dX6_darkCells_12 : decode cX6_darkCells 12 = .ok (.if_icmp .ge 34, 3) := by decide +kernel
theorem dX6_darkCells_15 : decode cX6_darkCells 15 = .ok (.aload_n 0, 1) := by decide +kernel
theorem dX6_darkCells_16 : decode cX6_darkCells 16 = .ok (.getfield 39, 3) := by decide +kernel
theorem dX6_darkCells_19 : decode cX6_darkCells 19 = .ok (.getfield 78, 3) := by decide +kernel
theorem dX6_darkCells_22 : decode cX6_darkCells 22 = .ok (.iload_n 3, 1) := by decide +kernel
theorem dX6_darkCells_23 : decode cX6_darkCells 23 = .ok (.iaload, 1) := by decide +kernel
theorem dX6_darkCells_24 : decode cX6_darkCells 24 = .ok (.iconst 1, 1) := by decide +kernel
theorem dX6_darkCells_25 : decode cX6_darkCells 25 = .ok (.if_icmp .eq 15, 3) := by decide +kernel
theorem dX6_darkCells_28 : decode cX6_darkCells 28 = .ok (.aload_n 0, 1) := by decide +kernel
theorem dX6_darkCells_29 : decode cX6_darkCells 29 = .ok (.iload_n 1, 1) := by decide +kernel
theorem dX6_darkCells_30 : decode cX6_darkCells 30 = .ok (.iload_n 3, 1) := by decide +kernel
theorem dX6_darkCells_31 : decode cX6_darkCells 31 = .ok (.invokevirtual 120, 3) := by decide +kernel
theorem dX6_darkCells_34 : decode cX6_darkCells 34 = .ok (.ifCond .ne 6, 3) := by decide +kernel
theorem dX6_darkCells_37 : decode cX6_darkCells 37 = .ok (.iinc 2 1, 3) := by decide +kernel
theorem dX6_darkCells_40 : decode cX6_darkCells 40 = .ok (.iinc 3 1, 3) := by decide +kernel
theorem dX6_darkCells_43 : decode cX6_darkCells 43 = .ok (.goto (-39), 3) := by decide +kernel
theorem dX6_darkCells_46 : decode cX6_darkCells 46 = .ok (.iload_n 2, 1) := by decide +kernel
theorem dX6_darkCells_47 : decode cX6_darkCells 47 = .ok (.ireturn, 1) := by decide +kernel
theorem dX6_wordChance_0 : decode cX6_wordChance 0 = .ok (.aload_n 0, 1) := by decide +kernel
theorem dX6_wordChance_1 : decode cX6_wordChance 1 = .ok (.getfield 39, 3) := by decide +kernel
theorem dX6_wordChance_4 : decode cX6_wordChance 4 = .ok (.aload_n 0, 1) := by decide +kernel
theorem dX6_wordChance_5 : decode cX6_wordChance 5 = .ok (.getfield 9, 3) := by decide +kernel
theorem dX6_wordChance_8 : decode cX6_wordChance 8 = .ok (.iload_n 1, 1) := by decide +kernel
theorem dX6_wordChance_9 : decode cX6_wordChance 9 = .ok (.iaload, 1) := by decide +kernel
theorem dX6_wordChance_10 : decode cX6_wordChance 10 = .ok (.iload_n 2, 1) := by decide +kernel
theorem dX6_wordChance_11 : decode cX6_wordChance 11 = .ok (.invokevirtual 146, 3) := by decide +kernel
theorem dX6_wordChance_14 : decode cX6_wordChance 14 = .ok (.istore_n 3, 1) := by decide +kernel
theorem dX6_wordChance_15 : decode cX6_wordChance 15 = .ok (.aload_n 0, 1) := by decide +kernel
theorem dX6_wordChance_16 : decode cX6_wordChance 16 = .ok (.iload_n 3, 1) := by decide +kernel
theorem dX6_wordChance_17 : decode cX6_wordChance 17 = .ok (.invokevirtual 165, 3) := by decide +kernel
theorem dX6_wordChance_20 : decode cX6_wordChance 20 = .ok (.ifCond .eq 29, 3) := by decide +kernel
theorem dX6_wordChance_23 : decode cX6_wordChance 23 = .ok (.aload_n 0, 1) := by decide +kernel
theorem dX6_wordChance_24 : decode cX6_wordChance 24 = .ok (.getfield 33, 3) := by decide +kernel
theorem dX6_wordChance_27 : decode cX6_wordChance 27 = .ok (.iload_n 1, 1) := by decide +kernel
theorem dX6_wordChance_28 : decode cX6_wordChance 28 = .ok (.iaload, 1) := by decide +kernel
theorem dX6_wordChance_29 : decode cX6_wordChance 29 = .ok (.aload_n 0, 1) := by decide +kernel
theorem dX6_wordChance_30 : decode cX6_wordChance 30 = .ok (.getfield 39, 3) := by decide +kernel
theorem dX6_wordChance_33 : decode cX6_wordChance 33 = .ok (.getfield 81, 3) := by decide +kernel
theorem dX6_wordChance_36 : decode cX6_wordChance 36 = .ok (.iload_n 3, 1) := by decide +kernel
theorem dX6_wordChance_37 : decode cX6_wordChance 37 = .ok (.iaload, 1) := by decide +kernel
theorem dX6_wordChance_38 : decode cX6_wordChance 38 = .ok (.ishr, 1) := by decide +kernel
theorem dX6_wordChance_39 : decode cX6_wordChance 39 = .ok (.iconst 1, 1) := by decide +kernel
theorem dX6_wordChance_40 : decode cX6_wordChance 40 = .ok (.iand, 1) := by decide +kernel
theorem dX6_wordChance_41 : decode cX6_wordChance 41 = .ok (.ifCond .ne 8, 3) := by decide +kernel
theorem dX6_wordChance_44 : decode cX6_wordChance 44 = .ok (.ldc 168, 2) := by decide +kernel
theorem dX6_wordChance_46 : decode cX6_wordChance 46 = .ok (.goto 4, 3) := by decide +kernel
theorem dX6_wordChance_49 : decode cX6_wordChance 49 = .ok (.iconst (-1), 1) := by decide +kernel
theorem dX6_wordChance_50 : decode cX6_wordChance 50 = .ok (.ireturn, 1) := by decide +kernel
theorem dX6_isWordNext_0 : decode cX6_isWordNext 0 = .ok (.aload_n 0, 1) := by decide +kernel
theorem dX6_isWordNext_1 : decode cX6_isWordNext 1 = .ok (.getfield 39, 3) := by decide +kernel
theorem dX6_isWordNext_4 : decode cX6_isWordNext 4 = .ok (.aload_n 0, 1) := by decide +kernel
theorem dX6_isWordNext_5 : decode cX6_isWordNext 5 = .ok (.getfield 9, 3) := by decide +kernel
theorem dX6_isWordNext_8 : decode cX6_isWordNext 8 = .ok (.iload_n 1, 1) := by decide +kernel
theorem dX6_isWordNext_9 : decode cX6_isWordNext 9 = .ok (.iaload, 1) := by decide +kernel
theorem dX6_isWordNext_10 : decode cX6_isWordNext 10 = .ok (.iload_n 2, 1) := by decide +kernel
theorem dX6_isWordNext_11 : decode cX6_isWordNext 11 = .ok (.invokevirtual 146, 3) := by decide +kernel
theorem dX6_isWordNext_14 : decode cX6_isWordNext 14 = .ok (.istore 4, 2) := by decide +kernel
theorem dX6_isWordNext_16 : decode cX6_isWordNext 16 = .ok (.aload_n 0, 1) := by decide +kernel
theorem dX6_isWordNext_17 : decode cX6_isWordNext 17 = .ok (.iload 4, 2) := by decide +kernel
theorem dX6_isWordNext_19 : decode cX6_isWordNext 19 = .ok (.invokevirtual 165, 3) := by decide +kernel
theorem dX6_isWordNext_22 : decode cX6_isWordNext 22 = .ok (.ifCond .eq 29, 3) := by decide +kernel
theorem dX6_isWordNext_25 : decode cX6_isWordNext 25 = .ok (.aload_n 0, 1) := by decide +kernel
theorem dX6_isWordNext_26 : decode cX6_isWordNext 26 = .ok (.getfield 39, 3) := by decide +kernel
theorem dX6_isWordNext_29 : decode cX6_isWordNext 29 = .ok (.getfield 169, 3) := by decide +kernel
theorem dX6_isWordNext_32 : decode cX6_isWordNext 32 = .ok (.aload_n 0, 1) := by decide +kernel
theorem dX6_isWordNext_33 : decode cX6_isWordNext 33 = .ok (.getfield 39, 3) := by decide +kernel
theorem dX6_isWordNext_36 : decode cX6_isWordNext 36 = .ok (.getfield 81, 3) := by decide +kernel
theorem dX6_isWordNext_39 : decode cX6_isWordNext 39 = .ok (.iload 4, 2) := by decide +kernel
theorem dX6_isWordNext_41 : decode cX6_isWordNext 41 = .ok (.iaload, 1) := by decide +kernel
theorem dX6_isWordNext_42 : decode cX6_isWordNext 42 = .ok (.iaload, 1) := by decide +kernel
theorem dX6_isWordNext_43 : decode cX6_isWordNext 43 = .ok (.iload_n 3, 1) := by decide +kernel
theorem dX6_isWordNext_44 : decode cX6_isWordNext 44 = .ok (.if_icmp .ne 7, 3) := by decide +kernel
theorem dX6_isWordNext_47 : decode cX6_isWordNext 47 = .ok (.iconst 1, 1) := by decide +kernel
theorem dX6_isWordNext_48 : decode cX6_isWordNext 48 = .ok (.goto 4, 3) := by decide +kernel
theorem dX6_isWordNext_51 : decode cX6_isWordNext 51 = .ok (.iconst 0, 1) := by decide +kernel
theorem dX6_isWordNext_52 : decode cX6_isWordNext 52 = .ok (.ireturn, 1) := by decide +kernel
theorem dX6_moveBodies_0 : decode cX6_moveBodies 0 = .ok (.aload_n 0, 1) := by decide +kernel
theorem dX6_moveBodies_1 : decode cX6_moveBodies 1 = .ok (.getfield 39, 3) := by decide +kernel
theorem dX6_moveBodies_4 : decode cX6_moveBodies 4 = .ok (.getfield 49, 3) := by decide +kernel
theorem dX6_moveBodies_7 : decode cX6_moveBodies 7 = .ok (.istore_n 3, 1) := by decide +kernel
theorem dX6_moveBodies_8 : decode cX6_moveBodies 8 = .ok (.iconst 0, 1) := by decide +kernel
theorem dX6_moveBodies_9 : decode cX6_moveBodies 9 = .ok (.istore 4, 2) := by decide +kernel
theorem dX6_moveBodies_11 : decode cX6_moveBodies 11 = .ok (.iload 4, 2) := by decide +kernel
theorem dX6_moveBodies_13 : decode cX6_moveBodies 13 = .ok (.iload_n 3, 1) := by decide +kernel
theorem dX6_moveBodies_14 : decode cX6_moveBodies 14 = .ok (.if_icmp .ge 206, 3) := by decide +kernel
theorem dX6_moveBodies_17 : decode cX6_moveBodies 17 = .ok (.iload_n 1, 1) := by decide +kernel
theorem dX6_moveBodies_18 : decode cX6_moveBodies 18 = .ok (.iload 4, 2) := by decide +kernel
theorem dX6_moveBodies_20 : decode cX6_moveBodies 20 = .ok (.iadd, 1) := by decide +kernel
theorem dX6_moveBodies_21 : decode cX6_moveBodies 21 = .ok (.iload_n 3, 1) := by decide +kernel
theorem dX6_moveBodies_22 : decode cX6_moveBodies 22 = .ok (.irem, 1) := by decide +kernel
theorem dX6_moveBodies_23 : decode cX6_moveBodies 23 = .ok (.istore 5, 2) := by decide +kernel
theorem dX6_moveBodies_25 : decode cX6_moveBodies 25 = .ok (.aload_n 0, 1) := by decide +kernel
theorem dX6_moveBodies_26 : decode cX6_moveBodies 26 = .ok (.getfield 15, 3) := by decide +kernel
theorem dX6_moveBodies_29 : decode cX6_moveBodies 29 = .ok (.iload 5, 2) := by decide +kernel
theorem dX6_moveBodies_31 : decode cX6_moveBodies 31 = .ok (.iaload, 1) := by decide +kernel
theorem dX6_moveBodies_32 : decode cX6_moveBodies 32 = .ok (.ifCond .le 13, 3) := by decide +kernel
theorem dX6_moveBodies_35 : decode cX6_moveBodies 35 = .ok (.aload_n 2, 1) := by decide +kernel
theorem dX6_moveBodies_36 : decode cX6_moveBodies 36 = .ok (.iload_n 1, 1) := by decide +kernel
theorem dX6_moveBodies_37 : decode cX6_moveBodies 37 = .ok (.iload 5, 2) := by decide +kernel
theorem dX6_moveBodies_39 : decode cX6_moveBodies 39 = .ok (.invokevirtual 172, 3) := by decide +kernel
theorem dX6_moveBodies_42 : decode cX6_moveBodies 42 = .ok (.goto 6, 3) := by decide +kernel
theorem dX6_moveBodies_45 : decode cX6_moveBodies 45 = .ok (.sipush 4096, 3) := by decide +kernel
theorem dX6_moveBodies_48 : decode cX6_moveBodies 48 = .ok (.istore 6, 2) := by decide +kernel
theorem dX6_moveBodies_50 : decode cX6_moveBodies 50 = .ok (.iload 6, 2) := by decide +kernel
theorem dX6_moveBodies_52 : decode cX6_moveBodies 52 = .ok (.invokestatic 143, 3) := by decide +kernel
theorem dX6_moveBodies_55 : decode cX6_moveBodies 55 = .ok (.istore 7, 2) := by decide +kernel
theorem dX6_moveBodies_57 : decode cX6_moveBodies 57 = .ok (.iconst 0, 1) := by decide +kernel
theorem dX6_moveBodies_58 : decode cX6_moveBodies 58 = .ok (.istore 8, 2) := by decide +kernel
theorem dX6_moveBodies_60 : decode cX6_moveBodies 60 = .ok (.iload 6, 2) := by decide +kernel
theorem dX6_moveBodies_62 : decode cX6_moveBodies 62 = .ok (.invokestatic 138, 3) := by decide +kernel
theorem dX6_moveBodies_65 : decode cX6_moveBodies 65 = .ok (.tableswitch 140 1 6 #[39, 73, 86, 102, 111, 127], 39) := by decide +kernel
theorem dX6_moveBodies_104 : decode cX6_moveBodies 104 = .ok (.aload_n 0, 1) := by decide +kernel
theorem dX6_moveBodies_105 : decode cX6_moveBodies 105 = .ok (.getfield 21, 3) := by decide +kernel
theorem dX6_moveBodies_108 : decode cX6_moveBodies 108 = .ok (.iload 5, 2) := by decide +kernel
theorem dX6_moveBodies_110 : decode cX6_moveBodies 110 = .ok (.iload 7, 2) := by decide +kernel
theorem dX6_moveBodies_112 : decode cX6_moveBodies 112 = .ok (.iastore, 1) := by decide +kernel
theorem dX6_moveBodies_113 : decode cX6_moveBodies 113 = .ok (.aload_n 0, 1) := by decide +kernel
theorem dX6_moveBodies_114 : decode cX6_moveBodies 114 = .ok (.iload 5, 2) := by decide +kernel
theorem dX6_moveBodies_116 : decode cX6_moveBodies 116 = .ok (.aload_n 0, 1) := by decide +kernel
theorem dX6_moveBodies_117 : decode cX6_moveBodies 117 = .ok (.getfield 39, 3) := by decide +kernel
theorem dX6_moveBodies_120 : decode cX6_moveBodies 120 = .ok (.aload_n 0, 1) := by decide +kernel
theorem dX6_moveBodies_121 : decode cX6_moveBodies 121 = .ok (.getfield 9, 3) := by decide +kernel
theorem dX6_moveBodies_124 : decode cX6_moveBodies 124 = .ok (.iload 5, 2) := by decide +kernel
theorem dX6_moveBodies_126 : decode cX6_moveBodies 126 = .ok (.iaload, 1) := by decide +kernel
theorem dX6_moveBodies_127 : decode cX6_moveBodies 127 = .ok (.iload 7, 2) := by decide +kernel
theorem dX6_moveBodies_129 : decode cX6_moveBodies 129 = .ok (.invokevirtual 146, 3) := by decide +kernel
theorem dX6_moveBodies_132 : decode cX6_moveBodies 132 = .ok (.invokevirtual 177, 3) := by decide +kernel
theorem dX6_moveBodies_135 : decode cX6_moveBodies 135 = .ok (.goto 70, 3) := by decide +kernel
theorem dX6_moveBodies_138 : decode cX6_moveBodies 138 = .ok (.aload_n 0, 1) := by decide +kernel
theorem dX6_moveBodies_139 : decode cX6_moveBodies 139 = .ok (.iload 5, 2) := by decide +kernel
theorem dX6_moveBodies_141 : decode cX6_moveBodies 141 = .ok (.iload 7, 2) := by decide +kernel
theorem dX6_moveBodies_143 : decode cX6_moveBodies 143 = .ok (.invokevirtual 181, 3) := by decide +kernel
theorem dX6_moveBodies_146 : decode cX6_moveBodies 146 = .ok (.istore 8, 2) := by decide +kernel
theorem dX6_moveBodies_148 : decode cX6_moveBodies 148 = .ok (.goto 57, 3) := by decide +kernel
theorem dX6_moveBodies_151 : decode cX6_moveBodies 151 = .ok (.aload_n 0, 1) := by decide +kernel
theorem dX6_moveBodies_152 : decode cX6_moveBodies 152 = .ok (.iload 5, 2) := by decide +kernel
theorem dX6_moveBodies_154 : decode cX6_moveBodies 154 = .ok (.iload 7, 2) := by decide +kernel
theorem dX6_moveBodies_156 : decode cX6_moveBodies 156 = .ok (.iload 6, 2) := by decide +kernel
theorem dX6_moveBodies_158 : decode cX6_moveBodies 158 = .ok (.invokestatic 184, 3) := by decide +kernel
theorem dX6_moveBodies_161 : decode cX6_moveBodies 161 = .ok (.invokevirtual 187, 3) := by decide +kernel
theorem dX6_moveBodies_164 : decode cX6_moveBodies 164 = .ok (.goto 41, 3) := by decide +kernel
theorem dX6_moveBodies_167 : decode cX6_moveBodies 167 = .ok (.aload_n 0, 1) := by decide +kernel
theorem dX6_moveBodies_168 : decode cX6_moveBodies 168 = .ok (.iload 5, 2) := by decide +kernel
theorem dX6_moveBodies_170 : decode cX6_moveBodies 170 = .ok (.invokevirtual 190, 3) := by decide +kernel
theorem dX6_moveBodies_173 : decode cX6_moveBodies 173 = .ok (.goto 32, 3) := by decide +kernel
theorem dX6_moveBodies_176 : decode cX6_moveBodies 176 = .ok (.aload_n 0, 1) := by decide +kernel
theorem dX6_moveBodies_177 : decode cX6_moveBodies 177 = .ok (.iload 5, 2) := by decide +kernel
theorem dX6_moveBodies_179 : decode cX6_moveBodies 179 = .ok (.aload_n 0, 1) := by decide +kernel
theorem dX6_moveBodies_180 : decode cX6_moveBodies 180 = .ok (.getfield 9, 3) := by decide +kernel
theorem dX6_moveBodies_183 : decode cX6_moveBodies 183 = .ok (.iload 5, 2) := by decide +kernel
theorem dX6_moveBodies_185 : decode cX6_moveBodies 185 = .ok (.iaload, 1) := by decide +kernel
theorem dX6_moveBodies_186 : decode cX6_moveBodies 186 = .ok (.invokevirtual 194, 3) := by decide +kernel
theorem dX6_moveBodies_189 : decode cX6_moveBodies 189 = .ok (.goto 16, 3) := by decide +kernel
theorem dX6_moveBodies_192 : decode cX6_moveBodies 192 = .ok (.aload_n 0, 1) := by decide +kernel
theorem dX6_moveBodies_193 : decode cX6_moveBodies 193 = .ok (.iload 5, 2) := by decide +kernel
theorem dX6_moveBodies_195 : decode cX6_moveBodies 195 = .ok (.iload 7, 2) := by decide +kernel
theorem dX6_moveBodies_197 : decode cX6_moveBodies 197 = .ok (.invokevirtual 197, 3) := by decide +kernel
theorem dX6_moveBodies_200 : decode cX6_moveBodies 200 = .ok (.istore 8, 2) := by decide +kernel
theorem dX6_moveBodies_202 : decode cX6_moveBodies 202 = .ok (.goto 3, 3) := by decide +kernel
theorem dX6_moveBodies_205 : decode cX6_moveBodies 205 = .ok (.aload_n 2, 1) := by decide +kernel
theorem dX6_moveBodies_206 : decode cX6_moveBodies 206 = .ok (.iload_n 1, 1) := by decide +kernel
theorem dX6_moveBodies_207 : decode cX6_moveBodies 207 = .ok (.iload 5, 2) := by decide +kernel
theorem dX6_moveBodies_209 : decode cX6_moveBodies 209 = .ok (.iload 8, 2) := by decide +kernel
theorem dX6_moveBodies_211 : decode cX6_moveBodies 211 = .ok (.invokevirtual 200, 3) := by decide +kernel
theorem dX6_moveBodies_214 : decode cX6_moveBodies 214 = .ok (.iinc 4 1, 3) := by decide +kernel
theorem dX6_moveBodies_217 : decode cX6_moveBodies 217 = .ok (.goto (-206), 3) := by decide +kernel
theorem dX6_moveBodies_220 : decode cX6_moveBodies 220 = .ok (.return_, 1) := by decide +kernel
theorem dX6_shoot_0 : decode cX6_shoot 0 = .ok (.aload_n 0, 1) := by decide +kernel
theorem dX6_shoot_1 : decode cX6_shoot 1 = .ok (.getfield 24, 3) := by decide +kernel
theorem dX6_shoot_4 : decode cX6_shoot 4 = .ok (.iload_n 1, 1) := by decide +kernel
theorem dX6_shoot_5 : decode cX6_shoot 5 = .ok (.iaload, 1) := by decide +kernel
theorem dX6_shoot_6 : decode cX6_shoot 6 = .ok (.ifCond .eq 5, 3) := by decide +kernel
theorem dX6_shoot_9 : decode cX6_shoot 9 = .ok (.iconst 0, 1) := by decide +kernel
theorem dX6_shoot_10 : decode cX6_shoot 10 = .ok (.ireturn, 1) := by decide +kernel
theorem dX6_shoot_11 : decode cX6_shoot 11 = .ok (.aload_n 0, 1) := by decide +kernel
theorem dX6_shoot_12 : decode cX6_shoot 12 = .ok (.getfield 21, 3) := by decide +kernel
theorem dX6_shoot_15 : decode cX6_shoot 15 = .ok (.iload_n 1, 1) := by decide +kernel
theorem dX6_shoot_16 : decode cX6_shoot 16 = .ok (.iload_n 2, 1) := by decide +kernel
theorem dX6_shoot_17 : decode cX6_shoot 17 = .ok (.iastore, 1) := by decide +kernel
theorem dX6_shoot_18 : decode cX6_shoot 18 = .ok (.aload_n 0, 1) := by decide +kernel
theorem dX6_shoot_19 : decode cX6_shoot 19 = .ok (.getfield 24, 3) := by decide +kernel
theorem dX6_shoot_22 : decode cX6_shoot 22 = .ok (.iload_n 1, 1) := by decide +kernel
theorem dX6_shoot_23 : decode cX6_shoot 23 = .ok (.iconst 3, 1) := by decide +kernel
theorem dX6_shoot_24 : decode cX6_shoot 24 = .ok (.iastore, 1) := by decide +kernel
theorem dX6_shoot_25 : decode cX6_shoot 25 = .ok (.aload_n 0, 1) := by decide +kernel
theorem dX6_shoot_26 : decode cX6_shoot 26 = .ok (.getfield 39, 3) := by decide +kernel
theorem dX6_shoot_29 : decode cX6_shoot 29 = .ok (.aload_n 0, 1) := by decide +kernel
theorem dX6_shoot_30 : decode cX6_shoot 30 = .ok (.getfield 9, 3) := by decide +kernel
theorem dX6_shoot_33 : decode cX6_shoot 33 = .ok (.iload_n 1, 1) := by decide +kernel
theorem dX6_shoot_34 : decode cX6_shoot 34 = .ok (.iaload, 1) := by decide +kernel
theorem dX6_shoot_35 : decode cX6_shoot 35 = .ok (.iload_n 2, 1) := by decide +kernel
theorem dX6_shoot_36 : decode cX6_shoot 36 = .ok (.invokevirtual 146, 3) := by decide +kernel
theorem dX6_shoot_39 : decode cX6_shoot 39 = .ok (.istore_n 3, 1) := by decide +kernel
theorem dX6_shoot_40 : decode cX6_shoot 40 = .ok (.iconst 0, 1) := by decide +kernel
theorem dX6_shoot_41 : decode cX6_shoot 41 = .ok (.istore 4, 2) := by decide +kernel
theorem dX6_shoot_43 : decode cX6_shoot 43 = .ok (.iload 4, 2) := by decide +kernel
theorem dX6_shoot_45 : decode cX6_shoot 45 = .ok (.bipush 7, 2) := by decide +kernel
theorem dX6_shoot_47 : decode cX6_shoot 47 = .ok (.if_icmp .ge 55, 3) := by decide +kernel
theorem dX6_shoot_50 : decode cX6_shoot 50 = .ok (.iload_n 3, 1) := by decide +kernel
theorem dX6_shoot_51 : decode cX6_shoot 51 = .ok (.ifCond .lt 51, 3) := by decide +kernel
theorem dX6_shoot_54 : decode cX6_shoot 54 = .ok (.aload_n 0, 1) := by decide +kernel
theorem dX6_shoot_55 : decode cX6_shoot 55 = .ok (.iload_n 3, 1) := by decide +kernel
theorem dX6_shoot_56 : decode cX6_shoot 56 = .ok (.invokevirtual 84, 3) := by decide +kernel
theorem dX6_shoot_59 : decode cX6_shoot 59 = .ok (.ifCond .ne 43, 3) := by decide +kernel
theorem dX6_shoot_62 : decode cX6_shoot 62 = .ok (.aload_n 0, 1) := by decide +kernel
theorem dX6_shoot_63 : decode cX6_shoot 63 = .ok (.iload_n 3, 1) := by decide +kernel
theorem dX6_shoot_64 : decode cX6_shoot 64 = .ok (.invokevirtual 88, 3) := by decide +kernel
theorem dX6_shoot_67 : decode cX6_shoot 67 = .ok (.istore 5, 2) := by decide +kernel
theorem dX6_shoot_69 : decode cX6_shoot 69 = .ok (.iload 5, 2) := by decide +kernel
theorem dX6_shoot_71 : decode cX6_shoot 71 = .ok (.ifCond .lt 15, 3) := by decide +kernel
theorem dX6_shoot_74 : decode cX6_shoot 74 = .ok (.aload_n 0, 1) := by decide +kernel
theorem dX6_shoot_75 : decode cX6_shoot 75 = .ok (.iload 5, 2) := by decide +kernel
theorem dX6_shoot_77 : decode cX6_shoot 77 = .ok (.iconst 1, 1) := by decide +kernel
theorem dX6_shoot_78 : decode cX6_shoot 78 = .ok (.invokevirtual 203, 3) := by decide +kernel
theorem dX6_shoot_81 : decode cX6_shoot 81 = .ok (.iload 5, 2) := by decide +kernel
theorem dX6_shoot_83 : decode cX6_shoot 83 = .ok (.iconst 1, 1) := by decide +kernel
theorem dX6_shoot_84 : decode cX6_shoot 84 = .ok (.iadd, 1) := by decide +kernel
theorem dX6_shoot_85 : decode cX6_shoot 85 = .ok (.ireturn, 1) := by decide +kernel
theorem dX6_shoot_86 : decode cX6_shoot 86 = .ok (.aload_n 0, 1) := by decide +kernel
theorem dX6_shoot_87 : decode cX6_shoot 87 = .ok (.getfield 39, 3) := by decide +kernel
theorem dX6_shoot_90 : decode cX6_shoot 90 = .ok (.iload_n 3, 1) := by decide +kernel
theorem dX6_shoot_91 : decode cX6_shoot 91 = .ok (.iload_n 2, 1) := by decide +kernel
theorem dX6_shoot_92 : decode cX6_shoot 92 = .ok (.invokevirtual 146, 3) := by decide +kernel
theorem dX6_shoot_95 : decode cX6_shoot 95 = .ok (.istore_n 3, 1) := by decide +kernel
theorem dX6_shoot_96 : decode cX6_shoot 96 = .ok (.iinc 4 1, 3) := by decide +kernel
theorem dX6_shoot_99 : decode cX6_shoot 99 = .ok (.goto (-56), 3) := by decide +kernel
theorem dX6_shoot_102 : decode cX6_shoot 102 = .ok (.iconst 0, 1) := by decide +kernel
theorem dX6_shoot_103 : decode cX6_shoot 103 = .ok (.ireturn, 1) := by decide +kernel
theorem dX6_hurl_0 : decode cX6_hurl 0 = .ok (.aload_n 0, 1) := by decide +kernel
theorem dX6_hurl_1 : decode cX6_hurl 1 = .ok (.iload_n 1, 1) := by decide +kernel
theorem dX6_hurl_2 : decode cX6_hurl 2 = .ok (.iconst 5, 1) := by decide +kernel
theorem dX6_hurl_3 : decode cX6_hurl 3 = .ok (.invokevirtual 112, 3) := by decide +kernel
theorem dX6_hurl_6 : decode cX6_hurl 6 = .ok (.ifCond .ne 5, 3) := by decide +kernel
theorem dX6_hurl_9 : decode cX6_hurl 9 = .ok (.iconst 0, 1) := by decide +kernel
theorem dX6_hurl_10 : decode cX6_hurl 10 = .ok (.ireturn, 1) := by decide +kernel
theorem dX6_hurl_11 : decode cX6_hurl 11 = .ok (.aload_n 0, 1) := by decide +kernel
theorem dX6_hurl_12 : decode cX6_hurl 12 = .ok (.getfield 21, 3) := by decide +kernel
theorem dX6_hurl_15 : decode cX6_hurl 15 = .ok (.iload_n 1, 1) := by decide +kernel
theorem dX6_hurl_16 : decode cX6_hurl 16 = .ok (.iload_n 2, 1) := by decide +kernel
theorem dX6_hurl_17 : decode cX6_hurl 17 = .ok (.iastore, 1) := by decide +kernel
theorem dX6_hurl_18 : decode cX6_hurl 18 = .ok (.aload_n 0, 1) := by decide +kernel
theorem dX6_hurl_19 : decode cX6_hurl 19 = .ok (.getfield 9, 3) := by decide +kernel
theorem dX6_hurl_22 : decode cX6_hurl 22 = .ok (.iload_n 1, 1) := by decide +kernel
theorem dX6_hurl_23 : decode cX6_hurl 23 = .ok (.iaload, 1) := by decide +kernel
theorem dX6_hurl_24 : decode cX6_hurl 24 = .ok (.istore_n 3, 1) := by decide +kernel
theorem dX6_hurl_25 : decode cX6_hurl 25 = .ok (.iconst (-1), 1) := by decide +kernel
theorem dX6_hurl_26 : decode cX6_hurl 26 = .ok (.istore 4, 2) := by decide +kernel
theorem dX6_hurl_28 : decode cX6_hurl 28 = .ok (.aload_n 0, 1) := by decide +kernel
theorem dX6_hurl_29 : decode cX6_hurl 29 = .ok (.getfield 39, 3) := by decide +kernel
theorem dX6_hurl_32 : decode cX6_hurl 32 = .ok (.iload_n 3, 1) := by decide +kernel
theorem dX6_hurl_33 : decode cX6_hurl 33 = .ok (.iload_n 2, 1) := by decide +kernel
theorem dX6_hurl_34 : decode cX6_hurl 34 = .ok (.invokevirtual 146, 3) := by decide +kernel
theorem dX6_hurl_37 : decode cX6_hurl 37 = .ok (.istore 5, 2) := by decide +kernel
theorem dX6_hurl_39 : decode cX6_hurl 39 = .ok (.iconst 0, 1) := by decide +kernel
theorem dX6_hurl_40 : decode cX6_hurl 40 = .ok (.istore 6, 2) := by decide +kernel
theorem dX6_hurl_42 : decode cX6_hurl 42 = .ok (.iload 6, 2) := by decide +kernel
theorem dX6_hurl_44 : decode cX6_hurl 44 = .ok (.iconst 4, 1) := by decide +kernel
theorem dX6_hurl_45 : decode cX6_hurl 45 = .ok (.if_icmp .ge 51, 3) := by decide +kernel
theorem dX6_hurl_48 : decode cX6_hurl 48 = .ok (.iload 4, 2) := by decide +kernel
theorem dX6_hurl_50 : decode cX6_hurl 50 = .ok (.ifCond .ge 46, 3) := by decide +kernel
theorem dX6_hurl_53 : decode cX6_hurl 53 = .ok (.iload 5, 2) := by decide +kernel
theorem dX6_hurl_55 : decode cX6_hurl 55 = .ok (.ifCond .lt 41, 3) := by decide +kernel
theorem dX6_hurl_58 : decode cX6_hurl 58 = .ok (.aload_n 0, 1) := by decide +kernel
theorem dX6_hurl_59 : decode cX6_hurl 59 = .ok (.iload 5, 2) := by decide +kernel
theorem dX6_hurl_61 : decode cX6_hurl 61 = .ok (.invokevirtual 84, 3) := by decide +kernel
theorem dX6_hurl_64 : decode cX6_hurl 64 = .ok (.ifCond .ne 32, 3) := by decide +kernel
theorem dX6_hurl_67 : decode cX6_hurl 67 = .ok (.iload 5, 2) := by decide +kernel
theorem dX6_hurl_69 : decode cX6_hurl 69 = .ok (.istore_n 3, 1) := by decide +kernel
theorem dX6_hurl_70 : decode cX6_hurl 70 = .ok (.aload_n 0, 1) := by decide +kernel
theorem dX6_hurl_71 : decode cX6_hurl 71 = .ok (.iload 5, 2) := by decide +kernel
theorem dX6_hurl_73 : decode cX6_hurl 73 = .ok (.invokevirtual 88, 3) := by decide +kernel
theorem dX6_hurl_76 : decode cX6_hurl 76 = .ok (.istore 4, 2) := by decide +kernel
theorem dX6_hurl_78 : decode cX6_hurl 78 = .ok (.aload_n 0, 1) := by decide +kernel
theorem dX6_hurl_79 : decode cX6_hurl 79 = .ok (.getfield 39, 3) := by decide +kernel
theorem dX6_hurl_82 : decode cX6_hurl 82 = .ok (.iload 5, 2) := by decide +kernel
theorem dX6_hurl_84 : decode cX6_hurl 84 = .ok (.iload_n 2, 1) := by decide +kernel
theorem dX6_hurl_85 : decode cX6_hurl 85 = .ok (.invokevirtual 146, 3) := by decide +kernel
theorem dX6_hurl_88 : decode cX6_hurl 88 = .ok (.istore 5, 2) := by decide +kernel
theorem dX6_hurl_90 : decode cX6_hurl 90 = .ok (.iinc 6 1, 3) := by decide +kernel
theorem dX6_hurl_93 : decode cX6_hurl 93 = .ok (.goto (-51), 3) := by decide +kernel
theorem dX6_hurl_96 : decode cX6_hurl 96 = .ok (.aload_n 0, 1) := by decide +kernel
theorem dX6_hurl_97 : decode cX6_hurl 97 = .ok (.iload_n 1, 1) := by decide +kernel
theorem dX6_hurl_98 : decode cX6_hurl 98 = .ok (.iload_n 3, 1) := by decide +kernel
theorem dX6_hurl_99 : decode cX6_hurl 99 = .ok (.invokevirtual 194, 3) := by decide +kernel
theorem dX6_hurl_102 : decode cX6_hurl 102 = .ok (.iload 4, 2) := by decide +kernel
theorem dX6_hurl_104 : decode cX6_hurl 104 = .ok (.ifCond .lt 10, 3) := by decide +kernel
theorem dX6_hurl_107 : decode cX6_hurl 107 = .ok (.aload_n 0, 1) := by decide +kernel
theorem dX6_hurl_108 : decode cX6_hurl 108 = .ok (.iload 4, 2) := by decide +kernel
theorem dX6_hurl_110 : decode cX6_hurl 110 = .ok (.iconst 1, 1) := by decide +kernel
theorem dX6_hurl_111 : decode cX6_hurl 111 = .ok (.invokevirtual 203, 3) := by decide +kernel
theorem dX6_hurl_114 : decode cX6_hurl 114 = .ok (.iload 4, 2) := by decide +kernel
theorem dX6_hurl_116 : decode cX6_hurl 116 = .ok (.iconst 1, 1) := by decide +kernel
theorem dX6_hurl_117 : decode cX6_hurl 117 = .ok (.iadd, 1) := by decide +kernel
theorem dX6_hurl_118 : decode cX6_hurl 118 = .ok (.ireturn, 1) := by decide +kernel
theorem dX6_tryWord_0 : decode cX6_tryWord 0 = .ok (.aload_n 0, 1) := by decide +kernel
theorem dX6_tryWord_1 : decode cX6_tryWord 1 = .ok (.getfield 21, 3) := by decide +kernel
theorem dX6_tryWord_4 : decode cX6_tryWord 4 = .ok (.iload_n 1, 1) := by decide +kernel
theorem dX6_tryWord_5 : decode cX6_tryWord 5 = .ok (.iload_n 2, 1) := by decide +kernel
theorem dX6_tryWord_6 : decode cX6_tryWord 6 = .ok (.iastore, 1) := by decide +kernel
theorem dX6_tryWord_7 : decode cX6_tryWord 7 = .ok (.aload_n 0, 1) := by decide +kernel
theorem dX6_tryWord_8 : decode cX6_tryWord 8 = .ok (.iload_n 1, 1) := by decide +kernel
theorem dX6_tryWord_9 : decode cX6_tryWord 9 = .ok (.iload_n 2, 1) := by decide +kernel
theorem dX6_tryWord_10 : decode cX6_tryWord 10 = .ok (.iload_n 3, 1) := by decide +kernel
theorem dX6_tryWord_11 : decode cX6_tryWord 11 = .ok (.invokevirtual 206, 3) := by decide +kernel
theorem dX6_tryWord_14 : decode cX6_tryWord 14 = .ok (.ifCond .eq 31, 3) := by decide +kernel
theorem dX6_tryWord_17 : decode cX6_tryWord 17 = .ok (.aload_n 0, 1) := by decide +kernel
theorem dX6_tryWord_18 : decode cX6_tryWord 18 = .ok (.getfield 36, 3) := by decide +kernel
theorem dX6_tryWord_21 : decode cX6_tryWord 21 = .ok (.aload_n 0, 1) := by decide +kernel
theorem dX6_tryWord_22 : decode cX6_tryWord 22 = .ok (.getfield 39, 3) := by decide +kernel
theorem dX6_tryWord_25 : decode cX6_tryWord 25 = .ok (.getfield 81, 3) := by decide +kernel
theorem dX6_tryWord_28 : decode cX6_tryWord 28 = .ok (.aload_n 0, 1) := by decide +kernel
theorem dX6_tryWord_29 : decode cX6_tryWord 29 = .ok (.getfield 39, 3) := by decide +kernel
theorem dX6_tryWord_32 : decode cX6_tryWord 32 = .ok (.aload_n 0, 1) := by decide +kernel
theorem dX6_tryWord_33 : decode cX6_tryWord 33 = .ok (.getfield 9, 3) := by decide +kernel
theorem dX6_tryWord_36 : decode cX6_tryWord 36 = .ok (.iload_n 1, 1) := by decide +kernel
theorem dX6_tryWord_37 : decode cX6_tryWord 37 = .ok (.iaload, 1) := by decide +kernel
theorem dX6_tryWord_38 : decode cX6_tryWord 38 = .ok (.iload_n 2, 1) := by decide +kernel
theorem dX6_tryWord_39 : decode cX6_tryWord 39 = .ok (.invokevirtual 146, 3) := by decide +kernel
theorem dX6_tryWord_42 : decode cX6_tryWord 42 = .ok (.iaload, 1) := by decide +kernel
theorem dX6_tryWord_43 : decode cX6_tryWord 43 = .ok (.iconst 1, 1) := by decide +kernel
theorem dX6_tryWord_44 : decode cX6_tryWord 44 = .ok (.iastore, 1) := by decide +kernel
theorem dX6_tryWord_45 : decode cX6_tryWord 45 = .ok (.return_, 1) := by decide +kernel
theorem dX6_pickUp_0 : decode cX6_pickUp 0 = .ok (.iconst 0, 1) := by decide +kernel
theorem dX6_pickUp_1 : decode cX6_pickUp 1 = .ok (.istore_n 2, 1) := by decide +kernel
theorem dX6_pickUp_2 : decode cX6_pickUp 2 = .ok (.iload_n 2, 1) := by decide +kernel
theorem dX6_pickUp_3 : decode cX6_pickUp 3 = .ok (.aload_n 0, 1) := by decide +kernel
theorem dX6_pickUp_4 : decode cX6_pickUp 4 = .ok (.getfield 39, 3) := by decide +kernel
theorem dX6_pickUp_7 : decode cX6_pickUp 7 = .ok (.getfield 75, 3) := by decide +kernel
theorem dX6_pickUp_10 : decode cX6_pickUp 10 = .ok (.if_icmp .ge 68, 3) := by decide +kernel
theorem dX6_pickUp_13 : decode cX6_pickUp 13 = .ok (.aload_n 0, 1) := by decide +kernel
theorem dX6_pickUp_14 : decode cX6_pickUp 14 = .ok (.getfield 27, 3) := by decide +kernel
theorem dX6_pickUp_17 : decode cX6_pickUp 17 = .ok (.iload_n 1, 1) := by decide +kernel
theorem dX6_pickUp_18 : decode cX6_pickUp 18 = .ok (.iaload, 1) := by decide +kernel
theorem dX6_pickUp_19 : decode cX6_pickUp 19 = .ok (.ifCond .ge 59, 3) := by decide +kernel
theorem dX6_pickUp_22 : decode cX6_pickUp 22 = .ok (.aload_n 0, 1) := by decide +kernel
theorem dX6_pickUp_23 : decode cX6_pickUp 23 = .ok (.getfield 39, 3) := by decide +kernel
theorem dX6_pickUp_26 : decode cX6_pickUp 26 = .ok (.getfield 72, 3) := by decide +kernel
theorem dX6_pickUp_29 : decode cX6_pickUp 29 = .ok (.iload_n 2, 1) := by decide +kernel
theorem dX6_pickUp_30 : decode cX6_pickUp 30 = .ok (.iaload, 1) := by decide +kernel
theorem dX6_pickUp_31 : decode cX6_pickUp 31 = .ok (.iconst 5, 1) := by decide +kernel
theorem dX6_pickUp_32 : decode cX6_pickUp 32 = .ok (.if_icmp .lt 40, 3) := by decide +kernel
theorem dX6_pickUp_35 : decode cX6_pickUp 35 = .ok (.aload_n 0, 1) := by decide +kernel
theorem dX6_pickUp_36 : decode cX6_pickUp 36 = .ok (.getfield 9, 3) := by decide +kernel
theorem dX6_pickUp_39 : decode cX6_pickUp 39 = .ok (.iload_n 2, 1) := by decide +kernel
theorem dX6_pickUp_40 : decode cX6_pickUp 40 = .ok (.iaload, 1) := by decide +kernel
theorem dX6_pickUp_41 : decode cX6_pickUp 41 = .ok (.aload_n 0, 1) := by decide +kernel
theorem dX6_pickUp_42 : decode cX6_pickUp 42 = .ok (.getfield 9, 3) := by decide +kernel
theorem dX6_pickUp_45 : decode cX6_pickUp 45 = .ok (.iload_n 1, 1) := by decide +kernel
theorem dX6_pickUp_46 : decode cX6_pickUp 46 = .ok (.iaload, 1) := by decide +kernel
theorem dX6_pickUp_47 : decode cX6_pickUp 47 = .ok (.if_icmp .ne 25, 3) := by decide +kernel
theorem dX6_pickUp_50 : decode cX6_pickUp 50 = .ok (.aload_n 0, 1) := by decide +kernel
theorem dX6_pickUp_51 : decode cX6_pickUp 51 = .ok (.getfield 27, 3) := by decide +kernel
theorem dX6_pickUp_54 : decode cX6_pickUp 54 = .ok (.iload_n 1, 1) := by decide +kernel
theorem dX6_pickUp_55 : decode cX6_pickUp 55 = .ok (.iload_n 2, 1) := by decide +kernel
theorem dX6_pickUp_56 : decode cX6_pickUp 56 = .ok (.iastore, 1) := by decide +kernel
theorem dX6_pickUp_57 : decode cX6_pickUp 57 = .ok (.aload_n 0, 1) := by decide +kernel
theorem dX6_pickUp_58 : decode cX6_pickUp 58 = .ok (.getfield 18, 3) := by decide +kernel
theorem dX6_pickUp_61 : decode cX6_pickUp 61 = .ok (.iload_n 2, 1) := by decide +kernel
theorem dX6_pickUp_62 : decode cX6_pickUp 62 = .ok (.iload_n 1, 1) := by decide +kernel
theorem dX6_pickUp_63 : decode cX6_pickUp 63 = .ok (.iastore, 1) := by decide +kernel
theorem dX6_pickUp_64 : decode cX6_pickUp 64 = .ok (.aload_n 0, 1) := by decide +kernel
theorem dX6_pickUp_65 : decode cX6_pickUp 65 = .ok (.getfield 9, 3) := by decide +kernel
theorem dX6_pickUp_68 : decode cX6_pickUp 68 = .ok (.iload_n 2, 1) := by decide +kernel
theorem dX6_pickUp_69 : decode cX6_pickUp 69 = .ok (.bipush (-2), 2) := by decide +kernel
theorem dX6_pickUp_71 : decode cX6_pickUp 71 = .ok (.iastore, 1) := by decide +kernel
theorem dX6_pickUp_72 : decode cX6_pickUp 72 = .ok (.iinc 2 1, 3) := by decide +kernel
theorem dX6_pickUp_75 : decode cX6_pickUp 75 = .ok (.goto (-73), 3) := by decide +kernel
theorem dX6_pickUp_78 : decode cX6_pickUp 78 = .ok (.return_, 1) := by decide +kernel
theorem dX6_letGo_0 : decode cX6_letGo 0 = .ok (.aload_n 0, 1) := by decide +kernel
theorem dX6_letGo_1 : decode cX6_letGo 1 = .ok (.getfield 27, 3) := by decide +kernel
theorem dX6_letGo_4 : decode cX6_letGo 4 = .ok (.iload_n 1, 1) := by decide +kernel
theorem dX6_letGo_5 : decode cX6_letGo 5 = .ok (.iaload, 1) := by decide +kernel
theorem dX6_letGo_6 : decode cX6_letGo 6 = .ok (.istore_n 3, 1) := by decide +kernel
theorem dX6_letGo_7 : decode cX6_letGo 7 = .ok (.iload_n 3, 1) := by decide +kernel
theorem dX6_letGo_8 : decode cX6_letGo 8 = .ok (.ifCond .lt 24, 3) := by decide +kernel
theorem dX6_letGo_11 : decode cX6_letGo 11 = .ok (.aload_n 0, 1) := by decide +kernel
theorem dX6_letGo_12 : decode cX6_letGo 12 = .ok (.getfield 27, 3) := by decide +kernel
theorem dX6_letGo_15 : decode cX6_letGo 15 = .ok (.iload_n 1, 1) := by decide +kernel
theorem dX6_letGo_16 : decode cX6_letGo 16 = .ok (.iconst (-1), 1) := by decide +kernel
theorem dX6_letGo_17 : decode cX6_letGo 17 = .ok (.iastore, 1) := by decide +kernel
theorem dX6_letGo_18 : decode cX6_letGo 18 = .ok (.aload_n 0, 1) := by decide +kernel
