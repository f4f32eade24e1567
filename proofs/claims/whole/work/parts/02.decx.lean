theorem dX0_init_0 : decode cX0_init 0 = .ok (.aload_n 0, 1) := by decide +kernel
theorem dX0_init_1 : decode cX0_init 1 = .ok (.invokespecial 3, 3) := by decide +kernel
theorem dX0_init_4 : decode cX0_init 4 = .ok (.aload_n 0, 1) := by decide +kernel
theorem dX0_init_5 : decode cX0_init 5 = .ok (.bipush 10, 2) := by decide +kernel
theorem dX0_init_7 : decode cX0_init 7 = .ok (.newarray .int, 2) := by decide +kernel
theorem dX0_init_9 : decode cX0_init 9 = .ok (.putfield 9, 3) := by decide +kernel
theorem dX0_init_12 : decode cX0_init 12 = .ok (.aload_n 0, 1) := by decide +kernel
theorem dX0_init_13 : decode cX0_init 13 = .ok (.bipush 10, 2) := by decide +kernel
theorem dX0_init_15 : decode cX0_init 15 = .ok (.newarray .int, 2) := by decide +kernel
theorem dX0_init_17 : decode cX0_init 17 = .ok (.putfield 13, 3) := by decide +kernel
theorem dX0_init_20 : decode cX0_init 20 = .ok (.aload_n 0, 1) := by decide +kernel
theorem dX0_init_21 : decode cX0_init 21 = .ok (.sipush 1000, 3) := by decide +kernel
theorem dX0_init_24 : decode cX0_init 24 = .ok (.newarray .boolean, 2) := by decide +kernel
theorem dX0_init_26 : decode cX0_init 26 = .ok (.putfield 16, 3) := by decide +kernel
theorem dX0_init_29 : decode cX0_init 29 = .ok (.aload_n 0, 1) := by decide +kernel
theorem dX0_init_30 : decode cX0_init 30 = .ok (.bipush 20, 2) := by decide +kernel
theorem dX0_init_32 : decode cX0_init 32 = .ok (.newarray .long, 2) := by decide +kernel
theorem dX0_init_34 : decode cX0_init 34 = .ok (.putfield 20, 3) := by decide +kernel
theorem dX0_init_37 : decode cX0_init 37 = .ok (.aload_n 0, 1) := by decide +kernel
theorem dX0_init_38 : decode cX0_init 38 = .ok (.bipush 20, 2) := by decide +kernel
theorem dX0_init_40 : decode cX0_init 40 = .ok (.newarray .int, 2) := by decide +kernel
theorem dX0_init_42 : decode cX0_init 42 = .ok (.putfield 24, 3) := by decide +kernel
theorem dX0_init_45 : decode cX0_init 45 = .ok (.aload_n 0, 1) := by decide +kernel
theorem dX0_init_46 : decode cX0_init 46 = .ok (.iconst 0, 1) := by decide +kernel
theorem dX0_init_47 : decode cX0_init 47 = .ok (.putfield 27, 3) := by decide +kernel
theorem dX0_init_50 : decode cX0_init 50 = .ok (.aload_n 0, 1) := by decide +kernel
theorem dX0_init_51 : decode cX0_init 51 = .ok (.lconst 0, 1) := by decide +kernel
theorem dX0_init_52 : decode cX0_init 52 = .ok (.putfield 31, 3) := by decide +kernel
theorem dX0_init_55 : decode cX0_init 55 = .ok (.aload_n 0, 1) := by decide +kernel
theorem dX0_init_56 : decode cX0_init 56 = .ok (.lconst 0, 1) := by decide +kernel
theorem dX0_init_57 : decode cX0_init 57 = .ok (.putfield 35, 3) := by decide +kernel
theorem dX0_init_60 : decode cX0_init 60 = .ok (.aload_n 0, 1) := by decide +kernel
theorem dX0_init_61 : decode cX0_init 61 = .ok (.lconst 0, 1) := by decide +kernel
theorem dX0_init_62 : decode cX0_init 62 = .ok (.putfield 38, 3) := by decide +kernel
theorem dX0_init_65 : decode cX0_init 65 = .ok (.aload_n 0, 1) := by decide +kernel
theorem dX0_init_66 : decode cX0_init 66 = .ok (.lconst 0, 1) := by decide +kernel
theorem dX0_init_67 : decode cX0_init 67 = .ok (.putfield 41, 3) := by decide +kernel
theorem dX0_init_70 : decode cX0_init 70 = .ok (.aload_n 0, 1) := by decide +kernel
theorem dX0_init_71 : decode cX0_init 71 = .ok (.iconst 0, 1) := by decide +kernel
theorem dX0_init_72 : decode cX0_init 72 = .ok (.putfield 44, 3) := by decide +kernel
theorem dX0_init_75 : decode cX0_init 75 = .ok (.aload_n 0, 1) := by decide +kernel
theorem dX0_init_76 : decode cX0_init 76 = .ok (.iconst 0, 1) := by decide +kernel
theorem dX0_init_77 : decode cX0_init 77 = .ok (.putfield 47, 3) := by decide +kernel
theorem dX0_init_80 : decode cX0_init 80 = .ok (.aload_n 0, 1) := by decide +kernel
theorem dX0_init_81 : decode cX0_init 81 = .ok (.iconst 0, 1) := by decide +kernel
theorem dX0_init_82 : decode cX0_init 82 = .ok (.putfield 50, 3) := by decide +kernel
theorem dX0_init_85 : decode cX0_init 85 = .ok (.aload_n 0, 1) := by decide +kernel
theorem dX0_init_86 : decode cX0_init 86 = .ok (.ldc2_w 53, 3) := by decide +kernel
theorem dX0_init_89 : decode cX0_init 89 = .ok (.putfield 55, 3) := by decide +kernel
theorem dX0_init_92 : decode cX0_init 92 = .ok (.return_, 1) := by decide +kernel
theorem dX0_collect_0 : decode cX0_collect 0 = .ok (.aload_n 0, 1) := by decide +kernel
theorem dX0_collect_1 : decode cX0_collect 1 = .ok (.getfield 27, 3) := by decide +kernel
theorem dX0_collect_4 : decode cX0_collect 4 = .ok (.bipush 40, 2) := by decide +kernel
theorem dX0_collect_6 : decode cX0_collect 6 = .ok (.if_icmp .lt 6, 3) := by decide +kernel
theorem dX0_collect_9 : decode cX0_collect 9 = .ok (.bipush (-14), 2) := by decide +kernel
theorem dX0_collect_11 : decode cX0_collect 11 = .ok (.ireturn, 1) := by decide +kernel
theorem dX0_collect_12 : decode cX0_collect 12 = .ok (.aload_n 0, 1) := by decide +kernel
theorem dX0_collect_13 : decode cX0_collect 13 = .ok (.ldc2_w 58, 3) := by decide +kernel
theorem dX0_collect_16 : decode cX0_collect 16 = .ok (.aload_n 0, 1) := by decide +kernel
theorem dX0_collect_17 : decode cX0_collect 17 = .ok (.getfield 31, 3) := by decide +kernel
theorem dX0_collect_20 : decode cX0_collect 20 = .ok (.lmul, 1) := by decide +kernel
theorem dX0_collect_21 : decode cX0_collect 21 = .ok (.lload_n 1, 1) := by decide +kernel
theorem dX0_collect_22 : decode cX0_collect 22 = .ok (.ladd, 1) := by decide +kernel
theorem dX0_collect_23 : decode cX0_collect 23 = .ok (.putfield 31, 3) := by decide +kernel
theorem dX0_collect_26 : decode cX0_collect 26 = .ok (.aload_n 0, 1) := by decide +kernel
theorem dX0_collect_27 : decode cX0_collect 27 = .ok (.dup, 1) := by decide +kernel
theorem dX0_collect_28 : decode cX0_collect 28 = .ok (.getfield 27, 3) := by decide +kernel
theorem dX0_collect_31 : decode cX0_collect 31 = .ok (.iconst 1, 1) := by decide +kernel
theorem dX0_collect_32 : decode cX0_collect 32 = .ok (.iadd, 1) := by decide +kernel
theorem dX0_collect_33 : decode cX0_collect 33 = .ok (.putfield 27, 3) := by decide +kernel
theorem dX0_collect_36 : decode cX0_collect 36 = .ok (.aload_n 0, 1) := by decide +kernel
theorem dX0_collect_37 : decode cX0_collect 37 = .ok (.getfield 27, 3) := by decide +kernel
theorem dX0_collect_40 : decode cX0_collect 40 = .ok (.ireturn, 1) := by decide +kernel
theorem dX0_answer_0 : decode cX0_answer 0 = .ok (.iload_n 1, 1) := by decide +kernel
theorem dX0_answer_1 : decode cX0_answer 1 = .ok (.invokestatic 60, 3) := by decide +kernel
theorem dX0_answer_4 : decode cX0_answer 4 = .ok (.ifCond .ne 5, 3) := by decide +kernel
theorem dX0_answer_7 : decode cX0_answer 7 = .ok (.iconst (-1), 1) := by decide +kernel
theorem dX0_answer_8 : decode cX0_answer 8 = .ok (.ireturn, 1) := by decide +kernel
theorem dX0_answer_9 : decode cX0_answer 9 = .ok (.aload_n 0, 1) := by decide +kernel
theorem dX0_answer_10 : decode cX0_answer 10 = .ok (.getfield 20, 3) := by decide +kernel
theorem dX0_answer_13 : decode cX0_answer 13 = .ok (.iload_n 1, 1) := by decide +kernel
theorem dX0_answer_14 : decode cX0_answer 14 = .ok (.lload_n 2, 1) := by decide +kernel
theorem dX0_answer_15 : decode cX0_answer 15 = .ok (.lastore, 1) := by decide +kernel
theorem dX0_answer_16 : decode cX0_answer 16 = .ok (.aload_n 0, 1) := by decide +kernel
theorem dX0_answer_17 : decode cX0_answer 17 = .ok (.getfield 24, 3) := by decide +kernel
theorem dX0_answer_20 : decode cX0_answer 20 = .ok (.iload_n 1, 1) := by decide +kernel
theorem dX0_answer_21 : decode cX0_answer 21 = .ok (.iconst 0, 1) := by decide +kernel
theorem dX0_answer_22 : decode cX0_answer 22 = .ok (.iastore, 1) := by decide +kernel
theorem dX0_answer_23 : decode cX0_answer 23 = .ok (.iconst 1, 1) := by decide +kernel
theorem dX0_answer_24 : decode cX0_answer 24 = .ok (.ireturn, 1) := by decide +kernel
theorem dX0_fails_0 : decode cX0_fails 0 = .ok (.iload_n 1, 1) := by decide +kernel
theorem dX0_fails_1 : decode cX0_fails 1 = .ok (.invokestatic 60, 3) := by decide +kernel
theorem dX0_fails_4 : decode cX0_fails 4 = .ok (.ifCond .eq 12, 3) := by decide +kernel
theorem dX0_fails_7 : decode cX0_fails 7 = .ok (.iload_n 2, 1) := by decide +kernel
theorem dX0_fails_8 : decode cX0_fails 8 = .ok (.ifCond .lt 8, 3) := by decide +kernel
theorem dX0_fails_11 : decode cX0_fails 11 = .ok (.iload_n 2, 1) := by decide +kernel
theorem dX0_fails_12 : decode cX0_fails 12 = .ok (.iconst 3, 1) := by decide +kernel
theorem dX0_fails_13 : decode cX0_fails 13 = .ok (.if_icmp .le 5, 3) := by decide +kernel
theorem dX0_fails_16 : decode cX0_fails 16 = .ok (.iconst (-1), 1) := by decide +kernel
theorem dX0_fails_17 : decode cX0_fails 17 = .ok (.ireturn, 1) := by decide +kernel
theorem dX0_fails_18 : decode cX0_fails 18 = .ok (.aload_n 0, 1) := by decide +kernel
theorem dX0_fails_19 : decode cX0_fails 19 = .ok (.getfield 24, 3) := by decide +kernel
theorem dX0_fails_22 : decode cX0_fails 22 = .ok (.iload_n 1, 1) := by decide +kernel
theorem dX0_fails_23 : decode cX0_fails 23 = .ok (.iload_n 2, 1) := by decide +kernel
theorem dX0_fails_24 : decode cX0_fails 24 = .ok (.iastore, 1) := by decide +kernel
theorem dX0_fails_25 : decode cX0_fails 25 = .ok (.iconst 1, 1) := by decide +kernel
theorem dX0_fails_26 : decode cX0_fails 26 = .ok (.ireturn, 1) := by decide +kernel
theorem dX0_make_0 : decode cX0_make 0 = .ok (.iload_n 1, 1) := by decide +kernel
theorem dX0_make_1 : decode cX0_make 1 = .ok (.invokestatic 64, 3) := by decide +kernel
theorem dX0_make_4 : decode cX0_make 4 = .ok (.ifCond .ne 5, 3) := by decide +kernel
theorem dX0_make_7 : decode cX0_make 7 = .ok (.iconst (-1), 1) := by decide +kernel
theorem dX0_make_8 : decode cX0_make 8 = .ok (.ireturn, 1) := by decide +kernel
theorem dX0_make_9 : decode cX0_make 9 = .ok (.aload_n 0, 1) := by decide +kernel
theorem dX0_make_10 : decode cX0_make 10 = .ok (.getfield 9, 3) := by decide +kernel
theorem dX0_make_13 : decode cX0_make 13 = .ok (.iload_n 1, 1) := by decide +kernel
theorem dX0_make_14 : decode cX0_make 14 = .ok (.iaload, 1) := by decide +kernel
theorem dX0_make_15 : decode cX0_make 15 = .ok (.bipush 99, 2) := by decide +kernel
theorem dX0_make_17 : decode cX0_make 17 = .ok (.if_icmp .lt 6, 3) := by decide +kernel
theorem dX0_make_20 : decode cX0_make 20 = .ok (.bipush (-14), 2) := by decide +kernel
theorem dX0_make_22 : decode cX0_make 22 = .ok (.ireturn, 1) := by decide +kernel
theorem dX0_make_23 : decode cX0_make 23 = .ok (.aload_n 0, 1) := by decide +kernel
theorem dX0_make_24 : decode cX0_make 24 = .ok (.getfield 9, 3) := by decide +kernel
theorem dX0_make_27 : decode cX0_make 27 = .ok (.iload_n 1, 1) := by decide +kernel
theorem dX0_make_28 : decode cX0_make 28 = .ok (.dup2, 1) := by decide +kernel
theorem dX0_make_29 : decode cX0_make 29 = .ok (.iaload, 1) := by decide +kernel
theorem dX0_make_30 : decode cX0_make 30 = .ok (.iconst 1, 1) := by decide +kernel
theorem dX0_make_31 : decode cX0_make 31 = .ok (.iadd, 1) := by decide +kernel
theorem dX0_make_32 : decode cX0_make 32 = .ok (.iastore, 1) := by decide +kernel
theorem dX0_make_33 : decode cX0_make 33 = .ok (.aload_n 0, 1) := by decide +kernel
theorem dX0_make_34 : decode cX0_make 34 = .ok (.getfield 13, 3) := by decide +kernel
theorem dX0_make_37 : decode cX0_make 37 = .ok (.iload_n 1, 1) := by decide +kernel
theorem dX0_make_38 : decode cX0_make 38 = .ok (.dup2, 1) := by decide +kernel
theorem dX0_make_39 : decode cX0_make 39 = .ok (.iaload, 1) := by decide +kernel
theorem dX0_make_40 : decode cX0_make 40 = .ok (.iconst 1, 1) := by decide +kernel
theorem dX0_make_41 : decode cX0_make 41 = .ok (.iadd, 1) := by decide +kernel
theorem dX0_make_42 : decode cX0_make 42 = .ok (.iastore, 1) := by decide +kernel
theorem dX0_make_43 : decode cX0_make 43 = .ok (.aload_n 0, 1) := by decide +kernel
theorem dX0_make_44 : decode cX0_make 44 = .ok (.getfield 16, 3) := by decide +kernel
theorem dX0_make_47 : decode cX0_make 47 = .ok (.iload_n 1, 1) := by decide +kernel
theorem dX0_make_48 : decode cX0_make 48 = .ok (.bipush 100, 2) := by decide +kernel
theorem dX0_make_50 : decode cX0_make 50 = .ok (.imul, 1) := by decide +kernel
theorem dX0_make_51 : decode cX0_make 51 = .ok (.aload_n 0, 1) := by decide +kernel
theorem dX0_make_52 : decode cX0_make 52 = .ok (.getfield 9, 3) := by decide +kernel
theorem dX0_make_55 : decode cX0_make 55 = .ok (.iload_n 1, 1) := by decide +kernel
theorem dX0_make_56 : decode cX0_make 56 = .ok (.iaload, 1) := by decide +kernel
theorem dX0_make_57 : decode cX0_make 57 = .ok (.iadd, 1) := by decide +kernel
theorem dX0_make_58 : decode cX0_make 58 = .ok (.iconst 1, 1) := by decide +kernel
theorem dX0_make_59 : decode cX0_make 59 = .ok (.bastore, 1) := by decide +kernel
theorem dX0_make_60 : decode cX0_make 60 = .ok (.iload_n 1, 1) := by decide +kernel
theorem dX0_make_61 : decode cX0_make 61 = .ok (.sipush 1000, 3) := by decide +kernel
theorem dX0_make_64 : decode cX0_make 64 = .ok (.imul, 1) := by decide +kernel
theorem dX0_make_65 : decode cX0_make 65 = .ok (.aload_n 0, 1) := by decide +kernel
theorem dX0_make_66 : decode cX0_make 66 = .ok (.getfield 9, 3) := by decide +kernel
theorem dX0_make_69 : decode cX0_make 69 = .ok (.iload_n 1, 1) := by decide +kernel
theorem dX0_make_70 : decode cX0_make 70 = .ok (.iaload, 1) := by decide +kernel
theorem dX0_make_71 : decode cX0_make 71 = .ok (.iadd, 1) := by decide +kernel
theorem dX0_make_72 : decode cX0_make 72 = .ok (.ireturn, 1) := by decide +kernel
theorem dX0_call_0 : decode cX0_call 0 = .ok (.aload_n 0, 1) := by decide +kernel
theorem dX0_call_1 : decode cX0_call 1 = .ok (.iload_n 1, 1) := by decide +kernel
theorem dX0_call_2 : decode cX0_call 2 = .ok (.iload_n 2, 1) := by decide +kernel
theorem dX0_call_3 : decode cX0_call 3 = .ok (.invokevirtual 67, 3) := by decide +kernel
theorem dX0_call_6 : decode cX0_call 6 = .ok (.lstore 5, 2) := by decide +kernel
theorem dX0_call_8 : decode cX0_call 8 = .ok (.lload 5, 2) := by decide +kernel
theorem dX0_call_10 : decode cX0_call 10 = .ok (.ldc2_w 71, 3) := by decide +kernel
theorem dX0_call_13 : decode cX0_call 13 = .ok (.lcmp, 1) := by decide +kernel
theorem dX0_call_14 : decode cX0_call 14 = .ok (.ifCond .ne 7, 3) := by decide +kernel
theorem dX0_call_17 : decode cX0_call 17 = .ok (.ldc2_w 71, 3) := by decide +kernel
theorem dX0_call_20 : decode cX0_call 20 = .ok (.lreturn, 1) := by decide +kernel
theorem dX0_call_21 : decode cX0_call 21 = .ok (.aload_n 0, 1) := by decide +kernel
theorem dX0_call_22 : decode cX0_call 22 = .ok (.lload 5, 2) := by decide +kernel
theorem dX0_call_24 : decode cX0_call 24 = .ok (.iload_n 1, 1) := by decide +kernel
theorem dX0_call_25 : decode cX0_call 25 = .ok (.lload_n 3, 1) := by decide +kernel
theorem dX0_call_26 : decode cX0_call 26 = .ok (.invokevirtual 73, 3) := by decide +kernel
theorem dX0_call_29 : decode cX0_call 29 = .ok (.lstore 7, 2) := by decide +kernel
theorem dX0_call_31 : decode cX0_call 31 = .ok (.aload_n 0, 1) := by decide +kernel
theorem dX0_call_32 : decode cX0_call 32 = .ok (.aload_n 0, 1) := by decide +kernel
theorem dX0_call_33 : decode cX0_call 33 = .ok (.lload 5, 2) := by decide +kernel
theorem dX0_call_35 : decode cX0_call 35 = .ok (.iload_n 1, 1) := by decide +kernel
theorem dX0_call_36 : decode cX0_call 36 = .ok (.iload_n 2, 1) := by decide +kernel
theorem dX0_call_37 : decode cX0_call 37 = .ok (.lload 7, 2) := by decide +kernel
theorem dX0_call_39 : decode cX0_call 39 = .ok (.invokevirtual 77, 3) := by decide +kernel
theorem dX0_call_42 : decode cX0_call 42 = .ok (.putfield 55, 3) := by decide +kernel
theorem dX0_call_45 : decode cX0_call 45 = .ok (.aload_n 0, 1) := by decide +kernel
theorem dX0_call_46 : decode cX0_call 46 = .ok (.lload 5, 2) := by decide +kernel
theorem dX0_call_48 : decode cX0_call 48 = .ok (.iload_n 1, 1) := by decide +kernel
theorem dX0_call_49 : decode cX0_call 49 = .ok (.iload_n 2, 1) := by decide +kernel
theorem dX0_call_50 : decode cX0_call 50 = .ok (.invokevirtual 81, 3) := by decide +kernel
theorem dX0_call_53 : decode cX0_call 53 = .ok (.lload 7, 2) := by decide +kernel
theorem dX0_call_55 : decode cX0_call 55 = .ok (.lreturn, 1) := by decide +kernel
theorem dX0_told_0 : decode cX0_told 0 = .ok (.iload_n 1, 1) := by decide +kernel
theorem dX0_told_1 : decode cX0_told 1 = .ok (.tableswitch 91 0 7 #[47, 52, 57, 62, 68, 74, 80, 86], 47) := by decide +kernel
theorem dX0_told_48 : decode cX0_told 48 = .ok (.aload_n 0, 1) := by decide +kernel
theorem dX0_told_49 : decode cX0_told 49 = .ok (.getfield 35, 3) := by decide +kernel
theorem dX0_told_52 : decode cX0_told 52 = .ok (.lreturn, 1) := by decide +kernel
theorem dX0_told_53 : decode cX0_told 53 = .ok (.aload_n 0, 1) := by decide +kernel
theorem dX0_told_54 : decode cX0_told 54 = .ok (.getfield 38, 3) := by decide +kernel
theorem dX0_told_57 : decode cX0_told 57 = .ok (.lreturn, 1) := by decide +kernel
theorem dX0_told_58 : decode cX0_told 58 = .ok (.aload_n 0, 1) := by decide +kernel
theorem dX0_told_59 : decode cX0_told 59 = .ok (.getfield 41, 3) := by decide +kernel
theorem dX0_told_62 : decode cX0_told 62 = .ok (.lreturn, 1) := by decide +kernel
theorem dX0_told_63 : decode cX0_told 63 = .ok (.aload_n 0, 1) := by decide +kernel
theorem dX0_told_64 : decode cX0_told 64 = .ok (.getfield 44, 3) := by decide +kernel
theorem dX0_told_67 : decode cX0_told 67 = .ok (.i2l, 1) := by decide +kernel
theorem dX0_told_68 : decode cX0_told 68 = .ok (.lreturn, 1) := by decide +kernel
theorem dX0_told_69 : decode cX0_told 69 = .ok (.aload_n 0, 1) := by decide +kernel
theorem dX0_told_70 : decode cX0_told 70 = .ok (.getfield 47, 3) := by decide +kernel
theorem dX0_told_73 : decode cX0_told 73 = .ok (.i2l, 1) := by decide +kernel
theorem dX0_told_74 : decode cX0_told 74 = .ok (.lreturn, 1) := by decide +kernel
theorem dX0_told_75 : decode cX0_told 75 = .ok (.aload_n 0, 1) := by decide +kernel
theorem dX0_told_76 : decode cX0_told 76 = .ok (.getfield 50, 3) := by decide +kernel
theorem dX0_told_79 : decode cX0_told 79 = .ok (.i2l, 1) := by decide +kernel
theorem dX0_told_80 : decode cX0_told 80 = .ok (.lreturn, 1) := by decide +kernel
theorem dX0_told_81 : decode cX0_told 81 = .ok (.aload_n 0, 1) := by decide +kernel
theorem dX0_told_82 : decode cX0_told 82 = .ok (.getfield 27, 3) := by decide +kernel
theorem dX0_told_85 : decode cX0_told 85 = .ok (.i2l, 1) := by decide +kernel
theorem dX0_told_86 : decode cX0_told 86 = .ok (.lreturn, 1) := by decide +kernel
theorem dX0_told_87 : decode cX0_told 87 = .ok (.aload_n 0, 1) := by decide +kernel
theorem dX0_told_88 : decode cX0_told 88 = .ok (.getfield 55, 3) := by decide +kernel
theorem dX0_told_91 : decode cX0_told 91 = .ok (.lreturn, 1) := by decide +kernel
theorem dX0_told_92 : decode cX0_told 92 = .ok (.lconst 0, 1) := by decide +kernel
theorem dX0_told_93 : decode cX0_told 93 = .ok (.lreturn, 1) := by decide +kernel
theorem dX0_drop_0 : decode cX0_drop 0 = .ok (.iload_n 1, 1) := by decide +kernel
theorem dX0_drop_1 : decode cX0_drop 1 = .ok (.invokestatic 85, 3) := by decide +kernel
theorem dX0_drop_4 : decode cX0_drop 4 = .ok (.istore_n 2, 1) := by decide +kernel
theorem dX0_drop_5 : decode cX0_drop 5 = .ok (.iload_n 2, 1) := by decide +kernel
theorem dX0_drop_6 : decode cX0_drop 6 = .ok (.iconst (-1), 1) := by decide +kernel
theorem dX0_drop_7 : decode cX0_drop 7 = .ok (.if_icmp .eq 12, 3) := by decide +kernel
theorem dX0_drop_10 : decode cX0_drop 10 = .ok (.aload_n 0, 1) := by decide +kernel
theorem dX0_drop_11 : decode cX0_drop 11 = .ok (.getfield 16, 3) := by decide +kernel
theorem dX0_drop_14 : decode cX0_drop 14 = .ok (.iload_n 2, 1) := by decide +kernel
theorem dX0_drop_15 : decode cX0_drop 15 = .ok (.baload, 1) := by decide +kernel
theorem dX0_drop_16 : decode cX0_drop 16 = .ok (.ifCond .ne 5, 3) := by decide +kernel
theorem dX0_drop_19 : decode cX0_drop 19 = .ok (.iconst 0, 1) := by decide +kernel
theorem dX0_drop_20 : decode cX0_drop 20 = .ok (.ireturn, 1) := by decide +kernel
theorem dX0_drop_21 : decode cX0_drop 21 = .ok (.aload_n 0, 1) := by decide +kernel
theorem dX0_drop_22 : decode cX0_drop 22 = .ok (.getfield 16, 3) := by decide +kernel
theorem dX0_drop_25 : decode cX0_drop 25 = .ok (.iload_n 2, 1) := by decide +kernel
theorem dX0_drop_26 : decode cX0_drop 26 = .ok (.iconst 0, 1) := by decide +kernel
theorem dX0_drop_27 : decode cX0_drop 27 = .ok (.bastore, 1) := by decide +kernel
theorem dX0_drop_28 : decode cX0_drop 28 = .ok (.aload_n 0, 1) := by decide +kernel
theorem dX0_drop_29 : decode cX0_drop 29 = .ok (.getfield 13, 3) := by decide +kernel
theorem dX0_drop_32 : decode cX0_drop 32 = .ok (.iload_n 1, 1) := by decide +kernel
theorem dX0_drop_33 : decode cX0_drop 33 = .ok (.sipush 1000, 3) := by decide +kernel
theorem dX0_drop_36 : decode cX0_drop 36 = .ok (.idiv, 1) := by decide +kernel
theorem dX0_drop_37 : decode cX0_drop 37 = .ok (.dup2, 1) := by decide +kernel
theorem dX0_drop_38 : decode cX0_drop 38 = .ok (.iaload, 1) := by decide +kernel
theorem dX0_drop_39 : decode cX0_drop 39 = .ok (.iconst 1, 1) := by decide +kernel
theorem dX0_drop_40 : decode cX0_drop 40 = .ok (.isub, 1) := by decide +kernel
theorem dX0_drop_41 : decode cX0_drop 41 = .ok (.iastore, 1) := by decide +kernel
theorem dX0_drop_42 : decode cX0_drop 42 = .ok (.iconst 1, 1) := by decide +kernel
theorem dX0_drop_43 : decode cX0_drop 43 = .ok (.ireturn, 1) := by decide +kernel
theorem dX0_numbers_0 : decode cX0_numbers 0 = .ok (.iload_n 1, 1) := by decide +kernel
theorem dX0_numbers_1 : decode cX0_numbers 1 = .ok (.invokestatic 64, 3) := by decide +kernel
theorem dX0_numbers_4 : decode cX0_numbers 4 = .ok (.ifCond .eq 12, 3) := by decide +kernel
theorem dX0_numbers_7 : decode cX0_numbers 7 = .ok (.aload_n 0, 1) := by decide +kernel
theorem dX0_numbers_8 : decode cX0_numbers 8 = .ok (.getfield 13, 3) := by decide +kernel
theorem dX0_numbers_11 : decode cX0_numbers 11 = .ok (.iload_n 1, 1) := by decide +kernel
theorem dX0_numbers_12 : decode cX0_numbers 12 = .ok (.iaload, 1) := by decide +kernel
theorem dX0_numbers_13 : decode cX0_numbers 13 = .ok (.goto 4, 3) := by decide +kernel
theorem dX0_numbers_16 : decode cX0_numbers 16 = .ok (.iconst (-1), 1) := by decide +kernel
theorem dX0_numbers_17 : decode cX0_numbers 17 = .ok (.ireturn, 1) := by decide +kernel
theorem dX0_isThere_0 : decode cX0_isThere 0 = .ok (.iload_n 1, 1) := by decide +kernel
theorem dX0_isThere_1 : decode cX0_isThere 1 = .ok (.invokestatic 85, 3) := by decide +kernel
theorem dX0_isThere_4 : decode cX0_isThere 4 = .ok (.istore_n 2, 1) := by decide +kernel
theorem dX0_isThere_5 : decode cX0_isThere 5 = .ok (.iload_n 2, 1) := by decide +kernel
theorem dX0_isThere_6 : decode cX0_isThere 6 = .ok (.iconst (-1), 1) := by decide +kernel
theorem dX0_isThere_7 : decode cX0_isThere 7 = .ok (.if_icmp .eq 16, 3) := by decide +kernel
theorem dX0_isThere_10 : decode cX0_isThere 10 = .ok (.aload_n 0, 1) := by decide +kernel
theorem dX0_isThere_11 : decode cX0_isThere 11 = .ok (.getfield 16, 3) := by decide +kernel
theorem dX0_isThere_14 : decode cX0_isThere 14 = .ok (.iload_n 2, 1) := by decide +kernel
theorem dX0_isThere_15 : decode cX0_isThere 15 = .ok (.baload, 1) := by decide +kernel
theorem dX0_isThere_16 : decode cX0_isThere 16 = .ok (.ifCond .eq 7, 3) := by decide +kernel
theorem dX0_isThere_19 : decode cX0_isThere 19 = .ok (.iconst 1, 1) := by decide +kernel
theorem dX0_isThere_20 : decode cX0_isThere 20 = .ok (.goto 4, 3) := by decide +kernel
theorem dX0_isThere_23 : decode cX0_isThere 23 = .ok (.iconst 0, 1) := by decide +kernel
theorem dX0_isThere_24 : decode cX0_isThere 24 = .ok (.ireturn, 1) := by decide +kernel
theorem dX0_again_0 : decode cX0_again 0 = .ok (.aload_n 0, 1) := by decide +kernel
theorem dX0_again_1 : decode cX0_again 1 = .ok (.aload_n 0, 1) := by decide +kernel
theorem dX0_again_2 : decode cX0_again 2 = .ok (.iload_n 1, 1) := by decide +kernel
theorem dX0_again_3 : decode cX0_again 3 = .ok (.iload_n 2, 1) := by decide +kernel
theorem dX0_again_4 : decode cX0_again 4 = .ok (.invokevirtual 67, 3) := by decide +kernel
theorem dX0_again_7 : decode cX0_again 7 = .ok (.iload_n 1, 1) := by decide +kernel
theorem dX0_again_8 : decode cX0_again 8 = .ok (.lload_n 3, 1) := by decide +kernel
theorem dX0_again_9 : decode cX0_again 9 = .ok (.invokevirtual 73, 3) := by decide +kernel
theorem dX0_again_12 : decode cX0_again 12 = .ok (.lreturn, 1) := by decide +kernel
theorem dX0_log_0 : decode cX0_log 0 = .ok (.aload_n 0, 1) := by decide +kernel
theorem dX0_log_1 : decode cX0_log 1 = .ok (.iload_n 1, 1) := by decide +kernel
theorem dX0_log_2 : decode cX0_log 2 = .ok (.iload_n 2, 1) := by decide +kernel
theorem dX0_log_3 : decode cX0_log 3 = .ok (.invokevirtual 67, 3) := by decide +kernel
theorem dX0_log_6 : decode cX0_log 6 = .ok (.lstore 5, 2) := by decide +kernel
theorem dX0_log_8 : decode cX0_log 8 = .ok (.aload_n 0, 1) := by decide +kernel
theorem dX0_log_9 : decode cX0_log 9 = .ok (.lload 5, 2) := by decide +kernel
theorem dX0_log_11 : decode cX0_log 11 = .ok (.iload_n 1, 1) := by decide +kernel
theorem dX0_log_12 : decode cX0_log 12 = .ok (.iload_n 2, 1) := by decide +kernel
theorem dX0_log_13 : decode cX0_log 13 = .ok (.aload_n 0, 1) := by decide +kernel
theorem dX0_log_14 : decode cX0_log 14 = .ok (.lload 5, 2) := by decide +kernel
theorem dX0_log_16 : decode cX0_log 16 = .ok (.iload_n 1, 1) := by decide +kernel
theorem dX0_log_17 : decode cX0_log 17 = .ok (.lload_n 3, 1) := by decide +kernel
theorem dX0_log_18 : decode cX0_log 18 = .ok (.invokevirtual 73, 3) := by decide +kernel
theorem dX0_log_21 : decode cX0_log 21 = .ok (.invokevirtual 77, 3) := by decide +kernel
theorem dX0_log_24 : decode cX0_log 24 = .ok (.lreturn, 1) := by decide +kernel
theorem dX0_isCall_0 : decode cX0_isCall 0 = .ok (.iload_n 0, 1) := by decide +kernel
theorem dX0_isCall_1 : decode cX0_isCall 1 = .ok (.ifCond .lt 13, 3) := by decide +kernel
theorem dX0_isCall_4 : decode cX0_isCall 4 = .ok (.iload_n 0, 1) := by decide +kernel
theorem dX0_isCall_5 : decode cX0_isCall 5 = .ok (.bipush 20, 2) := by decide +kernel
theorem dX0_isCall_7 : decode cX0_isCall 7 = .ok (.if_icmp .ge 7, 3) := by decide +kernel
theorem dX0_isCall_10 : decode cX0_isCall 10 = .ok (.iconst 1, 1) := by decide +kernel
theorem dX0_isCall_11 : decode cX0_isCall 11 = .ok (.goto 4, 3) := by decide +kernel
theorem dX0_isCall_14 : decode cX0_isCall 14 = .ok (.iconst 0, 1) := by decide +kernel
theorem dX0_isCall_15 : decode cX0_isCall 15 = .ok (.ireturn, 1) := by decide +kernel
theorem dX0_isKind_0 : decode cX0_isKind 0 = .ok (.iload_n 0, 1) := by decide +kernel
theorem dX0_isKind_1 : decode cX0_isKind 1 = .ok (.ifCond .lt 13, 3) := by decide +kernel
theorem dX0_isKind_4 : decode cX0_isKind 4 = .ok (.iload_n 0, 1) := by decide +kernel
theorem dX0_isKind_5 : decode cX0_isKind 5 = .ok (.bipush 10, 2) := by decide +kernel
theorem dX0_isKind_7 : decode cX0_isKind 7 = .ok (.if_icmp .ge 7, 3) := by decide +kernel
theorem dX0_isKind_10 : decode cX0_isKind 10 = .ok (.iconst 1, 1) := by decide +kernel
theorem dX0_isKind_11 : decode cX0_isKind 11 = .ok (.goto 4, 3) := by decide +kernel
theorem dX0_isKind_14 : decode cX0_isKind 14 = .ok (.iconst 0, 1) := by decide +kernel
theorem dX0_isKind_15 : decode cX0_isKind 15 = .ok (.ireturn, 1) := by decide +kernel
theorem dX0_placeOf_0 : decode cX0_placeOf 0 = .ok (.iload_n 0, 1) := by decide +kernel
theorem dX0_placeOf_1 : decode cX0_placeOf 1 = .ok (.ifCond .ge 5, 3) := by decide +kernel
theorem dX0_placeOf_4 : decode cX0_placeOf 4 = .ok (.iconst (-1), 1) := by decide +kernel
theorem dX0_placeOf_5 : decode cX0_placeOf 5 = .ok (.ireturn, 1) := by decide +kernel
theorem dX0_placeOf_6 : decode cX0_placeOf 6 = .ok (.iload_n 0, 1) := by decide +kernel
theorem dX0_placeOf_7 : decode cX0_placeOf 7 = .ok (.sipush 1000, 3) := by decide +kernel
theorem dX0_placeOf_10 : decode cX0_placeOf 10 = .ok (.idiv, 1) := by decide +kernel
theorem dX0_placeOf_11 : decode cX0_placeOf 11 = .ok (.istore_n 1, 1) := by decide +kernel
theorem dX0_placeOf_12 : decode cX0_placeOf 12 = .ok (.iload_n 0, 1) := by decide +kernel
theorem dX0_placeOf_13 : decode cX0_placeOf 13 = .ok (.sipush 1000, 3) := by decide +kernel
theorem dX0_placeOf_16 : decode cX0_placeOf 16 = .ok (.irem, 1) := by decide +kernel
theorem dX0_placeOf_17 : decode cX0_placeOf 17 = .ok (.istore_n 2, 1) := by decide +kernel
theorem dX0_placeOf_18 : decode cX0_placeOf 18 = .ok (.iload_n 1, 1) := by decide +kernel
theorem dX0_placeOf_19 : decode cX0_placeOf 19 = .ok (.invokestatic 64, 3) := by decide +kernel
theorem dX0_placeOf_22 : decode cX0_placeOf 22 = .ok (.ifCond .eq 14, 3) := by decide +kernel
theorem dX0_placeOf_25 : decode cX0_placeOf 25 = .ok (.iload_n 2, 1) := by decide +kernel
theorem dX0_placeOf_26 : decode cX0_placeOf 26 = .ok (.iconst 1, 1) := by decide +kernel
theorem dX0_placeOf_27 : decode cX0_placeOf 27 = .ok (.if_icmp .lt 9, 3) := by decide +kernel
theorem dX0_placeOf_30 : decode cX0_placeOf 30 = .ok (.iload_n 2, 1) := by decide +kernel
theorem dX0_placeOf_31 : decode cX0_placeOf 31 = .ok (.bipush 99, 2) := by decide +kernel
theorem dX0_placeOf_33 : decode cX0_placeOf 33 = .ok (.if_icmp .le 5, 3) := by decide +kernel
theorem dX0_placeOf_36 : decode cX0_placeOf 36 = .ok (.iconst (-1), 1) := by decide +kernel
theorem dX0_placeOf_37 : decode cX0_placeOf 37 = .ok (.ireturn, 1) := by decide +kernel
theorem dX0_placeOf_38 : decode cX0_placeOf 38 = .ok (.iload_n 1, 1) := by decide +kernel
theorem dX0_placeOf_39 : decode cX0_placeOf 39 = .ok (.bipush 100, 2) := by decide +kernel
theorem dX0_placeOf_41 : decode cX0_placeOf 41 = .ok (.imul, 1) := by decide +kernel
theorem dX0_placeOf_42 : decode cX0_placeOf 42 = .ok (.iload_n 2, 1) := by decide +kernel
theorem dX0_placeOf_43 : decode cX0_placeOf 43 = .ok (.iadd, 1) := by decide +kernel
theorem dX0_placeOf_44 : decode cX0_placeOf 44 = .ok (.ireturn, 1) := by decide +kernel
theorem dX0_refusalOf_0 : decode cX0_refusalOf 0 = .ok (.iload_n 1, 1) := by decide +kernel
theorem dX0_refusalOf_1 : decode cX0_refusalOf 1 = .ok (.invokestatic 60, 3) := by decide +kernel
theorem dX0_refusalOf_4 : decode cX0_refusalOf 4 = .ok (.ifCond .ne 7, 3) := by decide +kernel
theorem dX0_refusalOf_7 : decode cX0_refusalOf 7 = .ok (.ldc2_w 71, 3) := by decide +kernel
theorem dX0_refusalOf_10 : decode cX0_refusalOf 10 = .ok (.lreturn, 1) := by decide +kernel
theorem dX0_refusalOf_11 : decode cX0_refusalOf 11 = .ok (.aload_n 0, 1) := by decide +kernel
theorem dX0_refusalOf_12 : decode cX0_refusalOf 12 = .ok (.iload_n 2, 1) := by decide +kernel
theorem dX0_refusalOf_13 : decode cX0_refusalOf 13 = .ok (.invokevirtual 89, 3) := by decide +kernel
theorem dX0_refusalOf_16 : decode cX0_refusalOf 16 = .ok (.ifCond .eq 15, 3) := by decide +kernel
theorem dX0_refusalOf_19 : decode cX0_refusalOf 19 = .ok (.iload_n 2, 1) := by decide +kernel
theorem dX0_refusalOf_20 : decode cX0_refusalOf 20 = .ok (.sipush 1000, 3) := by decide +kernel
theorem dX0_refusalOf_23 : decode cX0_refusalOf 23 = .ok (.idiv, 1) := by decide +kernel
theorem dX0_refusalOf_24 : decode cX0_refusalOf 24 = .ok (.iload_n 1, 1) := by decide +kernel
theorem dX0_refusalOf_25 : decode cX0_refusalOf 25 = .ok (.bipush 10, 2) := by decide +kernel
theorem dX0_refusalOf_27 : decode cX0_refusalOf 27 = .ok (.irem, 1) := by decide +kernel
theorem dX0_refusalOf_28 : decode cX0_refusalOf 28 = .ok (.if_icmp .eq 7, 3) := by decide +kernel
theorem dX0_refusalOf_31 : decode cX0_refusalOf 31 = .ok (.ldc2_w 92, 3) := by decide +kernel
theorem dX0_refusalOf_34 : decode cX0_refusalOf 34 = .ok (.lreturn, 1) := by decide +kernel
theorem dX0_refusalOf_35 : decode cX0_refusalOf 35 = .ok (.iload_n 1, 1) := by decide +kernel
theorem dX0_refusalOf_36 : decode cX0_refusalOf 36 = .ok (.bipush 10, 2) := by decide +kernel
theorem dX0_refusalOf_38 : decode cX0_refusalOf 38 = .ok (.if_icmp .lt 14, 3) := by decide +kernel
theorem dX0_refusalOf_41 : decode cX0_refusalOf 41 = .ok (.aload_n 0, 1) := by decide +kernel
theorem dX0_refusalOf_42 : decode cX0_refusalOf 42 = .ok (.getfield 27, 3) := by decide +kernel
theorem dX0_refusalOf_45 : decode cX0_refusalOf 45 = .ok (.ifCond .ne 7, 3) := by decide +kernel
theorem dX0_refusalOf_48 : decode cX0_refusalOf 48 = .ok (.ldc2_w 94, 3) := by decide +kernel
theorem dX0_refusalOf_51 : decode cX0_refusalOf 51 = .ok (.lreturn, 1) := by decide +kernel
theorem dX0_refusalOf_52 : decode cX0_refusalOf 52 = .ok (.lconst 0, 1) := by decide +kernel
theorem dX0_refusalOf_53 : decode cX0_refusalOf 53 = .ok (.lreturn, 1) := by decide +kernel
theorem dX0_replyTo_0 : decode cX0_replyTo 0 = .ok (.lload_n 1, 1) := by decide +kernel
theorem dX0_replyTo_1 : decode cX0_replyTo 1 = .ok (.lconst 0, 1) := by decide +kernel
theorem dX0_replyTo_2 : decode cX0_replyTo 2 = .ok (.lcmp, 1) := by decide +kernel
theorem dX0_replyTo_3 : decode cX0_replyTo 3 = .ok (.ifCond .eq 5, 3) := by decide +kernel
theorem dX0_replyTo_6 : decode cX0_replyTo 6 = .ok (.lload_n 1, 1) := by decide +kernel
theorem dX0_replyTo_7 : decode cX0_replyTo 7 = .ok (.lreturn, 1) := by decide +kernel
theorem dX0_replyTo_8 : decode cX0_replyTo 8 = .ok (.aload_n 0, 1) := by decide +kernel
theorem dX0_replyTo_9 : decode cX0_replyTo 9 = .ok (.getfield 24, 3) := by decide +kernel
theorem dX0_replyTo_12 : decode cX0_replyTo 12 = .ok (.iload_n 3, 1) := by decide +kernel
theorem dX0_replyTo_13 : decode cX0_replyTo 13 = .ok (.iaload, 1) := by decide +kernel
theorem dX0_replyTo_14 : decode cX0_replyTo 14 = .ok (.ifCond .eq 7, 3) := by decide +kernel
theorem dX0_replyTo_17 : decode cX0_replyTo 17 = .ok (.ldc2_w 96, 3) := by decide +kernel
theorem dX0_replyTo_20 : decode cX0_replyTo 20 = .ok (.lreturn, 1) := by decide +kernel
theorem dX0_replyTo_21 : decode cX0_replyTo 21 = .ok (.aload_n 0, 1) := by decide +kernel
theorem dX0_replyTo_22 : decode cX0_replyTo 22 = .ok (.getfield 20, 3) := by decide +kernel
theorem dX0_replyTo_25 : decode cX0_replyTo 25 = .ok (.iload_n 3, 1) := by decide +kernel
theorem dX0_replyTo_26 : decode cX0_replyTo 26 = .ok (.laload, 1) := by decide +kernel
theorem dX0_replyTo_27 : decode cX0_replyTo 27 = .ok (.lload 4, 2) := by decide +kernel
theorem dX0_replyTo_29 : decode cX0_replyTo 29 = .ok (.ladd, 1) := by decide +kernel
theorem dX0_replyTo_30 : decode cX0_replyTo 30 = .ok (.aload_n 0, 1) := by decide +kernel
theorem dX0_replyTo_31 : decode cX0_replyTo 31 = .ok (.getfield 31, 3) := by decide +kernel
theorem dX0_replyTo_34 : decode cX0_replyTo 34 = .ok (.ladd, 1) := by decide +kernel
theorem dX0_replyTo_35 : decode cX0_replyTo 35 = .ok (.lreturn, 1) := by decide +kernel
theorem dX0_logBehind_0 : decode cX0_logBehind 0 = .ok (.lload_n 1, 1) := by decide +kernel
theorem dX0_logBehind_1 : decode cX0_logBehind 1 = .ok (.ldc2_w 71, 3) := by decide +kernel
theorem dX0_logBehind_4 : decode cX0_logBehind 4 = .ok (.lcmp, 1) := by decide +kernel
theorem dX0_logBehind_5 : decode cX0_logBehind 5 = .ok (.ifCond .ne 8, 3) := by decide +kernel
theorem dX0_logBehind_8 : decode cX0_logBehind 8 = .ok (.aload_n 0, 1) := by decide +kernel
theorem dX0_logBehind_9 : decode cX0_logBehind 9 = .ok (.getfield 55, 3) := by decide +kernel
theorem dX0_logBehind_12 : decode cX0_logBehind 12 = .ok (.lreturn, 1) := by decide +kernel
theorem dX0_logBehind_13 : decode cX0_logBehind 13 = .ok (.ldc2_w 98, 3) := by decide +kernel
theorem dX0_logBehind_16 : decode cX0_logBehind 16 = .ok (.ldc2_w 100, 3) := by decide +kernel
theorem dX0_logBehind_19 : decode cX0_logBehind 19 = .ok (.aload_n 0, 1) := by decide +kernel
theorem dX0_logBehind_20 : decode cX0_logBehind 20 = .ok (.getfield 55, 3) := by decide +kernel
theorem dX0_logBehind_23 : decode cX0_logBehind 23 = .ok (.lmul, 1) := by decide +kernel
theorem dX0_logBehind_24 : decode cX0_logBehind 24 = .ok (.ldc2_w 102, 3) := by decide +kernel
theorem dX0_logBehind_27 : decode cX0_logBehind 27 = .ok (.iload 4, 2) := by decide +kernel
theorem dX0_logBehind_29 : decode cX0_logBehind 29 = .ok (.i2l, 1) := by decide +kernel
theorem dX0_logBehind_30 : decode cX0_logBehind 30 = .ok (.lmul, 1) := by decide +kernel
theorem dX0_logBehind_31 : decode cX0_logBehind 31 = .ok (.ladd, 1) := by decide +kernel
theorem dX0_logBehind_32 : decode cX0_logBehind 32 = .ok (.iload_n 3, 1) := by decide +kernel
theorem dX0_logBehind_33 : decode cX0_logBehind 33 = .ok (.i2l, 1) := by decide +kernel
theorem dX0_logBehind_34 : decode cX0_logBehind 34 = .ok (.ladd, 1) := by decide +kernel
theorem dX0_logBehind_35 : decode cX0_logBehind 35 = .ok (.lmul, 1) := by decide +kernel
theorem dX0_logBehind_36 : decode cX0_logBehind 36 = .ok (.lstore 7, 2) := by decide +kernel
theorem dX0_logBehind_38 : decode cX0_logBehind 38 = .ok (.lload_n 1, 1) := by decide +kernel
theorem dX0_logBehind_39 : decode cX0_logBehind 39 = .ok (.lconst 0, 1) := by decide +kernel
theorem dX0_logBehind_40 : decode cX0_logBehind 40 = .ok (.lcmp, 1) := by decide +kernel
theorem dX0_logBehind_41 : decode cX0_logBehind 41 = .ok (.ifCond .eq 8, 3) := by decide +kernel
theorem dX0_logBehind_44 : decode cX0_logBehind 44 = .ok (.lload 7, 2) := by decide +kernel
theorem dX0_logBehind_46 : decode cX0_logBehind 46 = .ok (.lconst 1, 1) := by decide +kernel
theorem dX0_logBehind_47 : decode cX0_logBehind 47 = .ok (.lsub, 1) := by decide +kernel
theorem dX0_logBehind_48 : decode cX0_logBehind 48 = .ok (.lreturn, 1) := by decide +kernel
theorem dX0_logBehind_49 : decode cX0_logBehind 49 = .ok (.aload_n 0, 1) := by decide +kernel
theorem dX0_logBehind_50 : decode cX0_logBehind 50 = .ok (.getfield 24, 3) := by decide +kernel
theorem dX0_logBehind_53 : decode cX0_logBehind 53 = .ok (.iload_n 3, 1) := by decide +kernel
theorem dX0_logBehind_54 : decode cX0_logBehind 54 = .ok (.iaload, 1) := by decide +kernel
theorem dX0_logBehind_55 : decode cX0_logBehind 55 = .ok (.ifCond .eq 16, 3) := by decide +kernel
theorem dX0_logBehind_58 : decode cX0_logBehind 58 = .ok (.lload 7, 2) := by decide +kernel
theorem dX0_logBehind_60 : decode cX0_logBehind 60 = .ok (.lconst 1, 1) := by decide +kernel
theorem dX0_logBehind_61 : decode cX0_logBehind 61 = .ok (.lsub, 1) := by decide +kernel
theorem dX0_logBehind_62 : decode cX0_logBehind 62 = .ok (.aload_n 0, 1) := by decide +kernel
theorem dX0_logBehind_63 : decode cX0_logBehind 63 = .ok (.getfield 24, 3) := by decide +kernel
theorem dX0_logBehind_66 : decode cX0_logBehind 66 = .ok (.iload_n 3, 1) := by decide +kernel
theorem dX0_logBehind_67 : decode cX0_logBehind 67 = .ok (.iaload, 1) := by decide +kernel
theorem dX0_logBehind_68 : decode cX0_logBehind 68 = .ok (.i2l, 1) := by decide +kernel
theorem dX0_logBehind_69 : decode cX0_logBehind 69 = .ok (.lsub, 1) := by decide +kernel
theorem dX0_logBehind_70 : decode cX0_logBehind 70 = .ok (.lreturn, 1) := by decide +kernel
theorem dX0_logBehind_71 : decode cX0_logBehind 71 = .ok (.lload 7, 2) := by decide +kernel
theorem dX0_logBehind_73 : decode cX0_logBehind 73 = .ok (.lload 5, 2) := by decide +kernel
theorem dX0_logBehind_75 : decode cX0_logBehind 75 = .ok (.ladd, 1) := by decide +kernel
theorem dX0_logBehind_76 : decode cX0_logBehind 76 = .ok (.lreturn, 1) := by decide +kernel
theorem dX0_settle_0 : decode cX0_settle 0 = .ok (.lload_n 1, 1) := by decide +kernel
theorem dX0_settle_1 : decode cX0_settle 1 = .ok (.lconst 0, 1) := by decide +kernel
theorem dX0_settle_2 : decode cX0_settle 2 = .ok (.lcmp, 1) := by decide +kernel
theorem dX0_settle_3 : decode cX0_settle 3 = .ok (.ifCond .eq 16, 3) := by decide +kernel
theorem dX0_settle_6 : decode cX0_settle 6 = .ok (.aload_n 0, 1) := by decide +kernel
theorem dX0_settle_7 : decode cX0_settle 7 = .ok (.dup, 1) := by decide +kernel
theorem dX0_settle_8 : decode cX0_settle 8 = .ok (.getfield 38, 3) := by decide +kernel
theorem dX0_settle_11 : decode cX0_settle 11 = .ok (.lconst 1, 1) := by decide +kernel
theorem dX0_settle_12 : decode cX0_settle 12 = .ok (.ladd, 1) := by decide +kernel
theorem dX0_settle_13 : decode cX0_settle 13 = .ok (.putfield 38, 3) := by decide +kernel
theorem dX0_settle_16 : decode cX0_settle 16 = .ok (.goto 66, 3) := by decide +kernel
theorem dX0_settle_19 : decode cX0_settle 19 = .ok (.aload_n 0, 1) := by decide +kernel
theorem dX0_settle_20 : decode cX0_settle 20 = .ok (.getfield 24, 3) := by decide +kernel
theorem dX0_settle_23 : decode cX0_settle 23 = .ok (.iload_n 3, 1) := by decide +kernel
theorem dX0_settle_24 : decode cX0_settle 24 = .ok (.iaload, 1) := by decide +kernel
theorem dX0_settle_25 : decode cX0_settle 25 = .ok (.ifCond .eq 37, 3) := by decide +kernel
theorem dX0_settle_28 : decode cX0_settle 28 = .ok (.aload_n 0, 1) := by decide +kernel
theorem dX0_settle_29 : decode cX0_settle 29 = .ok (.dup, 1) := by decide +kernel
theorem dX0_settle_30 : decode cX0_settle 30 = .ok (.getfield 41, 3) := by decide +kernel
theorem dX0_settle_33 : decode cX0_settle 33 = .ok (.lconst 1, 1) := by decide +kernel
theorem dX0_settle_34 : decode cX0_settle 34 = .ok (.ladd, 1) := by decide +kernel
theorem dX0_settle_35 : decode cX0_settle 35 = .ok (.putfield 41, 3) := by decide +kernel
theorem dX0_settle_38 : decode cX0_settle 38 = .ok (.aload_n 0, 1) := by decide +kernel
theorem dX0_settle_39 : decode cX0_settle 39 = .ok (.aload_n 0, 1) := by decide +kernel
theorem dX0_settle_40 : decode cX0_settle 40 = .ok (.getfield 24, 3) := by decide +kernel
theorem dX0_settle_43 : decode cX0_settle 43 = .ok (.iload_n 3, 1) := by decide +kernel
theorem dX0_settle_44 : decode cX0_settle 44 = .ok (.iaload, 1) := by decide +kernel
theorem dX0_settle_45 : decode cX0_settle 45 = .ok (.putfield 44, 3) := by decide +kernel
theorem dX0_settle_48 : decode cX0_settle 48 = .ok (.aload_n 0, 1) := by decide +kernel
theorem dX0_settle_49 : decode cX0_settle 49 = .ok (.iload 4, 2) := by decide +kernel
theorem dX0_settle_51 : decode cX0_settle 51 = .ok (.putfield 47, 3) := by decide +kernel
theorem dX0_settle_54 : decode cX0_settle 54 = .ok (.aload_n 0, 1) := by decide +kernel
theorem dX0_settle_55 : decode cX0_settle 55 = .ok (.iload_n 3, 1) := by decide +kernel
theorem dX0_settle_56 : decode cX0_settle 56 = .ok (.putfield 50, 3) := by decide +kernel
theorem dX0_settle_59 : decode cX0_settle 59 = .ok (.goto 23, 3) := by decide +kernel
theorem dX0_settle_62 : decode cX0_settle 62 = .ok (.aload_n 0, 1) := by decide +kernel
theorem dX0_settle_63 : decode cX0_settle 63 = .ok (.dup, 1) := by decide +kernel
theorem dX0_settle_64 : decode cX0_settle 64 = .ok (.getfield 35, 3) := by decide +kernel
theorem dX0_settle_67 : decode cX0_settle 67 = .ok (.lconst 1, 1) := by decide +kernel
theorem dX0_settle_68 : decode cX0_settle 68 = .ok (.ladd, 1) := by decide +kernel
theorem dX0_settle_69 : decode cX0_settle 69 = .ok (.putfield 35, 3) := by decide +kernel
theorem dX0_settle_72 : decode cX0_settle 72 = .ok (.aload_n 0, 1) := by decide +kernel
theorem dX0_settle_73 : decode cX0_settle 73 = .ok (.iconst 0, 1) := by decide +kernel
theorem dX0_settle_74 : decode cX0_settle 74 = .ok (.putfield 27, 3) := by decide +kernel
theorem dX0_settle_77 : decode cX0_settle 77 = .ok (.aload_n 0, 1) := by decide +kernel
theorem dX0_settle_78 : decode cX0_settle 78 = .ok (.lconst 0, 1) := by decide +kernel
theorem dX0_settle_79 : decode cX0_settle 79 = .ok (.putfield 31, 3) := by decide +kernel
theorem dX0_settle_82 : decode cX0_settle 82 = .ok (.return_, 1) := by decide +kernel
