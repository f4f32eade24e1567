theorem dX1_init_0 : decode cX1_init 0 = .ok (.aload_n 0, 1) := by decide +kernel
theorem dX1_init_1 : decode cX1_init 1 = .ok (.invokespecial 1, 3) := by decide +kernel
theorem dX1_init_4 : decode cX1_init 4 = .ok (.aload_n 0, 1) := by decide +kernel
theorem dX1_init_5 : decode cX1_init 5 = .ok (.bipush 40, 2) := by decide +kernel
theorem dX1_init_7 : decode cX1_init 7 = .ok (.newarray .long, 2) := by decide +kernel
theorem dX1_init_9 : decode cX1_init 9 = .ok (.putfield 7, 3) := by decide +kernel
theorem dX1_init_12 : decode cX1_init 12 = .ok (.aload_n 0, 1) := by decide +kernel
theorem dX1_init_13 : decode cX1_init 13 = .ok (.bipush 20, 2) := by decide +kernel
theorem dX1_init_15 : decode cX1_init 15 = .ok (.newarray .long, 2) := by decide +kernel
theorem dX1_init_17 : decode cX1_init 17 = .ok (.putfield 13, 3) := by decide +kernel
theorem dX1_init_20 : decode cX1_init 20 = .ok (.aload_n 0, 1) := by decide +kernel
theorem dX1_init_21 : decode cX1_init 21 = .ok (.bipush 20, 2) := by decide +kernel
theorem dX1_init_23 : decode cX1_init 23 = .ok (.newarray .int, 2) := by decide +kernel
theorem dX1_init_25 : decode cX1_init 25 = .ok (.putfield 16, 3) := by decide +kernel
theorem dX1_init_28 : decode cX1_init 28 = .ok (.aload_n 0, 1) := by decide +kernel
theorem dX1_init_29 : decode cX1_init 29 = .ok (.bipush 10, 2) := by decide +kernel
theorem dX1_init_31 : decode cX1_init 31 = .ok (.newarray .int, 2) := by decide +kernel
theorem dX1_init_33 : decode cX1_init 33 = .ok (.putfield 20, 3) := by decide +kernel
theorem dX1_init_36 : decode cX1_init 36 = .ok (.aload_n 0, 1) := by decide +kernel
theorem dX1_init_37 : decode cX1_init 37 = .ok (.sipush 1000, 3) := by decide +kernel
theorem dX1_init_40 : decode cX1_init 40 = .ok (.newarray .boolean, 2) := by decide +kernel
theorem dX1_init_42 : decode cX1_init 42 = .ok (.putfield 23, 3) := by decide +kernel
theorem dX1_init_45 : decode cX1_init 45 = .ok (.aload_n 0, 1) := by decide +kernel
theorem dX1_init_46 : decode cX1_init 46 = .ok (.ldc2_w 27, 3) := by decide +kernel
theorem dX1_init_49 : decode cX1_init 49 = .ok (.putfield 29, 3) := by decide +kernel
theorem dX1_init_52 : decode cX1_init 52 = .ok (.return_, 1) := by decide +kernel
theorem dX1_collect_0 : decode cX1_collect 0 = .ok (.aload_n 0, 1) := by decide +kernel
theorem dX1_collect_1 : decode cX1_collect 1 = .ok (.getfield 33, 3) := by decide +kernel
theorem dX1_collect_4 : decode cX1_collect 4 = .ok (.bipush 40, 2) := by decide +kernel
theorem dX1_collect_6 : decode cX1_collect 6 = .ok (.if_icmp .ne 6, 3) := by decide +kernel
theorem dX1_collect_9 : decode cX1_collect 9 = .ok (.bipush (-14), 2) := by decide +kernel
theorem dX1_collect_11 : decode cX1_collect 11 = .ok (.ireturn, 1) := by decide +kernel
theorem dX1_collect_12 : decode cX1_collect 12 = .ok (.aload_n 0, 1) := by decide +kernel
theorem dX1_collect_13 : decode cX1_collect 13 = .ok (.getfield 7, 3) := by decide +kernel
theorem dX1_collect_16 : decode cX1_collect 16 = .ok (.aload_n 0, 1) := by decide +kernel
theorem dX1_collect_17 : decode cX1_collect 17 = .ok (.getfield 33, 3) := by decide +kernel
theorem dX1_collect_20 : decode cX1_collect 20 = .ok (.lload_n 1, 1) := by decide +kernel
theorem dX1_collect_21 : decode cX1_collect 21 = .ok (.lastore, 1) := by decide +kernel
theorem dX1_collect_22 : decode cX1_collect 22 = .ok (.aload_n 0, 1) := by decide +kernel
theorem dX1_collect_23 : decode cX1_collect 23 = .ok (.dup, 1) := by decide +kernel
theorem dX1_collect_24 : decode cX1_collect 24 = .ok (.getfield 33, 3) := by decide +kernel
theorem dX1_collect_27 : decode cX1_collect 27 = .ok (.iconst 1, 1) := by decide +kernel
theorem dX1_collect_28 : decode cX1_collect 28 = .ok (.iadd, 1) := by decide +kernel
theorem dX1_collect_29 : decode cX1_collect 29 = .ok (.putfield 33, 3) := by decide +kernel
theorem dX1_collect_32 : decode cX1_collect 32 = .ok (.aload_n 0, 1) := by decide +kernel
theorem dX1_collect_33 : decode cX1_collect 33 = .ok (.getfield 33, 3) := by decide +kernel
theorem dX1_collect_36 : decode cX1_collect 36 = .ok (.ireturn, 1) := by decide +kernel
theorem dX1_answer_0 : decode cX1_answer 0 = .ok (.iload_n 1, 1) := by decide +kernel
theorem dX1_answer_1 : decode cX1_answer 1 = .ok (.ifCond .lt 9, 3) := by decide +kernel
theorem dX1_answer_4 : decode cX1_answer 4 = .ok (.iload_n 1, 1) := by decide +kernel
theorem dX1_answer_5 : decode cX1_answer 5 = .ok (.bipush 19, 2) := by decide +kernel
theorem dX1_answer_7 : decode cX1_answer 7 = .ok (.if_icmp .le 5, 3) := by decide +kernel
theorem dX1_answer_10 : decode cX1_answer 10 = .ok (.iconst (-1), 1) := by decide +kernel
theorem dX1_answer_11 : decode cX1_answer 11 = .ok (.ireturn, 1) := by decide +kernel
theorem dX1_answer_12 : decode cX1_answer 12 = .ok (.aload_n 0, 1) := by decide +kernel
theorem dX1_answer_13 : decode cX1_answer 13 = .ok (.getfield 13, 3) := by decide +kernel
theorem dX1_answer_16 : decode cX1_answer 16 = .ok (.iload_n 1, 1) := by decide +kernel
theorem dX1_answer_17 : decode cX1_answer 17 = .ok (.lload_n 2, 1) := by decide +kernel
theorem dX1_answer_18 : decode cX1_answer 18 = .ok (.lastore, 1) := by decide +kernel
theorem dX1_answer_19 : decode cX1_answer 19 = .ok (.aload_n 0, 1) := by decide +kernel
theorem dX1_answer_20 : decode cX1_answer 20 = .ok (.getfield 16, 3) := by decide +kernel
theorem dX1_answer_23 : decode cX1_answer 23 = .ok (.iload_n 1, 1) := by decide +kernel
theorem dX1_answer_24 : decode cX1_answer 24 = .ok (.iconst 0, 1) := by decide +kernel
theorem dX1_answer_25 : decode cX1_answer 25 = .ok (.iastore, 1) := by decide +kernel
theorem dX1_answer_26 : decode cX1_answer 26 = .ok (.iconst 1, 1) := by decide +kernel
theorem dX1_answer_27 : decode cX1_answer 27 = .ok (.ireturn, 1) := by decide +kernel
theorem dX1_fails_0 : decode cX1_fails 0 = .ok (.iload_n 1, 1) := by decide +kernel
theorem dX1_fails_1 : decode cX1_fails 1 = .ok (.ifCond .lt 18, 3) := by decide +kernel
theorem dX1_fails_4 : decode cX1_fails 4 = .ok (.iload_n 1, 1) := by decide +kernel
theorem dX1_fails_5 : decode cX1_fails 5 = .ok (.bipush 19, 2) := by decide +kernel
theorem dX1_fails_7 : decode cX1_fails 7 = .ok (.if_icmp .gt 12, 3) := by decide +kernel
theorem dX1_fails_10 : decode cX1_fails 10 = .ok (.iload_n 2, 1) := by decide +kernel
theorem dX1_fails_11 : decode cX1_fails 11 = .ok (.ifCond .lt 8, 3) := by decide +kernel
theorem dX1_fails_14 : decode cX1_fails 14 = .ok (.iload_n 2, 1) := by decide +kernel
theorem dX1_fails_15 : decode cX1_fails 15 = .ok (.iconst 3, 1) := by decide +kernel
theorem dX1_fails_16 : decode cX1_fails 16 = .ok (.if_icmp .le 5, 3) := by decide +kernel
theorem dX1_fails_19 : decode cX1_fails 19 = .ok (.iconst (-1), 1) := by decide +kernel
theorem dX1_fails_20 : decode cX1_fails 20 = .ok (.ireturn, 1) := by decide +kernel
theorem dX1_fails_21 : decode cX1_fails 21 = .ok (.aload_n 0, 1) := by decide +kernel
theorem dX1_fails_22 : decode cX1_fails 22 = .ok (.getfield 16, 3) := by decide +kernel
theorem dX1_fails_25 : decode cX1_fails 25 = .ok (.iload_n 1, 1) := by decide +kernel
theorem dX1_fails_26 : decode cX1_fails 26 = .ok (.iload_n 2, 1) := by decide +kernel
theorem dX1_fails_27 : decode cX1_fails 27 = .ok (.iastore, 1) := by decide +kernel
theorem dX1_fails_28 : decode cX1_fails 28 = .ok (.iconst 1, 1) := by decide +kernel
theorem dX1_fails_29 : decode cX1_fails 29 = .ok (.ireturn, 1) := by decide +kernel
theorem dX1_make_0 : decode cX1_make 0 = .ok (.iload_n 1, 1) := by decide +kernel
theorem dX1_make_1 : decode cX1_make 1 = .ok (.ifCond .lt 9, 3) := by decide +kernel
theorem dX1_make_4 : decode cX1_make 4 = .ok (.iload_n 1, 1) := by decide +kernel
theorem dX1_make_5 : decode cX1_make 5 = .ok (.bipush 9, 2) := by decide +kernel
theorem dX1_make_7 : decode cX1_make 7 = .ok (.if_icmp .le 5, 3) := by decide +kernel
theorem dX1_make_10 : decode cX1_make 10 = .ok (.iconst (-1), 1) := by decide +kernel
theorem dX1_make_11 : decode cX1_make 11 = .ok (.ireturn, 1) := by decide +kernel
theorem dX1_make_12 : decode cX1_make 12 = .ok (.aload_n 0, 1) := by decide +kernel
theorem dX1_make_13 : decode cX1_make 13 = .ok (.getfield 20, 3) := by decide +kernel
theorem dX1_make_16 : decode cX1_make 16 = .ok (.iload_n 1, 1) := by decide +kernel
theorem dX1_make_17 : decode cX1_make 17 = .ok (.iaload, 1) := by decide +kernel
theorem dX1_make_18 : decode cX1_make 18 = .ok (.bipush 99, 2) := by decide +kernel
theorem dX1_make_20 : decode cX1_make 20 = .ok (.if_icmp .ne 6, 3) := by decide +kernel
theorem dX1_make_23 : decode cX1_make 23 = .ok (.bipush (-14), 2) := by decide +kernel
theorem dX1_make_25 : decode cX1_make 25 = .ok (.ireturn, 1) := by decide +kernel
theorem dX1_make_26 : decode cX1_make 26 = .ok (.aload_n 0, 1) := by decide +kernel
theorem dX1_make_27 : decode cX1_make 27 = .ok (.getfield 20, 3) := by decide +kernel
theorem dX1_make_30 : decode cX1_make 30 = .ok (.iload_n 1, 1) := by decide +kernel
theorem dX1_make_31 : decode cX1_make 31 = .ok (.dup2, 1) := by decide +kernel
theorem dX1_make_32 : decode cX1_make 32 = .ok (.iaload, 1) := by decide +kernel
theorem dX1_make_33 : decode cX1_make 33 = .ok (.iconst 1, 1) := by decide +kernel
theorem dX1_make_34 : decode cX1_make 34 = .ok (.iadd, 1) := by decide +kernel
theorem dX1_make_35 : decode cX1_make 35 = .ok (.iastore, 1) := by decide +kernel
theorem dX1_make_36 : decode cX1_make 36 = .ok (.aload_n 0, 1) := by decide +kernel
theorem dX1_make_37 : decode cX1_make 37 = .ok (.getfield 23, 3) := by decide +kernel
theorem dX1_make_40 : decode cX1_make 40 = .ok (.bipush 100, 2) := by decide +kernel
theorem dX1_make_42 : decode cX1_make 42 = .ok (.iload_n 1, 1) := by decide +kernel
theorem dX1_make_43 : decode cX1_make 43 = .ok (.imul, 1) := by decide +kernel
theorem dX1_make_44 : decode cX1_make 44 = .ok (.aload_n 0, 1) := by decide +kernel
theorem dX1_make_45 : decode cX1_make 45 = .ok (.getfield 20, 3) := by decide +kernel
theorem dX1_make_48 : decode cX1_make 48 = .ok (.iload_n 1, 1) := by decide +kernel
theorem dX1_make_49 : decode cX1_make 49 = .ok (.iaload, 1) := by decide +kernel
theorem dX1_make_50 : decode cX1_make 50 = .ok (.iadd, 1) := by decide +kernel
theorem dX1_make_51 : decode cX1_make 51 = .ok (.iconst 1, 1) := by decide +kernel
theorem dX1_make_52 : decode cX1_make 52 = .ok (.bastore, 1) := by decide +kernel
theorem dX1_make_53 : decode cX1_make 53 = .ok (.sipush 1000, 3) := by decide +kernel
theorem dX1_make_56 : decode cX1_make 56 = .ok (.iload_n 1, 1) := by decide +kernel
theorem dX1_make_57 : decode cX1_make 57 = .ok (.imul, 1) := by decide +kernel
theorem dX1_make_58 : decode cX1_make 58 = .ok (.aload_n 0, 1) := by decide +kernel
theorem dX1_make_59 : decode cX1_make 59 = .ok (.getfield 20, 3) := by decide +kernel
theorem dX1_make_62 : decode cX1_make 62 = .ok (.iload_n 1, 1) := by decide +kernel
theorem dX1_make_63 : decode cX1_make 63 = .ok (.iaload, 1) := by decide +kernel
theorem dX1_make_64 : decode cX1_make 64 = .ok (.iadd, 1) := by decide +kernel
theorem dX1_make_65 : decode cX1_make 65 = .ok (.ireturn, 1) := by decide +kernel
theorem dX1_isThere_0 : decode cX1_isThere 0 = .ok (.iload_n 1, 1) := by decide +kernel
theorem dX1_isThere_1 : decode cX1_isThere 1 = .ok (.ifCond .le 46, 3) := by decide +kernel
theorem dX1_isThere_4 : decode cX1_isThere 4 = .ok (.iload_n 1, 1) := by decide +kernel
theorem dX1_isThere_5 : decode cX1_isThere 5 = .ok (.sipush 10000, 3) := by decide +kernel
theorem dX1_isThere_8 : decode cX1_isThere 8 = .ok (.if_icmp .ge 39, 3) := by decide +kernel
theorem dX1_isThere_11 : decode cX1_isThere 11 = .ok (.iload_n 1, 1) := by decide +kernel
theorem dX1_isThere_12 : decode cX1_isThere 12 = .ok (.sipush 1000, 3) := by decide +kernel
theorem dX1_isThere_15 : decode cX1_isThere 15 = .ok (.irem, 1) := by decide +kernel
theorem dX1_isThere_16 : decode cX1_isThere 16 = .ok (.bipush 100, 2) := by decide +kernel
theorem dX1_isThere_18 : decode cX1_isThere 18 = .ok (.if_icmp .ge 29, 3) := by decide +kernel
theorem dX1_isThere_21 : decode cX1_isThere 21 = .ok (.aload_n 0, 1) := by decide +kernel
theorem dX1_isThere_22 : decode cX1_isThere 22 = .ok (.getfield 23, 3) := by decide +kernel
theorem dX1_isThere_25 : decode cX1_isThere 25 = .ok (.bipush 100, 2) := by decide +kernel
theorem dX1_isThere_27 : decode cX1_isThere 27 = .ok (.iload_n 1, 1) := by decide +kernel
theorem dX1_isThere_28 : decode cX1_isThere 28 = .ok (.sipush 1000, 3) := by decide +kernel
theorem dX1_isThere_31 : decode cX1_isThere 31 = .ok (.idiv, 1) := by decide +kernel
theorem dX1_isThere_32 : decode cX1_isThere 32 = .ok (.imul, 1) := by decide +kernel
theorem dX1_isThere_33 : decode cX1_isThere 33 = .ok (.iload_n 1, 1) := by decide +kernel
theorem dX1_isThere_34 : decode cX1_isThere 34 = .ok (.sipush 1000, 3) := by decide +kernel
theorem dX1_isThere_37 : decode cX1_isThere 37 = .ok (.irem, 1) := by decide +kernel
theorem dX1_isThere_38 : decode cX1_isThere 38 = .ok (.iadd, 1) := by decide +kernel
theorem dX1_isThere_39 : decode cX1_isThere 39 = .ok (.baload, 1) := by decide +kernel
theorem dX1_isThere_40 : decode cX1_isThere 40 = .ok (.ifCond .eq 7, 3) := by decide +kernel
theorem dX1_isThere_43 : decode cX1_isThere 43 = .ok (.iconst 1, 1) := by decide +kernel
theorem dX1_isThere_44 : decode cX1_isThere 44 = .ok (.goto 4, 3) := by decide +kernel
theorem dX1_isThere_47 : decode cX1_isThere 47 = .ok (.iconst 0, 1) := by decide +kernel
theorem dX1_isThere_48 : decode cX1_isThere 48 = .ok (.ireturn, 1) := by decide +kernel
theorem dX1_drop_0 : decode cX1_drop 0 = .ok (.aload_n 0, 1) := by decide +kernel
theorem dX1_drop_1 : decode cX1_drop 1 = .ok (.iload_n 1, 1) := by decide +kernel
theorem dX1_drop_2 : decode cX1_drop 2 = .ok (.invokevirtual 37, 3) := by decide +kernel
theorem dX1_drop_5 : decode cX1_drop 5 = .ok (.istore_n 2, 1) := by decide +kernel
theorem dX1_drop_6 : decode cX1_drop 6 = .ok (.iload_n 2, 1) := by decide +kernel
theorem dX1_drop_7 : decode cX1_drop 7 = .ok (.ifCond .eq 23, 3) := by decide +kernel
theorem dX1_drop_10 : decode cX1_drop 10 = .ok (.aload_n 0, 1) := by decide +kernel
theorem dX1_drop_11 : decode cX1_drop 11 = .ok (.getfield 23, 3) := by decide +kernel
theorem dX1_drop_14 : decode cX1_drop 14 = .ok (.bipush 100, 2) := by decide +kernel
theorem dX1_drop_16 : decode cX1_drop 16 = .ok (.iload_n 1, 1) := by decide +kernel
theorem dX1_drop_17 : decode cX1_drop 17 = .ok (.sipush 1000, 3) := by decide +kernel
theorem dX1_drop_20 : decode cX1_drop 20 = .ok (.idiv, 1) := by decide +kernel
theorem dX1_drop_21 : decode cX1_drop 21 = .ok (.imul, 1) := by decide +kernel
theorem dX1_drop_22 : decode cX1_drop 22 = .ok (.iload_n 1, 1) := by decide +kernel
theorem dX1_drop_23 : decode cX1_drop 23 = .ok (.sipush 1000, 3) := by decide +kernel
theorem dX1_drop_26 : decode cX1_drop 26 = .ok (.irem, 1) := by decide +kernel
theorem dX1_drop_27 : decode cX1_drop 27 = .ok (.iadd, 1) := by decide +kernel
theorem dX1_drop_28 : decode cX1_drop 28 = .ok (.iconst 0, 1) := by decide +kernel
theorem dX1_drop_29 : decode cX1_drop 29 = .ok (.bastore, 1) := by decide +kernel
theorem dX1_drop_30 : decode cX1_drop 30 = .ok (.iload_n 2, 1) := by decide +kernel
theorem dX1_drop_31 : decode cX1_drop 31 = .ok (.ireturn, 1) := by decide +kernel
theorem dX1_numbers_0 : decode cX1_numbers 0 = .ok (.iload_n 1, 1) := by decide +kernel
theorem dX1_numbers_1 : decode cX1_numbers 1 = .ok (.ifCond .lt 9, 3) := by decide +kernel
theorem dX1_numbers_4 : decode cX1_numbers 4 = .ok (.iload_n 1, 1) := by decide +kernel
theorem dX1_numbers_5 : decode cX1_numbers 5 = .ok (.bipush 9, 2) := by decide +kernel
theorem dX1_numbers_7 : decode cX1_numbers 7 = .ok (.if_icmp .le 5, 3) := by decide +kernel
theorem dX1_numbers_10 : decode cX1_numbers 10 = .ok (.iconst (-1), 1) := by decide +kernel
theorem dX1_numbers_11 : decode cX1_numbers 11 = .ok (.ireturn, 1) := by decide +kernel
theorem dX1_numbers_12 : decode cX1_numbers 12 = .ok (.iconst 0, 1) := by decide +kernel
theorem dX1_numbers_13 : decode cX1_numbers 13 = .ok (.istore_n 2, 1) := by decide +kernel
theorem dX1_numbers_14 : decode cX1_numbers 14 = .ok (.iconst 0, 1) := by decide +kernel
theorem dX1_numbers_15 : decode cX1_numbers 15 = .ok (.istore_n 3, 1) := by decide +kernel
theorem dX1_numbers_16 : decode cX1_numbers 16 = .ok (.iload_n 3, 1) := by decide +kernel
theorem dX1_numbers_17 : decode cX1_numbers 17 = .ok (.bipush 100, 2) := by decide +kernel
theorem dX1_numbers_19 : decode cX1_numbers 19 = .ok (.if_icmp .ge 31, 3) := by decide +kernel
theorem dX1_numbers_22 : decode cX1_numbers 22 = .ok (.iload_n 2, 1) := by decide +kernel
theorem dX1_numbers_23 : decode cX1_numbers 23 = .ok (.aload_n 0, 1) := by decide +kernel
theorem dX1_numbers_24 : decode cX1_numbers 24 = .ok (.getfield 23, 3) := by decide +kernel
theorem dX1_numbers_27 : decode cX1_numbers 27 = .ok (.bipush 100, 2) := by decide +kernel
theorem dX1_numbers_29 : decode cX1_numbers 29 = .ok (.iload_n 1, 1) := by decide +kernel
theorem dX1_numbers_30 : decode cX1_numbers 30 = .ok (.imul, 1) := by decide +kernel
theorem dX1_numbers_31 : decode cX1_numbers 31 = .ok (.iload_n 3, 1) := by decide +kernel
theorem dX1_numbers_32 : decode cX1_numbers 32 = .ok (.iadd, 1) := by decide +kernel
theorem dX1_numbers_33 : decode cX1_numbers 33 = .ok (.baload, 1) := by decide +kernel
theorem dX1_numbers_34 : decode cX1_numbers 34 = .ok (.ifCond .eq 7, 3) := by decide +kernel
theorem dX1_numbers_37 : decode cX1_numbers 37 = .ok (.iconst 1, 1) := by decide +kernel
theorem dX1_numbers_38 : decode cX1_numbers 38 = .ok (.goto 4, 3) := by decide +kernel
theorem dX1_numbers_41 : decode cX1_numbers 41 = .ok (.iconst 0, 1) := by decide +kernel
theorem dX1_numbers_42 : decode cX1_numbers 42 = .ok (.iadd, 1) := by decide +kernel
theorem dX1_numbers_43 : decode cX1_numbers 43 = .ok (.istore_n 2, 1) := by decide +kernel
theorem dX1_numbers_44 : decode cX1_numbers 44 = .ok (.iinc 3 1, 3) := by decide +kernel
theorem dX1_numbers_47 : decode cX1_numbers 47 = .ok (.goto (-31), 3) := by decide +kernel
theorem dX1_numbers_50 : decode cX1_numbers 50 = .ok (.iload_n 2, 1) := by decide +kernel
theorem dX1_numbers_51 : decode cX1_numbers 51 = .ok (.ireturn, 1) := by decide +kernel
theorem dX1_way_0 : decode cX1_way 0 = .ok (.iload_n 1, 1) := by decide +kernel
theorem dX1_way_1 : decode cX1_way 1 = .ok (.ifCond .lt 9, 3) := by decide +kernel
theorem dX1_way_4 : decode cX1_way 4 = .ok (.iload_n 1, 1) := by decide +kernel
theorem dX1_way_5 : decode cX1_way 5 = .ok (.bipush 19, 2) := by decide +kernel
theorem dX1_way_7 : decode cX1_way 7 = .ok (.if_icmp .le 5, 3) := by decide +kernel
theorem dX1_way_10 : decode cX1_way 10 = .ok (.iconst 1, 1) := by decide +kernel
theorem dX1_way_11 : decode cX1_way 11 = .ok (.ireturn, 1) := by decide +kernel
theorem dX1_way_12 : decode cX1_way 12 = .ok (.aload_n 0, 1) := by decide +kernel
theorem dX1_way_13 : decode cX1_way 13 = .ok (.iload_n 2, 1) := by decide +kernel
theorem dX1_way_14 : decode cX1_way 14 = .ok (.invokevirtual 37, 3) := by decide +kernel
theorem dX1_way_17 : decode cX1_way 17 = .ok (.ifCond .eq 15, 3) := by decide +kernel
theorem dX1_way_20 : decode cX1_way 20 = .ok (.iload_n 2, 1) := by decide +kernel
theorem dX1_way_21 : decode cX1_way 21 = .ok (.sipush 1000, 3) := by decide +kernel
theorem dX1_way_24 : decode cX1_way 24 = .ok (.idiv, 1) := by decide +kernel
theorem dX1_way_25 : decode cX1_way 25 = .ok (.iload_n 1, 1) := by decide +kernel
theorem dX1_way_26 : decode cX1_way 26 = .ok (.bipush 10, 2) := by decide +kernel
theorem dX1_way_28 : decode cX1_way 28 = .ok (.irem, 1) := by decide +kernel
theorem dX1_way_29 : decode cX1_way 29 = .ok (.if_icmp .eq 5, 3) := by decide +kernel
theorem dX1_way_32 : decode cX1_way 32 = .ok (.iconst 2, 1) := by decide +kernel
theorem dX1_way_33 : decode cX1_way 33 = .ok (.ireturn, 1) := by decide +kernel
theorem dX1_way_34 : decode cX1_way 34 = .ok (.iload_n 1, 1) := by decide +kernel
theorem dX1_way_35 : decode cX1_way 35 = .ok (.bipush 9, 2) := by decide +kernel
theorem dX1_way_37 : decode cX1_way 37 = .ok (.if_icmp .le 14, 3) := by decide +kernel
theorem dX1_way_40 : decode cX1_way 40 = .ok (.aload_n 0, 1) := by decide +kernel
theorem dX1_way_41 : decode cX1_way 41 = .ok (.getfield 33, 3) := by decide +kernel
theorem dX1_way_44 : decode cX1_way 44 = .ok (.ifCond .ne 7, 3) := by decide +kernel
theorem dX1_way_47 : decode cX1_way 47 = .ok (.iconst 3, 1) := by decide +kernel
theorem dX1_way_48 : decode cX1_way 48 = .ok (.goto 17, 3) := by decide +kernel
theorem dX1_way_51 : decode cX1_way 51 = .ok (.aload_n 0, 1) := by decide +kernel
theorem dX1_way_52 : decode cX1_way 52 = .ok (.getfield 16, 3) := by decide +kernel
theorem dX1_way_55 : decode cX1_way 55 = .ok (.iload_n 1, 1) := by decide +kernel
theorem dX1_way_56 : decode cX1_way 56 = .ok (.iaload, 1) := by decide +kernel
theorem dX1_way_57 : decode cX1_way 57 = .ok (.ifCond .le 7, 3) := by decide +kernel
theorem dX1_way_60 : decode cX1_way 60 = .ok (.iconst 4, 1) := by decide +kernel
theorem dX1_way_61 : decode cX1_way 61 = .ok (.goto 4, 3) := by decide +kernel
theorem dX1_way_64 : decode cX1_way 64 = .ok (.iconst 0, 1) := by decide +kernel
theorem dX1_way_65 : decode cX1_way 65 = .ok (.ireturn, 1) := by decide +kernel
theorem dX1_told_0 : decode cX1_told 0 = .ok (.iload_n 1, 1) := by decide +kernel
theorem dX1_told_1 : decode cX1_told 1 = .ok (.ifCond .le 40, 3) := by decide +kernel
theorem dX1_told_4 : decode cX1_told 4 = .ok (.iload_n 1, 1) := by decide +kernel
theorem dX1_told_5 : decode cX1_told 5 = .ok (.iconst 1, 1) := by decide +kernel
theorem dX1_told_6 : decode cX1_told 6 = .ok (.if_icmp .ne 9, 3) := by decide +kernel
theorem dX1_told_9 : decode cX1_told 9 = .ok (.ldc2_w 41, 3) := by decide +kernel
theorem dX1_told_12 : decode cX1_told 12 = .ok (.goto 28, 3) := by decide +kernel
theorem dX1_told_15 : decode cX1_told 15 = .ok (.iload_n 1, 1) := by decide +kernel
theorem dX1_told_16 : decode cX1_told 16 = .ok (.iconst 2, 1) := by decide +kernel
theorem dX1_told_17 : decode cX1_told 17 = .ok (.if_icmp .ne 9, 3) := by decide +kernel
theorem dX1_told_20 : decode cX1_told 20 = .ok (.ldc2_w 43, 3) := by decide +kernel
theorem dX1_told_23 : decode cX1_told 23 = .ok (.goto 17, 3) := by decide +kernel
theorem dX1_told_26 : decode cX1_told 26 = .ok (.iload_n 1, 1) := by decide +kernel
theorem dX1_told_27 : decode cX1_told 27 = .ok (.iconst 3, 1) := by decide +kernel
theorem dX1_told_28 : decode cX1_told 28 = .ok (.if_icmp .ne 9, 3) := by decide +kernel
theorem dX1_told_31 : decode cX1_told 31 = .ok (.ldc2_w 45, 3) := by decide +kernel
theorem dX1_told_34 : decode cX1_told 34 = .ok (.goto 6, 3) := by decide +kernel
theorem dX1_told_37 : decode cX1_told 37 = .ok (.ldc2_w 47, 3) := by decide +kernel
theorem dX1_told_40 : decode cX1_told 40 = .ok (.lreturn, 1) := by decide +kernel
theorem dX1_told_41 : decode cX1_told 41 = .ok (.lconst 0, 1) := by decide +kernel
theorem dX1_told_42 : decode cX1_told 42 = .ok (.lstore 5, 2) := by decide +kernel
theorem dX1_told_44 : decode cX1_told 44 = .ok (.iconst 0, 1) := by decide +kernel
theorem dX1_told_45 : decode cX1_told 45 = .ok (.istore 7, 2) := by decide +kernel
theorem dX1_told_47 : decode cX1_told 47 = .ok (.iload 7, 2) := by decide +kernel
theorem dX1_told_49 : decode cX1_told 49 = .ok (.aload_n 0, 1) := by decide +kernel
theorem dX1_told_50 : decode cX1_told 50 = .ok (.getfield 33, 3) := by decide +kernel
theorem dX1_told_53 : decode cX1_told 53 = .ok (.if_icmp .ge 25, 3) := by decide +kernel
theorem dX1_told_56 : decode cX1_told 56 = .ok (.ldc2_w 49, 3) := by decide +kernel
theorem dX1_told_59 : decode cX1_told 59 = .ok (.lload 5, 2) := by decide +kernel
theorem dX1_told_61 : decode cX1_told 61 = .ok (.lmul, 1) := by decide +kernel
theorem dX1_told_62 : decode cX1_told 62 = .ok (.aload_n 0, 1) := by decide +kernel
theorem dX1_told_63 : decode cX1_told 63 = .ok (.getfield 7, 3) := by decide +kernel
theorem dX1_told_66 : decode cX1_told 66 = .ok (.iload 7, 2) := by decide +kernel
theorem dX1_told_68 : decode cX1_told 68 = .ok (.laload, 1) := by decide +kernel
theorem dX1_told_69 : decode cX1_told 69 = .ok (.ladd, 1) := by decide +kernel
theorem dX1_told_70 : decode cX1_told 70 = .ok (.lstore 5, 2) := by decide +kernel
theorem dX1_told_72 : decode cX1_told 72 = .ok (.iinc 7 1, 3) := by decide +kernel
theorem dX1_told_75 : decode cX1_told 75 = .ok (.goto (-28), 3) := by decide +kernel
theorem dX1_told_78 : decode cX1_told 78 = .ok (.aload_n 0, 1) := by decide +kernel
theorem dX1_told_79 : decode cX1_told 79 = .ok (.getfield 13, 3) := by decide +kernel
theorem dX1_told_82 : decode cX1_told 82 = .ok (.iload_n 2, 1) := by decide +kernel
theorem dX1_told_83 : decode cX1_told 83 = .ok (.laload, 1) := by decide +kernel
theorem dX1_told_84 : decode cX1_told 84 = .ok (.lload_n 3, 1) := by decide +kernel
theorem dX1_told_85 : decode cX1_told 85 = .ok (.ladd, 1) := by decide +kernel
theorem dX1_told_86 : decode cX1_told 86 = .ok (.lload 5, 2) := by decide +kernel
theorem dX1_told_88 : decode cX1_told 88 = .ok (.ladd, 1) := by decide +kernel
theorem dX1_told_89 : decode cX1_told 89 = .ok (.lreturn, 1) := by decide +kernel
theorem dX1_logBehind_0 : decode cX1_logBehind 0 = .ok (.iload_n 1, 1) := by decide +kernel
theorem dX1_logBehind_1 : decode cX1_logBehind 1 = .ok (.iconst 1, 1) := by decide +kernel
theorem dX1_logBehind_2 : decode cX1_logBehind 2 = .ok (.if_icmp .ne 8, 3) := by decide +kernel
theorem dX1_logBehind_5 : decode cX1_logBehind 5 = .ok (.aload_n 0, 1) := by decide +kernel
theorem dX1_logBehind_6 : decode cX1_logBehind 6 = .ok (.getfield 29, 3) := by decide +kernel
theorem dX1_logBehind_9 : decode cX1_logBehind 9 = .ok (.lreturn, 1) := by decide +kernel
theorem dX1_logBehind_10 : decode cX1_logBehind 10 = .ok (.ldc2_w 51, 3) := by decide +kernel
theorem dX1_logBehind_13 : decode cX1_logBehind 13 = .ok (.aload_n 0, 1) := by decide +kernel
theorem dX1_logBehind_14 : decode cX1_logBehind 14 = .ok (.getfield 29, 3) := by decide +kernel
theorem dX1_logBehind_17 : decode cX1_logBehind 17 = .ok (.lmul, 1) := by decide +kernel
theorem dX1_logBehind_18 : decode cX1_logBehind 18 = .ok (.ldc2_w 53, 3) := by decide +kernel
theorem dX1_logBehind_21 : decode cX1_logBehind 21 = .ok (.iload_n 3, 1) := by decide +kernel
theorem dX1_logBehind_22 : decode cX1_logBehind 22 = .ok (.i2l, 1) := by decide +kernel
theorem dX1_logBehind_23 : decode cX1_logBehind 23 = .ok (.lmul, 1) := by decide +kernel
theorem dX1_logBehind_24 : decode cX1_logBehind 24 = .ok (.ladd, 1) := by decide +kernel
theorem dX1_logBehind_25 : decode cX1_logBehind 25 = .ok (.iload_n 2, 1) := by decide +kernel
theorem dX1_logBehind_26 : decode cX1_logBehind 26 = .ok (.i2l, 1) := by decide +kernel
theorem dX1_logBehind_27 : decode cX1_logBehind 27 = .ok (.ladd, 1) := by decide +kernel
theorem dX1_logBehind_28 : decode cX1_logBehind 28 = .ok (.lstore 6, 2) := by decide +kernel
theorem dX1_logBehind_30 : decode cX1_logBehind 30 = .ok (.iload_n 1, 1) := by decide +kernel
theorem dX1_logBehind_31 : decode cX1_logBehind 31 = .ok (.ifCond .ne 15, 3) := by decide +kernel
theorem dX1_logBehind_34 : decode cX1_logBehind 34 = .ok (.ldc2_w 55, 3) := by decide +kernel
theorem dX1_logBehind_37 : decode cX1_logBehind 37 = .ok (.lload 6, 2) := by decide +kernel
theorem dX1_logBehind_39 : decode cX1_logBehind 39 = .ok (.lmul, 1) := by decide +kernel
theorem dX1_logBehind_40 : decode cX1_logBehind 40 = .ok (.lload 4, 2) := by decide +kernel
theorem dX1_logBehind_42 : decode cX1_logBehind 42 = .ok (.ladd, 1) := by decide +kernel
theorem dX1_logBehind_43 : decode cX1_logBehind 43 = .ok (.goto 35, 3) := by decide +kernel
theorem dX1_logBehind_46 : decode cX1_logBehind 46 = .ok (.iload_n 1, 1) := by decide +kernel
theorem dX1_logBehind_47 : decode cX1_logBehind 47 = .ok (.iconst 4, 1) := by decide +kernel
theorem dX1_logBehind_48 : decode cX1_logBehind 48 = .ok (.if_icmp .ne 22, 3) := by decide +kernel
theorem dX1_logBehind_51 : decode cX1_logBehind 51 = .ok (.ldc2_w 55, 3) := by decide +kernel
theorem dX1_logBehind_54 : decode cX1_logBehind 54 = .ok (.lload 6, 2) := by decide +kernel
theorem dX1_logBehind_56 : decode cX1_logBehind 56 = .ok (.lmul, 1) := by decide +kernel
theorem dX1_logBehind_57 : decode cX1_logBehind 57 = .ok (.lconst 1, 1) := by decide +kernel
theorem dX1_logBehind_58 : decode cX1_logBehind 58 = .ok (.lsub, 1) := by decide +kernel
theorem dX1_logBehind_59 : decode cX1_logBehind 59 = .ok (.aload_n 0, 1) := by decide +kernel
theorem dX1_logBehind_60 : decode cX1_logBehind 60 = .ok (.getfield 16, 3) := by decide +kernel
theorem dX1_logBehind_63 : decode cX1_logBehind 63 = .ok (.iload_n 2, 1) := by decide +kernel
theorem dX1_logBehind_64 : decode cX1_logBehind 64 = .ok (.iaload, 1) := by decide +kernel
theorem dX1_logBehind_65 : decode cX1_logBehind 65 = .ok (.i2l, 1) := by decide +kernel
theorem dX1_logBehind_66 : decode cX1_logBehind 66 = .ok (.lsub, 1) := by decide +kernel
theorem dX1_logBehind_67 : decode cX1_logBehind 67 = .ok (.goto 11, 3) := by decide +kernel
theorem dX1_logBehind_70 : decode cX1_logBehind 70 = .ok (.ldc2_w 55, 3) := by decide +kernel
theorem dX1_logBehind_73 : decode cX1_logBehind 73 = .ok (.lload 6, 2) := by decide +kernel
theorem dX1_logBehind_75 : decode cX1_logBehind 75 = .ok (.lmul, 1) := by decide +kernel
theorem dX1_logBehind_76 : decode cX1_logBehind 76 = .ok (.lconst 1, 1) := by decide +kernel
theorem dX1_logBehind_77 : decode cX1_logBehind 77 = .ok (.lsub, 1) := by decide +kernel
theorem dX1_logBehind_78 : decode cX1_logBehind 78 = .ok (.lreturn, 1) := by decide +kernel
theorem dX1_call_0 : decode cX1_call 0 = .ok (.aload_n 0, 1) := by decide +kernel
theorem dX1_call_1 : decode cX1_call 1 = .ok (.iload_n 1, 1) := by decide +kernel
theorem dX1_call_2 : decode cX1_call 2 = .ok (.iload_n 2, 1) := by decide +kernel
theorem dX1_call_3 : decode cX1_call 3 = .ok (.invokevirtual 57, 3) := by decide +kernel
theorem dX1_call_6 : decode cX1_call 6 = .ok (.istore 5, 2) := by decide +kernel
theorem dX1_call_8 : decode cX1_call 8 = .ok (.aload_n 0, 1) := by decide +kernel
theorem dX1_call_9 : decode cX1_call 9 = .ok (.iload 5, 2) := by decide +kernel
theorem dX1_call_11 : decode cX1_call 11 = .ok (.iload_n 1, 1) := by decide +kernel
theorem dX1_call_12 : decode cX1_call 12 = .ok (.lload_n 3, 1) := by decide +kernel
theorem dX1_call_13 : decode cX1_call 13 = .ok (.invokevirtual 61, 3) := by decide +kernel
theorem dX1_call_16 : decode cX1_call 16 = .ok (.lstore 6, 2) := by decide +kernel
theorem dX1_call_18 : decode cX1_call 18 = .ok (.aload_n 0, 1) := by decide +kernel
theorem dX1_call_19 : decode cX1_call 19 = .ok (.aload_n 0, 1) := by decide +kernel
theorem dX1_call_20 : decode cX1_call 20 = .ok (.iload 5, 2) := by decide +kernel
theorem dX1_call_22 : decode cX1_call 22 = .ok (.iload_n 1, 1) := by decide +kernel
theorem dX1_call_23 : decode cX1_call 23 = .ok (.iload_n 2, 1) := by decide +kernel
theorem dX1_call_24 : decode cX1_call 24 = .ok (.lload 6, 2) := by decide +kernel
theorem dX1_call_26 : decode cX1_call 26 = .ok (.invokevirtual 65, 3) := by decide +kernel
theorem dX1_call_29 : decode cX1_call 29 = .ok (.putfield 29, 3) := by decide +kernel
theorem dX1_call_32 : decode cX1_call 32 = .ok (.iload 5, 2) := by decide +kernel
theorem dX1_call_34 : decode cX1_call 34 = .ok (.ifCond .ne 21, 3) := by decide +kernel
theorem dX1_call_37 : decode cX1_call 37 = .ok (.aload_n 0, 1) := by decide +kernel
theorem dX1_call_38 : decode cX1_call 38 = .ok (.dup, 1) := by decide +kernel
theorem dX1_call_39 : decode cX1_call 39 = .ok (.getfield 69, 3) := by decide +kernel
theorem dX1_call_42 : decode cX1_call 42 = .ok (.lconst 1, 1) := by decide +kernel
theorem dX1_call_43 : decode cX1_call 43 = .ok (.ladd, 1) := by decide +kernel
theorem dX1_call_44 : decode cX1_call 44 = .ok (.putfield 69, 3) := by decide +kernel
theorem dX1_call_47 : decode cX1_call 47 = .ok (.aload_n 0, 1) := by decide +kernel
theorem dX1_call_48 : decode cX1_call 48 = .ok (.iconst 0, 1) := by decide +kernel
theorem dX1_call_49 : decode cX1_call 49 = .ok (.putfield 33, 3) := by decide +kernel
theorem dX1_call_52 : decode cX1_call 52 = .ok (.goto 58, 3) := by decide +kernel
theorem dX1_call_55 : decode cX1_call 55 = .ok (.iload 5, 2) := by decide +kernel
theorem dX1_call_57 : decode cX1_call 57 = .ok (.iconst 4, 1) := by decide +kernel
theorem dX1_call_58 : decode cX1_call 58 = .ok (.if_icmp .ne 36, 3) := by decide +kernel
theorem dX1_call_61 : decode cX1_call 61 = .ok (.aload_n 0, 1) := by decide +kernel
theorem dX1_call_62 : decode cX1_call 62 = .ok (.dup, 1) := by decide +kernel
theorem dX1_call_63 : decode cX1_call 63 = .ok (.getfield 72, 3) := by decide +kernel
theorem dX1_call_66 : decode cX1_call 66 = .ok (.lconst 1, 1) := by decide +kernel
theorem dX1_call_67 : decode cX1_call 67 = .ok (.ladd, 1) := by decide +kernel
theorem dX1_call_68 : decode cX1_call 68 = .ok (.putfield 72, 3) := by decide +kernel
theorem dX1_call_71 : decode cX1_call 71 = .ok (.aload_n 0, 1) := by decide +kernel
theorem dX1_call_72 : decode cX1_call 72 = .ok (.aload_n 0, 1) := by decide +kernel
theorem dX1_call_73 : decode cX1_call 73 = .ok (.getfield 16, 3) := by decide +kernel
theorem dX1_call_76 : decode cX1_call 76 = .ok (.iload_n 1, 1) := by decide +kernel
theorem dX1_call_77 : decode cX1_call 77 = .ok (.iaload, 1) := by decide +kernel
theorem dX1_call_78 : decode cX1_call 78 = .ok (.putfield 75, 3) := by decide +kernel
theorem dX1_call_81 : decode cX1_call 81 = .ok (.aload_n 0, 1) := by decide +kernel
theorem dX1_call_82 : decode cX1_call 82 = .ok (.iload_n 2, 1) := by decide +kernel
theorem dX1_call_83 : decode cX1_call 83 = .ok (.putfield 78, 3) := by decide +kernel
theorem dX1_call_86 : decode cX1_call 86 = .ok (.aload_n 0, 1) := by decide +kernel
theorem dX1_call_87 : decode cX1_call 87 = .ok (.iload_n 1, 1) := by decide +kernel
theorem dX1_call_88 : decode cX1_call 88 = .ok (.putfield 81, 3) := by decide +kernel
theorem dX1_call_91 : decode cX1_call 91 = .ok (.goto 19, 3) := by decide +kernel
theorem dX1_call_94 : decode cX1_call 94 = .ok (.iload 5, 2) := by decide +kernel
theorem dX1_call_96 : decode cX1_call 96 = .ok (.iconst 1, 1) := by decide +kernel
theorem dX1_call_97 : decode cX1_call 97 = .ok (.if_icmp .le 13, 3) := by decide +kernel
theorem dX1_call_100 : decode cX1_call 100 = .ok (.aload_n 0, 1) := by decide +kernel
theorem dX1_call_101 : decode cX1_call 101 = .ok (.dup, 1) := by decide +kernel
theorem dX1_call_102 : decode cX1_call 102 = .ok (.getfield 84, 3) := by decide +kernel
theorem dX1_call_105 : decode cX1_call 105 = .ok (.lconst 1, 1) := by decide +kernel
theorem dX1_call_106 : decode cX1_call 106 = .ok (.ladd, 1) := by decide +kernel
theorem dX1_call_107 : decode cX1_call 107 = .ok (.putfield 84, 3) := by decide +kernel
theorem dX1_call_110 : decode cX1_call 110 = .ok (.lload 6, 2) := by decide +kernel
theorem dX1_call_112 : decode cX1_call 112 = .ok (.lreturn, 1) := by decide +kernel
theorem dX1_again_0 : decode cX1_again 0 = .ok (.aload_n 0, 1) := by decide +kernel
theorem dX1_again_1 : decode cX1_again 1 = .ok (.aload_n 0, 1) := by decide +kernel
theorem dX1_again_2 : decode cX1_again 2 = .ok (.iload_n 1, 1) := by decide +kernel
theorem dX1_again_3 : decode cX1_again 3 = .ok (.iload_n 2, 1) := by decide +kernel
theorem dX1_again_4 : decode cX1_again 4 = .ok (.invokevirtual 57, 3) := by decide +kernel
theorem dX1_again_7 : decode cX1_again 7 = .ok (.iload_n 1, 1) := by decide +kernel
theorem dX1_again_8 : decode cX1_again 8 = .ok (.lload_n 3, 1) := by decide +kernel
theorem dX1_again_9 : decode cX1_again 9 = .ok (.invokevirtual 61, 3) := by decide +kernel
theorem dX1_again_12 : decode cX1_again 12 = .ok (.lreturn, 1) := by decide +kernel
abbrev cX1_log : ByteArray := prog_3_method_15_code
def yX1_log : MethodName := ⟨RX1, "log", "(IIJ)J"⟩
abbrev cX1_tell : ByteArray := prog_3_method_16_code
def yX1_tell : MethodName := ⟨RX1, "told", "(I)J"⟩
def wsX1_log_c : List Cond := [.methodLink RX1 57 yX1_way, .instanceMethod yX1_way, .selects RX1 yX1_way yX1_way, .initialized RX1, .methodLink RX1 61 yX1_told, .instanceMethod yX1_told, .selects RX1 yX1_told yX1_told, .methodLink RX1 65 yX1_logBehind, .instanceMethod yX1_logBehind, .selects RX1 yX1_logBehind yX1_logBehind]
def wsX1_log : List Cond := .code yX1_log cX1_log 6 (some .long) :: (wsX1_log_c ++ (wsX1_way ++ (wsX1_told ++ wsX1_logBehind)))
def wsX1_tell : List Cond := .code yX1_tell cX1_tell 2 (some .long) :: ([.fieldLink RX1 69 "PostDesk2Model" "answered" "J", .fieldLink RX1 84 "PostDesk2Model" "refused" "J", .fieldLink RX1 72 "PostDesk2Model" "failed" "J", .fieldLink RX1 75 "PostDesk2Model" "kindOf" "I", .fieldLink RX1 78 "PostDesk2Model" "numberOf" "I", .fieldLink RX1 81 "PostDesk2Model" "callOf" "I", .fieldLink RX1 33 "PostDesk2Model" "many" "I", .fieldLink RX1 29 "PostDesk2Model" "log" "J"] ++ wsX10)
theorem gX1_log_h1 : GoodIn wsX1_log [.methodLink RX1 57 yX1_way, .instanceMethod yX1_way, .selects RX1 yX1_way yX1_way, .initialized RX1] := goodIn_sub (fun _ h => List.mem_cons_of_mem _ (List.mem_append_left _ (List.mem_of_mem_take (i := 4) h))) (by decide +kernel)
theorem gX1_log_h2 : GoodIn wsX1_log [.methodLink RX1 61 yX1_told, .instanceMethod yX1_told, .selects RX1 yX1_told yX1_told, .initialized RX1] := goodIn_sub (fun _ h => List.mem_cons_of_mem _ (List.mem_append_left _ (by simp only [wsX1_log_c, List.mem_cons, List.not_mem_nil, or_false] at h ⊢; rcases h with h | h | h | h <;> simp only [h, true_or, or_true]))) (by decide +kernel)
theorem gX1_log_h3 : GoodIn wsX1_log [.methodLink RX1 65 yX1_logBehind, .instanceMethod yX1_logBehind, .selects RX1 yX1_logBehind yX1_logBehind, .initialized RX1] := goodIn_sub (fun _ h => List.mem_cons_of_mem _ (List.mem_append_left _ (by simp only [wsX1_log_c, List.mem_cons, List.not_mem_nil, or_false] at h ⊢; rcases h with h | h | h | h <;> simp only [h, true_or, or_true]))) (by decide +kernel)
theorem gX1_log_X1_way : GoodIn wsX1_log (wsV RX1 57 RX1 yX1_way wsX1_way) := goodIn_app gX1_log_h1 (fun w h => ⟨List.mem_cons_of_mem _ (List.mem_append_right _ (List.mem_append_left _ h)), (ggX1_again_X1_way w h).2⟩)
theorem gX1_log_X1_told : GoodIn wsX1_log (wsV RX1 61 RX1 yX1_told wsX1_told) := goodIn_app gX1_log_h2 (fun w h => ⟨List.mem_cons_of_mem _ (List.mem_append_right _ (List.mem_append_right _ (List.mem_append_left _ h))), (ggX1_again_X1_told w h).2⟩)
theorem gX1_log_X1_logBehind : GoodIn wsX1_log (wsV RX1 65 RX1 yX1_logBehind wsX1_logBehind) := goodIn_app gX1_log_h3 (fun w h => ⟨List.mem_cons_of_mem _ (List.mem_append_right _ (List.mem_append_right _ (List.mem_append_right _ h))), (ggX1_call_X1_logBehind w h).2⟩)
set_option maxRecDepth 20000 in
theorem gT_law_X1_log : GoodIn lw_tbl (wsV RL 65 RX1 yX1_log wsX1_log) := goodIn_p _ [250, 226, 209, 230, 239] (by decide +kernel) (by decide +kernel)
set_option maxRecDepth 20000 in
theorem gT_law_X1_tell : GoodIn lw_tbl (wsV RL 44 RX1 yX1_tell wsX1_tell) := goodIn_p _ [254] (by decide +kernel) (by decide +kernel)
theorem dX1_log_0 : decode cX1_log 0 = .ok (.aload_n 0, 1) := by decide +kernel
theorem dX1_log_1 : decode cX1_log 1 = .ok (.iload_n 1, 1) := by decide +kernel
theorem dX1_log_2 : decode cX1_log 2 = .ok (.iload_n 2, 1) := by decide +kernel
theorem dX1_log_3 : decode cX1_log 3 = .ok (.invokevirtual 57, 3) := by decide +kernel
theorem dX1_log_6 : decode cX1_log 6 = .ok (.istore 5, 2) := by decide +kernel
theorem dX1_log_8 : decode cX1_log 8 = .ok (.aload_n 0, 1) := by decide +kernel
theorem dX1_log_9 : decode cX1_log 9 = .ok (.iload 5, 2) := by decide +kernel
theorem dX1_log_11 : decode cX1_log 11 = .ok (.iload_n 1, 1) := by decide +kernel
theorem dX1_log_12 : decode cX1_log 12 = .ok (.iload_n 2, 1) := by decide +kernel
theorem dX1_log_13 : decode cX1_log 13 = .ok (.aload_n 0, 1) := by decide +kernel
theorem dX1_log_14 : decode cX1_log 14 = .ok (.iload 5, 2) := by decide +kernel
theorem dX1_log_16 : decode cX1_log 16 = .ok (.iload_n 1, 1) := by decide +kernel
theorem dX1_log_17 : decode cX1_log 17 = .ok (.lload_n 3, 1) := by decide +kernel
theorem dX1_log_18 : decode cX1_log 18 = .ok (.invokevirtual 61, 3) := by decide +kernel
theorem dX1_log_21 : decode cX1_log 21 = .ok (.invokevirtual 65, 3) := by decide +kernel
theorem dX1_log_24 : decode cX1_log 24 = .ok (.lreturn, 1) := by decide +kernel
theorem dX1_tell_0 : decode cX1_tell 0 = .ok (.iload_n 1, 1) := by decide +kernel
theorem dX1_tell_1 : decode cX1_tell 1 = .ok (.tableswitch 91 0 7 #[47, 52, 57, 62, 68, 74, 80, 86], 47) := by decide +kernel
theorem dX1_tell_48 : decode cX1_tell 48 = .ok (.aload_n 0, 1) := by decide +kernel
theorem dX1_tell_49 : decode cX1_tell 49 = .ok (.getfield 69, 3) := by decide +kernel
theorem dX1_tell_52 : decode cX1_tell 52 = .ok (.lreturn, 1) := by decide +kernel
theorem dX1_tell_53 : decode cX1_tell 53 = .ok (.aload_n 0, 1) := by decide +kernel
theorem dX1_tell_54 : decode cX1_tell 54 = .ok (.getfield 84, 3) := by decide +kernel
theorem dX1_tell_57 : decode cX1_tell 57 = .ok (.lreturn, 1) := by decide +kernel
theorem dX1_tell_58 : decode cX1_tell 58 = .ok (.aload_n 0, 1) := by decide +kernel
theorem dX1_tell_59 : decode cX1_tell 59 = .ok (.getfield 72, 3) := by decide +kernel
theorem dX1_tell_62 : decode cX1_tell 62 = .ok (.lreturn, 1) := by decide +kernel
theorem dX1_tell_63 : decode cX1_tell 63 = .ok (.aload_n 0, 1) := by decide +kernel
theorem dX1_tell_64 : decode cX1_tell 64 = .ok (.getfield 75, 3) := by decide +kernel
theorem dX1_tell_67 : decode cX1_tell 67 = .ok (.i2l, 1) := by decide +kernel
theorem dX1_tell_68 : decode cX1_tell 68 = .ok (.lreturn, 1) := by decide +kernel
theorem dX1_tell_69 : decode cX1_tell 69 = .ok (.aload_n 0, 1) := by decide +kernel
theorem dX1_tell_70 : decode cX1_tell 70 = .ok (.getfield 78, 3) := by decide +kernel
theorem dX1_tell_73 : decode cX1_tell 73 = .ok (.i2l, 1) := by decide +kernel
theorem dX1_tell_74 : decode cX1_tell 74 = .ok (.lreturn, 1) := by decide +kernel
theorem dX1_tell_75 : decode cX1_tell 75 = .ok (.aload_n 0, 1) := by decide +kernel
theorem dX1_tell_76 : decode cX1_tell 76 = .ok (.getfield 81, 3) := by decide +kernel
theorem dX1_tell_79 : decode cX1_tell 79 = .ok (.i2l, 1) := by decide +kernel
theorem dX1_tell_80 : decode cX1_tell 80 = .ok (.lreturn, 1) := by decide +kernel
theorem dX1_tell_81 : decode cX1_tell 81 = .ok (.aload_n 0, 1) := by decide +kernel
theorem dX1_tell_82 : decode cX1_tell 82 = .ok (.getfield 33, 3) := by decide +kernel
theorem dX1_tell_85 : decode cX1_tell 85 = .ok (.i2l, 1) := by decide +kernel
theorem dX1_tell_86 : decode cX1_tell 86 = .ok (.lreturn, 1) := by decide +kernel
theorem dX1_tell_87 : decode cX1_tell 87 = .ok (.aload_n 0, 1) := by decide +kernel
theorem dX1_tell_88 : decode cX1_tell 88 = .ok (.getfield 29, 3) := by decide +kernel
theorem dX1_tell_91 : decode cX1_tell 91 = .ok (.lreturn, 1) := by decide +kernel
theorem dX1_tell_92 : decode cX1_tell 92 = .ok (.lconst 0, 1) := by decide +kernel
theorem dX1_tell_93 : decode cX1_tell 93 = .ok (.lreturn, 1) := by decide +kernel
