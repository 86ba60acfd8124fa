theorem dX1_place_3 : decode cX1_place 3 = .ok (.imul, 1) := by decide +kernel
theorem dX1_place_4 : decode cX1_place 4 = .ok (.iload_n 1, 1) := by decide +kernel
theorem dX1_place_5 : decode cX1_place 5 = .ok (.iadd, 1) := by decide +kernel
theorem dX1_place_6 : decode cX1_place 6 = .ok (.iconst 4, 1) := by decide +kernel
theorem dX1_place_7 : decode cX1_place 7 = .ok (.iadd, 1) := by decide +kernel
theorem dX1_place_8 : decode cX1_place 8 = .ok (.ireturn, 1) := by decide +kernel
theorem dX1_exponent_0 : decode cX1_exponent 0 = .ok (.iload_n 0, 1) := by decide +kernel
theorem dX1_exponent_1 : decode cX1_exponent 1 = .ok (.iconst 4, 1) := by decide +kernel
theorem dX1_exponent_2 : decode cX1_exponent 2 = .ok (.if_icmp .ge 7, 3) := by decide +kernel
theorem dX1_exponent_5 : decode cX1_exponent 5 = .ok (.iconst 0, 1) := by decide +kernel
theorem dX1_exponent_6 : decode cX1_exponent 6 = .ok (.goto 19, 3) := by decide +kernel
theorem dX1_exponent_9 : decode cX1_exponent 9 = .ok (.iload_n 0, 1) := by decide +kernel
theorem dX1_exponent_10 : decode cX1_exponent 10 = .ok (.bipush 6, 2) := by decide +kernel
theorem dX1_exponent_12 : decode cX1_exponent 12 = .ok (.if_icmp .ge 10, 3) := by decide +kernel
theorem dX1_exponent_15 : decode cX1_exponent 15 = .ok (.iload_n 0, 1) := by decide +kernel
theorem dX1_exponent_16 : decode cX1_exponent 16 = .ok (.bipush 6, 2) := by decide +kernel
theorem dX1_exponent_18 : decode cX1_exponent 18 = .ok (.isub, 1) := by decide +kernel
theorem dX1_exponent_19 : decode cX1_exponent 19 = .ok (.goto 6, 3) := by decide +kernel
theorem dX1_exponent_22 : decode cX1_exponent 22 = .ok (.iload_n 0, 1) := by decide +kernel
theorem dX1_exponent_23 : decode cX1_exponent 23 = .ok (.iconst 5, 1) := by decide +kernel
theorem dX1_exponent_24 : decode cX1_exponent 24 = .ok (.isub, 1) := by decide +kernel
theorem dX1_exponent_25 : decode cX1_exponent 25 = .ok (.ireturn, 1) := by decide +kernel
theorem dX1_isThere_0 : decode cX1_isThere 0 = .ok (.iload_n 1, 1) := by decide +kernel
theorem dX1_isThere_1 : decode cX1_isThere 1 = .ok (.i2l, 1) := by decide +kernel
theorem dX1_isThere_2 : decode cX1_isThere 2 = .ok (.lconst 0, 1) := by decide +kernel
theorem dX1_isThere_3 : decode cX1_isThere 3 = .ok (.aload_n 0, 1) := by decide +kernel
theorem dX1_isThere_4 : decode cX1_isThere 4 = .ok (.getfield 39, 3) := by decide +kernel
theorem dX1_isThere_7 : decode cX1_isThere 7 = .ok (.iconst 1, 1) := by decide +kernel
theorem dX1_isThere_8 : decode cX1_isThere 8 = .ok (.isub, 1) := by decide +kernel
theorem dX1_isThere_9 : decode cX1_isThere 9 = .ok (.i2l, 1) := by decide +kernel
theorem dX1_isThere_10 : decode cX1_isThere 10 = .ok (.invokestatic 42, 3) := by decide +kernel
theorem dX1_isThere_13 : decode cX1_isThere 13 = .ok (.ireturn, 1) := by decide +kernel
theorem dX1_may_0 : decode cX1_may 0 = .ok (.aload_n 0, 1) := by decide +kernel
theorem dX1_may_1 : decode cX1_may 1 = .ok (.aload_n 0, 1) := by decide +kernel
theorem dX1_may_2 : decode cX1_may 2 = .ok (.iload_n 1, 1) := by decide +kernel
theorem dX1_may_3 : decode cX1_may 3 = .ok (.invokevirtual 46, 3) := by decide +kernel
theorem dX1_may_6 : decode cX1_may 6 = .ok (.ifCond .eq 11, 3) := by decide +kernel
theorem dX1_may_9 : decode cX1_may 9 = .ok (.aload_n 0, 1) := by decide +kernel
theorem dX1_may_10 : decode cX1_may 10 = .ok (.iload_n 2, 1) := by decide +kernel
theorem dX1_may_11 : decode cX1_may 11 = .ok (.invokevirtual 46, 3) := by decide +kernel
theorem dX1_may_14 : decode cX1_may 14 = .ok (.ifCond .ne 7, 3) := by decide +kernel
theorem dX1_may_17 : decode cX1_may 17 = .ok (.iconst 1, 1) := by decide +kernel
theorem dX1_may_18 : decode cX1_may 18 = .ok (.goto 17, 3) := by decide +kernel
theorem dX1_may_21 : decode cX1_may 21 = .ok (.aload_n 0, 1) := by decide +kernel
theorem dX1_may_22 : decode cX1_may 22 = .ok (.getfield 39, 3) := by decide +kernel
theorem dX1_may_25 : decode cX1_may 25 = .ok (.bipush 60, 2) := by decide +kernel
theorem dX1_may_27 : decode cX1_may 27 = .ok (.if_icmp .ne 7, 3) := by decide +kernel
theorem dX1_may_30 : decode cX1_may 30 = .ok (.iconst 2, 1) := by decide +kernel
theorem dX1_may_31 : decode cX1_may 31 = .ok (.goto 4, 3) := by decide +kernel
theorem dX1_may_34 : decode cX1_may 34 = .ok (.iconst 0, 1) := by decide +kernel
theorem dX1_may_35 : decode cX1_may 35 = .ok (.putfield 29, 3) := by decide +kernel
theorem dX1_may_38 : decode cX1_may 38 = .ok (.aload_n 0, 1) := by decide +kernel
theorem dX1_may_39 : decode cX1_may 39 = .ok (.getfield 29, 3) := by decide +kernel
theorem dX1_may_42 : decode cX1_may 42 = .ok (.ifCond .le 5, 3) := by decide +kernel
theorem dX1_may_45 : decode cX1_may 45 = .ok (.iconst 0, 1) := by decide +kernel
theorem dX1_may_46 : decode cX1_may 46 = .ok (.ireturn, 1) := by decide +kernel
theorem dX1_may_47 : decode cX1_may 47 = .ok (.aload_n 0, 1) := by decide +kernel
theorem dX1_may_48 : decode cX1_may 48 = .ok (.aload_n 0, 1) := by decide +kernel
theorem dX1_may_49 : decode cX1_may 49 = .ok (.getfield 17, 3) := by decide +kernel
theorem dX1_may_52 : decode cX1_may 52 = .ok (.iload_n 1, 1) := by decide +kernel
theorem dX1_may_53 : decode cX1_may 53 = .ok (.invokevirtual 50, 3) := by decide +kernel
theorem dX1_may_56 : decode cX1_may 56 = .ok (.aload_n 0, 1) := by decide +kernel
theorem dX1_may_57 : decode cX1_may 57 = .ok (.aload_n 0, 1) := by decide +kernel
theorem dX1_may_58 : decode cX1_may 58 = .ok (.getfield 20, 3) := by decide +kernel
theorem dX1_may_61 : decode cX1_may 61 = .ok (.iload_n 2, 1) := by decide +kernel
theorem dX1_may_62 : decode cX1_may 62 = .ok (.invokevirtual 50, 3) := by decide +kernel
theorem dX1_may_65 : decode cX1_may 65 = .ok (.iconst 1, 1) := by decide +kernel
theorem dX1_may_66 : decode cX1_may 66 = .ok (.ireturn, 1) := by decide +kernel
theorem dX1_load_0 : decode cX1_load 0 = .ok (.iconst 0, 1) := by decide +kernel
theorem dX1_load_1 : decode cX1_load 1 = .ok (.istore_n 3, 1) := by decide +kernel
theorem dX1_load_2 : decode cX1_load 2 = .ok (.iload_n 3, 1) := by decide +kernel
theorem dX1_load_3 : decode cX1_load 3 = .ok (.bipush 72, 2) := by decide +kernel
theorem dX1_load_5 : decode cX1_load 5 = .ok (.if_icmp .ge 24, 3) := by decide +kernel
theorem dX1_load_8 : decode cX1_load 8 = .ok (.aload_n 1, 1) := by decide +kernel
theorem dX1_load_9 : decode cX1_load 9 = .ok (.iload_n 3, 1) := by decide +kernel
theorem dX1_load_10 : decode cX1_load 10 = .ok (.aload_n 0, 1) := by decide +kernel
theorem dX1_load_11 : decode cX1_load 11 = .ok (.getfield 7, 3) := by decide +kernel
theorem dX1_load_14 : decode cX1_load 14 = .ok (.bipush 72, 2) := by decide +kernel
theorem dX1_load_16 : decode cX1_load 16 = .ok (.iload_n 2, 1) := by decide +kernel
theorem dX1_load_17 : decode cX1_load 17 = .ok (.imul, 1) := by decide +kernel
theorem dX1_load_18 : decode cX1_load 18 = .ok (.iload_n 3, 1) := by decide +kernel
theorem dX1_load_19 : decode cX1_load 19 = .ok (.iadd, 1) := by decide +kernel
theorem dX1_load_20 : decode cX1_load 20 = .ok (.iaload, 1) := by decide +kernel
theorem dX1_load_21 : decode cX1_load 21 = .ok (.i2l, 1) := by decide +kernel
theorem dX1_load_22 : decode cX1_load 22 = .ok (.lastore, 1) := by decide +kernel
theorem dX1_load_23 : decode cX1_load 23 = .ok (.iinc 3 1, 3) := by decide +kernel
theorem dX1_load_26 : decode cX1_load 26 = .ok (.goto (-24), 3) := by decide +kernel
theorem dX1_load_29 : decode cX1_load 29 = .ok (.return_, 1) := by decide +kernel
theorem dX1_keep_0 : decode cX1_keep 0 = .ok (.aload_n 0, 1) := by decide +kernel
theorem dX1_keep_1 : decode cX1_keep 1 = .ok (.iconst 0, 1) := by decide +kernel
theorem dX1_keep_2 : decode cX1_keep 2 = .ok (.putfield 29, 3) := by decide +kernel
theorem dX1_keep_5 : decode cX1_keep 5 = .ok (.iconst 0, 1) := by decide +kernel
theorem dX1_keep_6 : decode cX1_keep 6 = .ok (.istore_n 1, 1) := by decide +kernel
theorem dX1_keep_7 : decode cX1_keep 7 = .ok (.iload_n 1, 1) := by decide +kernel
theorem dX1_keep_8 : decode cX1_keep 8 = .ok (.bipush 72, 2) := by decide +kernel
theorem dX1_keep_10 : decode cX1_keep 10 = .ok (.if_icmp .ge 30, 3) := by decide +kernel
theorem dX1_keep_13 : decode cX1_keep 13 = .ok (.aload_n 0, 1) := by decide +kernel
theorem dX1_keep_14 : decode cX1_keep 14 = .ok (.getfield 7, 3) := by decide +kernel
theorem dX1_keep_17 : decode cX1_keep 17 = .ok (.bipush 72, 2) := by decide +kernel
theorem dX1_keep_19 : decode cX1_keep 19 = .ok (.aload_n 0, 1) := by decide +kernel
theorem dX1_keep_20 : decode cX1_keep 20 = .ok (.getfield 39, 3) := by decide +kernel
theorem dX1_keep_23 : decode cX1_keep 23 = .ok (.imul, 1) := by decide +kernel
theorem dX1_keep_24 : decode cX1_keep 24 = .ok (.iload_n 1, 1) := by decide +kernel
theorem dX1_keep_25 : decode cX1_keep 25 = .ok (.iadd, 1) := by decide +kernel
theorem dX1_keep_26 : decode cX1_keep 26 = .ok (.aload_n 0, 1) := by decide +kernel
theorem dX1_keep_27 : decode cX1_keep 27 = .ok (.getfield 13, 3) := by decide +kernel
theorem dX1_keep_30 : decode cX1_keep 30 = .ok (.iload_n 1, 1) := by decide +kernel
theorem dX1_keep_31 : decode cX1_keep 31 = .ok (.laload, 1) := by decide +kernel
theorem dX1_keep_32 : decode cX1_keep 32 = .ok (.l2i, 1) := by decide +kernel
theorem dX1_keep_33 : decode cX1_keep 33 = .ok (.iastore, 1) := by decide +kernel
theorem dX1_keep_34 : decode cX1_keep 34 = .ok (.iinc 1 1, 3) := by decide +kernel
theorem dX1_keep_37 : decode cX1_keep 37 = .ok (.goto (-30), 3) := by decide +kernel
theorem dX1_keep_40 : decode cX1_keep 40 = .ok (.aload_n 0, 1) := by decide +kernel
theorem dX1_keep_41 : decode cX1_keep 41 = .ok (.dup, 1) := by decide +kernel
theorem dX1_keep_42 : decode cX1_keep 42 = .ok (.getfield 39, 3) := by decide +kernel
theorem dX1_keep_45 : decode cX1_keep 45 = .ok (.iconst 1, 1) := by decide +kernel
theorem dX1_keep_46 : decode cX1_keep 46 = .ok (.iadd, 1) := by decide +kernel
theorem dX1_keep_47 : decode cX1_keep 47 = .ok (.putfield 39, 3) := by decide +kernel
theorem dX1_keep_50 : decode cX1_keep 50 = .ok (.aload_n 0, 1) := by decide +kernel
theorem dX1_keep_51 : decode cX1_keep 51 = .ok (.getfield 39, 3) := by decide +kernel
theorem dX1_keep_54 : decode cX1_keep 54 = .ok (.iconst 1, 1) := by decide +kernel
theorem dX1_keep_55 : decode cX1_keep 55 = .ok (.isub, 1) := by decide +kernel
theorem dX1_keep_56 : decode cX1_keep 56 = .ok (.ireturn, 1) := by decide +kernel
theorem dX1_term_0 : decode cX1_term 0 = .ok (.aload_n 0, 1) := by decide +kernel
theorem dX1_term_1 : decode cX1_term 1 = .ok (.iload_n 1, 1) := by decide +kernel
theorem dX1_term_2 : decode cX1_term 2 = .ok (.i2l, 1) := by decide +kernel
theorem dX1_term_3 : decode cX1_term 3 = .ok (.lconst 0, 1) := by decide +kernel
theorem dX1_term_4 : decode cX1_term 4 = .ok (.ldc2_w 54, 3) := by decide +kernel
theorem dX1_term_7 : decode cX1_term 7 = .ok (.invokestatic 42, 3) := by decide +kernel
theorem dX1_term_10 : decode cX1_term 10 = .ok (.ifCond .eq 17, 3) := by decide +kernel
theorem dX1_term_13 : decode cX1_term 13 = .ok (.iload_n 2, 1) := by decide +kernel
theorem dX1_term_14 : decode cX1_term 14 = .ok (.i2l, 1) := by decide +kernel
theorem dX1_term_15 : decode cX1_term 15 = .ok (.ldc2_w 56, 3) := by decide +kernel
theorem dX1_term_18 : decode cX1_term 18 = .ok (.ldc2_w 58, 3) := by decide +kernel
theorem dX1_term_21 : decode cX1_term 21 = .ok (.invokestatic 42, 3) := by decide +kernel
theorem dX1_term_24 : decode cX1_term 24 = .ok (.ifCond .ne 7, 3) := by decide +kernel
theorem dX1_term_27 : decode cX1_term 27 = .ok (.iconst 1, 1) := by decide +kernel
theorem dX1_term_28 : decode cX1_term 28 = .ok (.goto 17, 3) := by decide +kernel
theorem dX1_term_31 : decode cX1_term 31 = .ok (.aload_n 0, 1) := by decide +kernel
theorem dX1_term_32 : decode cX1_term 32 = .ok (.getfield 39, 3) := by decide +kernel
theorem dX1_term_35 : decode cX1_term 35 = .ok (.bipush 60, 2) := by decide +kernel
theorem dX1_term_37 : decode cX1_term 37 = .ok (.if_icmp .ne 7, 3) := by decide +kernel
theorem dX1_term_40 : decode cX1_term 40 = .ok (.iconst 2, 1) := by decide +kernel
theorem dX1_term_41 : decode cX1_term 41 = .ok (.goto 4, 3) := by decide +kernel
theorem dX1_term_44 : decode cX1_term 44 = .ok (.iconst 0, 1) := by decide +kernel
theorem dX1_term_45 : decode cX1_term 45 = .ok (.putfield 29, 3) := by decide +kernel
theorem dX1_term_48 : decode cX1_term 48 = .ok (.aload_n 0, 1) := by decide +kernel
theorem dX1_term_49 : decode cX1_term 49 = .ok (.getfield 29, 3) := by decide +kernel
theorem dX1_term_52 : decode cX1_term 52 = .ok (.ifCond .le 5, 3) := by decide +kernel
theorem dX1_term_55 : decode cX1_term 55 = .ok (.iconst 0, 1) := by decide +kernel
theorem dX1_term_56 : decode cX1_term 56 = .ok (.ireturn, 1) := by decide +kernel
theorem dX1_term_57 : decode cX1_term 57 = .ok (.iconst 0, 1) := by decide +kernel
theorem dX1_term_58 : decode cX1_term 58 = .ok (.istore 5, 2) := by decide +kernel
theorem dX1_term_60 : decode cX1_term 60 = .ok (.iload 5, 2) := by decide +kernel
theorem dX1_term_62 : decode cX1_term 62 = .ok (.bipush 72, 2) := by decide +kernel
theorem dX1_term_64 : decode cX1_term 64 = .ok (.if_icmp .ge 17, 3) := by decide +kernel
theorem dX1_term_67 : decode cX1_term 67 = .ok (.aload_n 0, 1) := by decide +kernel
theorem dX1_term_68 : decode cX1_term 68 = .ok (.getfield 13, 3) := by decide +kernel
theorem dX1_term_71 : decode cX1_term 71 = .ok (.iload 5, 2) := by decide +kernel
theorem dX1_term_73 : decode cX1_term 73 = .ok (.lconst 0, 1) := by decide +kernel
theorem dX1_term_74 : decode cX1_term 74 = .ok (.lastore, 1) := by decide +kernel
theorem dX1_term_75 : decode cX1_term 75 = .ok (.iinc 5 1, 3) := by decide +kernel
theorem dX1_term_78 : decode cX1_term 78 = .ok (.goto (-18), 3) := by decide +kernel
theorem dX1_term_81 : decode cX1_term 81 = .ok (.aload_n 0, 1) := by decide +kernel
theorem dX1_term_82 : decode cX1_term 82 = .ok (.getfield 13, 3) := by decide +kernel
theorem dX1_term_85 : decode cX1_term 85 = .ok (.iload_n 1, 1) := by decide +kernel
theorem dX1_term_86 : decode cX1_term 86 = .ok (.iload_n 2, 1) := by decide +kernel
theorem dX1_term_87 : decode cX1_term 87 = .ok (.invokestatic 60, 3) := by decide +kernel
theorem dX1_term_90 : decode cX1_term 90 = .ok (.lload_n 3, 1) := by decide +kernel
theorem dX1_term_91 : decode cX1_term 91 = .ok (.invokestatic 35, 3) := by decide +kernel
theorem dX1_term_94 : decode cX1_term 94 = .ok (.lastore, 1) := by decide +kernel
theorem dX1_term_95 : decode cX1_term 95 = .ok (.aload_n 0, 1) := by decide +kernel
theorem dX1_term_96 : decode cX1_term 96 = .ok (.invokevirtual 64, 3) := by decide +kernel
theorem dX1_term_99 : decode cX1_term 99 = .ok (.ireturn, 1) := by decide +kernel
theorem dX1_add_0 : decode cX1_add 0 = .ok (.aload_n 0, 1) := by decide +kernel
theorem dX1_add_1 : decode cX1_add 1 = .ok (.iload_n 1, 1) := by decide +kernel
theorem dX1_add_2 : decode cX1_add 2 = .ok (.iload_n 2, 1) := by decide +kernel
theorem dX1_add_3 : decode cX1_add 3 = .ok (.ldc2_w 68, 3) := by decide +kernel
theorem dX1_add_6 : decode cX1_add 6 = .ok (.invokevirtual 70, 3) := by decide +kernel
theorem dX1_add_9 : decode cX1_add 9 = .ok (.ireturn, 1) := by decide +kernel
theorem dX1_less_0 : decode cX1_less 0 = .ok (.aload_n 0, 1) := by decide +kernel
theorem dX1_less_1 : decode cX1_less 1 = .ok (.iload_n 1, 1) := by decide +kernel
theorem dX1_less_2 : decode cX1_less 2 = .ok (.iload_n 2, 1) := by decide +kernel
theorem dX1_less_3 : decode cX1_less 3 = .ok (.invokevirtual 74, 3) := by decide +kernel
theorem dX1_less_6 : decode cX1_less 6 = .ok (.ifCond .ne 5, 3) := by decide +kernel
theorem dX1_less_9 : decode cX1_less 9 = .ok (.iconst 0, 1) := by decide +kernel
theorem dX1_less_10 : decode cX1_less 10 = .ok (.ireturn, 1) := by decide +kernel
theorem dX1_less_11 : decode cX1_less 11 = .ok (.iconst 0, 1) := by decide +kernel
theorem dX1_less_12 : decode cX1_less 12 = .ok (.istore 5, 2) := by decide +kernel
theorem dX1_less_14 : decode cX1_less 14 = .ok (.iload 5, 2) := by decide +kernel
theorem dX1_less_16 : decode cX1_less 16 = .ok (.bipush 72, 2) := by decide +kernel
theorem dX1_less_18 : decode cX1_less 18 = .ok (.if_icmp .ge 39, 3) := by decide +kernel
theorem dX1_less_21 : decode cX1_less 21 = .ok (.aload_n 0, 1) := by decide +kernel
theorem dX1_less_22 : decode cX1_less 22 = .ok (.getfield 13, 3) := by decide +kernel
theorem dX1_less_25 : decode cX1_less 25 = .ok (.iload 5, 2) := by decide +kernel
theorem dX1_less_27 : decode cX1_less 27 = .ok (.aload_n 0, 1) := by decide +kernel
theorem dX1_less_28 : decode cX1_less 28 = .ok (.getfield 17, 3) := by decide +kernel
theorem dX1_less_31 : decode cX1_less 31 = .ok (.iload 5, 2) := by decide +kernel
theorem dX1_less_33 : decode cX1_less 33 = .ok (.laload, 1) := by decide +kernel
theorem dX1_less_34 : decode cX1_less 34 = .ok (.lload_n 3, 1) := by decide +kernel
theorem dX1_less_35 : decode cX1_less 35 = .ok (.invokestatic 35, 3) := by decide +kernel
theorem dX1_less_38 : decode cX1_less 38 = .ok (.aload_n 0, 1) := by decide +kernel
theorem dX1_less_39 : decode cX1_less 39 = .ok (.getfield 20, 3) := by decide +kernel
theorem dX1_less_42 : decode cX1_less 42 = .ok (.iload 5, 2) := by decide +kernel
theorem dX1_less_44 : decode cX1_less 44 = .ok (.laload, 1) := by decide +kernel
theorem dX1_less_45 : decode cX1_less 45 = .ok (.lmul, 1) := by decide +kernel
theorem dX1_less_46 : decode cX1_less 46 = .ok (.lsub, 1) := by decide +kernel
theorem dX1_less_47 : decode cX1_less 47 = .ok (.invokestatic 35, 3) := by decide +kernel
theorem dX1_less_50 : decode cX1_less 50 = .ok (.lastore, 1) := by decide +kernel
theorem dX1_less_51 : decode cX1_less 51 = .ok (.iinc 5 1, 3) := by decide +kernel
theorem dX1_less_54 : decode cX1_less 54 = .ok (.goto (-40), 3) := by decide +kernel
theorem dX1_less_57 : decode cX1_less 57 = .ok (.aload_n 0, 1) := by decide +kernel
theorem dX1_less_58 : decode cX1_less 58 = .ok (.invokevirtual 64, 3) := by decide +kernel
theorem dX1_less_61 : decode cX1_less 61 = .ok (.ireturn, 1) := by decide +kernel
theorem dX1_rowOf_0 : decode cX1_rowOf 0 = .ok (.iload_n 0, 1) := by decide +kernel
theorem dX1_rowOf_1 : decode cX1_rowOf 1 = .ok (.iconst 4, 1) := by decide +kernel
theorem dX1_rowOf_2 : decode cX1_rowOf 2 = .ok (.if_icmp .ge 7, 3) := by decide +kernel
theorem dX1_rowOf_5 : decode cX1_rowOf 5 = .ok (.iload_n 0, 1) := by decide +kernel
theorem dX1_rowOf_6 : decode cX1_rowOf 6 = .ok (.goto 10, 3) := by decide +kernel
theorem dX1_rowOf_9 : decode cX1_rowOf 9 = .ok (.bipush 11, 2) := by decide +kernel
theorem dX1_rowOf_11 : decode cX1_rowOf 11 = .ok (.iload_n 0, 1) := by decide +kernel
theorem dX1_rowOf_12 : decode cX1_rowOf 12 = .ok (.invokestatic 78, 3) := by decide +kernel
theorem dX1_rowOf_15 : decode cX1_rowOf 15 = .ok (.iadd, 1) := by decide +kernel
theorem dX1_rowOf_16 : decode cX1_rowOf 16 = .ok (.ireturn, 1) := by decide +kernel
theorem dX1_start_0 : decode cX1_start 0 = .ok (.iconst 0, 1) := by decide +kernel
theorem dX1_start_1 : decode cX1_start 1 = .ok (.istore_n 1, 1) := by decide +kernel
theorem dX1_start_2 : decode cX1_start 2 = .ok (.iload_n 1, 1) := by decide +kernel
theorem dX1_start_3 : decode cX1_start 3 = .ok (.sipush 304, 3) := by decide +kernel
theorem dX1_start_6 : decode cX1_start 6 = .ok (.if_icmp .ge 16, 3) := by decide +kernel
theorem dX1_start_9 : decode cX1_start 9 = .ok (.aload_n 0, 1) := by decide +kernel
theorem dX1_start_10 : decode cX1_start 10 = .ok (.getfield 23, 3) := by decide +kernel
theorem dX1_start_13 : decode cX1_start 13 = .ok (.iload_n 1, 1) := by decide +kernel
theorem dX1_start_14 : decode cX1_start 14 = .ok (.lconst 0, 1) := by decide +kernel
theorem dX1_start_15 : decode cX1_start 15 = .ok (.lastore, 1) := by decide +kernel
theorem dX1_start_16 : decode cX1_start 16 = .ok (.iinc 1 1, 3) := by decide +kernel
theorem dX1_start_19 : decode cX1_start 19 = .ok (.goto (-17), 3) := by decide +kernel
theorem dX1_start_22 : decode cX1_start 22 = .ok (.return_, 1) := by decide +kernel
theorem dX1_narrow_0 : decode cX1_narrow 0 = .ok (.iconst 0, 1) := by decide +kernel
theorem dX1_narrow_1 : decode cX1_narrow 1 = .ok (.istore_n 1, 1) := by decide +kernel
theorem dX1_narrow_2 : decode cX1_narrow 2 = .ok (.iload_n 1, 1) := by decide +kernel
theorem dX1_narrow_3 : decode cX1_narrow 3 = .ok (.bipush 19, 2) := by decide +kernel
theorem dX1_narrow_5 : decode cX1_narrow 5 = .ok (.if_icmp .ge 47, 3) := by decide +kernel
theorem dX1_narrow_8 : decode cX1_narrow 8 = .ok (.aload_n 0, 1) := by decide +kernel
theorem dX1_narrow_9 : decode cX1_narrow 9 = .ok (.getfield 23, 3) := by decide +kernel
theorem dX1_narrow_12 : decode cX1_narrow 12 = .ok (.iload_n 1, 1) := by decide +kernel
theorem dX1_narrow_13 : decode cX1_narrow 13 = .ok (.aload_n 0, 1) := by decide +kernel
theorem dX1_narrow_14 : decode cX1_narrow 14 = .ok (.getfield 23, 3) := by decide +kernel
theorem dX1_narrow_17 : decode cX1_narrow 17 = .ok (.iload_n 1, 1) := by decide +kernel
theorem dX1_narrow_18 : decode cX1_narrow 18 = .ok (.laload, 1) := by decide +kernel
theorem dX1_narrow_19 : decode cX1_narrow 19 = .ok (.aload_n 0, 1) := by decide +kernel
theorem dX1_narrow_20 : decode cX1_narrow 20 = .ok (.getfield 23, 3) := by decide +kernel
theorem dX1_narrow_23 : decode cX1_narrow 23 = .ok (.sipush 209, 3) := by decide +kernel
theorem dX1_narrow_26 : decode cX1_narrow 26 = .ok (.iload_n 1, 1) := by decide +kernel
theorem dX1_narrow_27 : decode cX1_narrow 27 = .ok (.iadd, 1) := by decide +kernel
theorem dX1_narrow_28 : decode cX1_narrow 28 = .ok (.laload, 1) := by decide +kernel
theorem dX1_narrow_29 : decode cX1_narrow 29 = .ok (.ladd, 1) := by decide +kernel
theorem dX1_narrow_30 : decode cX1_narrow 30 = .ok (.ldc2_w 33, 3) := by decide +kernel
theorem dX1_narrow_33 : decode cX1_narrow 33 = .ok (.lrem, 1) := by decide +kernel
theorem dX1_narrow_34 : decode cX1_narrow 34 = .ok (.lastore, 1) := by decide +kernel
theorem dX1_narrow_35 : decode cX1_narrow 35 = .ok (.aload_n 0, 1) := by decide +kernel
theorem dX1_narrow_36 : decode cX1_narrow 36 = .ok (.getfield 23, 3) := by decide +kernel
theorem dX1_narrow_39 : decode cX1_narrow 39 = .ok (.sipush 209, 3) := by decide +kernel
theorem dX1_narrow_42 : decode cX1_narrow 42 = .ok (.iload_n 1, 1) := by decide +kernel
theorem dX1_narrow_43 : decode cX1_narrow 43 = .ok (.iadd, 1) := by decide +kernel
theorem dX1_narrow_44 : decode cX1_narrow 44 = .ok (.lconst 0, 1) := by decide +kernel
theorem dX1_narrow_45 : decode cX1_narrow 45 = .ok (.lastore, 1) := by decide +kernel
theorem dX1_narrow_46 : decode cX1_narrow 46 = .ok (.iinc 1 1, 3) := by decide +kernel
theorem dX1_narrow_49 : decode cX1_narrow 49 = .ok (.goto (-47), 3) := by decide +kernel
theorem dX1_narrow_52 : decode cX1_narrow 52 = .ok (.iconst 0, 1) := by decide +kernel
theorem dX1_narrow_53 : decode cX1_narrow 53 = .ok (.istore_n 1, 1) := by decide +kernel
theorem dX1_narrow_54 : decode cX1_narrow 54 = .ok (.iload_n 1, 1) := by decide +kernel
theorem dX1_narrow_55 : decode cX1_narrow 55 = .ok (.bipush 16, 2) := by decide +kernel
theorem dX1_narrow_57 : decode cX1_narrow 57 = .ok (.if_icmp .ge 90, 3) := by decide +kernel
theorem dX1_narrow_60 : decode cX1_narrow 60 = .ok (.iload_n 1, 1) := by decide +kernel
theorem dX1_narrow_61 : decode cX1_narrow 61 = .ok (.iconst 4, 1) := by decide +kernel
theorem dX1_narrow_62 : decode cX1_narrow 62 = .ok (.if_icmp .lt 15, 3) := by decide +kernel
theorem dX1_narrow_65 : decode cX1_narrow 65 = .ok (.iload_n 1, 1) := by decide +kernel
theorem dX1_narrow_66 : decode cX1_narrow 66 = .ok (.bipush 8, 2) := by decide +kernel
theorem dX1_narrow_68 : decode cX1_narrow 68 = .ok (.if_icmp .le 13, 3) := by decide +kernel
theorem dX1_narrow_71 : decode cX1_narrow 71 = .ok (.iload_n 1, 1) := by decide +kernel
theorem dX1_narrow_72 : decode cX1_narrow 72 = .ok (.bipush 14, 2) := by decide +kernel
theorem dX1_narrow_74 : decode cX1_narrow 74 = .ok (.if_icmp .ge 7, 3) := by decide +kernel
theorem dX1_narrow_77 : decode cX1_narrow 77 = .ok (.iconst 1, 1) := by decide +kernel
theorem dX1_narrow_78 : decode cX1_narrow 78 = .ok (.goto 4, 3) := by decide +kernel
theorem dX1_narrow_81 : decode cX1_narrow 81 = .ok (.iconst 0, 1) := by decide +kernel
theorem dX1_narrow_82 : decode cX1_narrow 82 = .ok (.istore_n 2, 1) := by decide +kernel
theorem dX1_narrow_83 : decode cX1_narrow 83 = .ok (.bipush (-9), 2) := by decide +kernel
theorem dX1_narrow_85 : decode cX1_narrow 85 = .ok (.istore_n 3, 1) := by decide +kernel
theorem dX1_narrow_86 : decode cX1_narrow 86 = .ok (.iload_n 3, 1) := by decide +kernel
theorem dX1_narrow_87 : decode cX1_narrow 87 = .ok (.bipush 10, 2) := by decide +kernel
theorem dX1_narrow_89 : decode cX1_narrow 89 = .ok (.if_icmp .ge 52, 3) := by decide +kernel
theorem dX1_narrow_92 : decode cX1_narrow 92 = .ok (.aload_n 0, 1) := by decide +kernel
theorem dX1_narrow_93 : decode cX1_narrow 93 = .ok (.getfield 23, 3) := by decide +kernel
theorem dX1_narrow_96 : decode cX1_narrow 96 = .ok (.bipush 19, 2) := by decide +kernel
theorem dX1_narrow_98 : decode cX1_narrow 98 = .ok (.iload_n 1, 1) := by decide +kernel
theorem dX1_narrow_99 : decode cX1_narrow 99 = .ok (.imul, 1) := by decide +kernel
theorem dX1_narrow_100 : decode cX1_narrow 100 = .ok (.iload_n 3, 1) := by decide +kernel
theorem dX1_narrow_101 : decode cX1_narrow 101 = .ok (.iadd, 1) := by decide +kernel
theorem dX1_narrow_102 : decode cX1_narrow 102 = .ok (.bipush 9, 2) := by decide +kernel
theorem dX1_narrow_104 : decode cX1_narrow 104 = .ok (.iadd, 1) := by decide +kernel
theorem dX1_narrow_105 : decode cX1_narrow 105 = .ok (.laload, 1) := by decide +kernel
theorem dX1_narrow_106 : decode cX1_narrow 106 = .ok (.lconst 0, 1) := by decide +kernel
theorem dX1_narrow_107 : decode cX1_narrow 107 = .ok (.lcmp, 1) := by decide +kernel
theorem dX1_narrow_108 : decode cX1_narrow 108 = .ok (.ifCond .eq 27, 3) := by decide +kernel
theorem dX1_narrow_111 : decode cX1_narrow 111 = .ok (.iload_n 2, 1) := by decide +kernel
theorem dX1_narrow_112 : decode cX1_narrow 112 = .ok (.ifCond .eq 17, 3) := by decide +kernel
theorem dX1_narrow_115 : decode cX1_narrow 115 = .ok (.iload_n 3, 1) := by decide +kernel
theorem dX1_narrow_116 : decode cX1_narrow 116 = .ok (.i2l, 1) := by decide +kernel
theorem dX1_narrow_117 : decode cX1_narrow 117 = .ok (.ldc2_w 56, 3) := by decide +kernel
theorem dX1_narrow_120 : decode cX1_narrow 120 = .ok (.ldc2_w 58, 3) := by decide +kernel
theorem dX1_narrow_123 : decode cX1_narrow 123 = .ok (.invokestatic 42, 3) := by decide +kernel
theorem dX1_narrow_126 : decode cX1_narrow 126 = .ok (.ifCond .ne 9, 3) := by decide +kernel
theorem dX1_narrow_129 : decode cX1_narrow 129 = .ok (.aload_n 0, 1) := by decide +kernel
theorem dX1_narrow_130 : decode cX1_narrow 130 = .ok (.iconst 2, 1) := by decide +kernel
theorem dX1_narrow_131 : decode cX1_narrow 131 = .ok (.invokevirtual 82, 3) := by decide +kernel
theorem dX1_narrow_134 : decode cX1_narrow 134 = .ok (.ireturn, 1) := by decide +kernel
theorem dX1_narrow_135 : decode cX1_narrow 135 = .ok (.iinc 3 1, 3) := by decide +kernel
theorem dX1_narrow_138 : decode cX1_narrow 138 = .ok (.goto (-52), 3) := by decide +kernel
theorem dX1_narrow_141 : decode cX1_narrow 141 = .ok (.iinc 1 1, 3) := by decide +kernel
theorem dX1_narrow_144 : decode cX1_narrow 144 = .ok (.goto (-90), 3) := by decide +kernel
theorem dX1_narrow_147 : decode cX1_narrow 147 = .ok (.iconst 0, 1) := by decide +kernel
theorem dX1_narrow_148 : decode cX1_narrow 148 = .ok (.istore_n 1, 1) := by decide +kernel
theorem dX1_narrow_149 : decode cX1_narrow 149 = .ok (.iload_n 1, 1) := by decide +kernel
theorem dX1_narrow_150 : decode cX1_narrow 150 = .ok (.bipush 8, 2) := by decide +kernel
theorem dX1_narrow_152 : decode cX1_narrow 152 = .ok (.if_icmp .ge 50, 3) := by decide +kernel
theorem dX1_narrow_155 : decode cX1_narrow 155 = .ok (.bipush (-4), 2) := by decide +kernel
theorem dX1_narrow_157 : decode cX1_narrow 157 = .ok (.istore_n 2, 1) := by decide +kernel
theorem dX1_narrow_158 : decode cX1_narrow 158 = .ok (.iload_n 2, 1) := by decide +kernel
theorem dX1_narrow_159 : decode cX1_narrow 159 = .ok (.iconst 4, 1) := by decide +kernel
theorem dX1_narrow_160 : decode cX1_narrow 160 = .ok (.if_icmp .gt 36, 3) := by decide +kernel
theorem dX1_narrow_163 : decode cX1_narrow 163 = .ok (.aload_n 0, 1) := by decide +kernel
theorem dX1_narrow_164 : decode cX1_narrow 164 = .ok (.getfield 13, 3) := by decide +kernel
theorem dX1_narrow_167 : decode cX1_narrow 167 = .ok (.iload_n 1, 1) := by decide +kernel
theorem dX1_narrow_168 : decode cX1_narrow 168 = .ok (.iload_n 2, 1) := by decide +kernel
theorem dX1_narrow_169 : decode cX1_narrow 169 = .ok (.invokestatic 60, 3) := by decide +kernel
theorem dX1_narrow_172 : decode cX1_narrow 172 = .ok (.aload_n 0, 1) := by decide +kernel
theorem dX1_narrow_173 : decode cX1_narrow 173 = .ok (.getfield 23, 3) := by decide +kernel
theorem dX1_narrow_176 : decode cX1_narrow 176 = .ok (.bipush 19, 2) := by decide +kernel
theorem dX1_narrow_178 : decode cX1_narrow 178 = .ok (.iload_n 1, 1) := by decide +kernel
theorem dX1_narrow_179 : decode cX1_narrow 179 = .ok (.invokestatic 85, 3) := by decide +kernel
theorem dX1_narrow_182 : decode cX1_narrow 182 = .ok (.imul, 1) := by decide +kernel
theorem dX1_narrow_183 : decode cX1_narrow 183 = .ok (.iload_n 2, 1) := by decide +kernel
theorem dX1_narrow_184 : decode cX1_narrow 184 = .ok (.iadd, 1) := by decide +kernel
theorem dX1_narrow_185 : decode cX1_narrow 185 = .ok (.bipush 9, 2) := by decide +kernel
theorem dX1_narrow_187 : decode cX1_narrow 187 = .ok (.iadd, 1) := by decide +kernel
theorem dX1_narrow_188 : decode cX1_narrow 188 = .ok (.laload, 1) := by decide +kernel
theorem dX1_narrow_189 : decode cX1_narrow 189 = .ok (.lastore, 1) := by decide +kernel
theorem dX1_narrow_190 : decode cX1_narrow 190 = .ok (.iinc 2 1, 3) := by decide +kernel
theorem dX1_narrow_193 : decode cX1_narrow 193 = .ok (.goto (-35), 3) := by decide +kernel
theorem dX1_narrow_196 : decode cX1_narrow 196 = .ok (.iinc 1 1, 3) := by decide +kernel
theorem dX1_narrow_199 : decode cX1_narrow 199 = .ok (.goto (-50), 3) := by decide +kernel
theorem dX1_narrow_202 : decode cX1_narrow 202 = .ok (.aload_n 0, 1) := by decide +kernel
theorem dX1_narrow_203 : decode cX1_narrow 203 = .ok (.invokevirtual 64, 3) := by decide +kernel
theorem dX1_narrow_206 : decode cX1_narrow 206 = .ok (.ireturn, 1) := by decide +kernel
theorem dX1_has_0 : decode cX1_has 0 = .ok (.bipush 9, 2) := by decide +kernel
theorem dX1_has_2 : decode cX1_has 2 = .ok (.iload_n 2, 1) := by decide +kernel
theorem dX1_has_3 : decode cX1_has 3 = .ok (.imul, 1) := by decide +kernel
theorem dX1_has_4 : decode cX1_has 4 = .ok (.istore 4, 2) := by decide +kernel
theorem dX1_has_6 : decode cX1_has 6 = .ok (.iload 4, 2) := by decide +kernel
theorem dX1_has_8 : decode cX1_has 8 = .ok (.bipush 9, 2) := by decide +kernel
theorem dX1_has_10 : decode cX1_has 10 = .ok (.iload_n 3, 1) := by decide +kernel
theorem dX1_has_11 : decode cX1_has 11 = .ok (.imul, 1) := by decide +kernel
theorem dX1_has_12 : decode cX1_has 12 = .ok (.if_icmp .ge 20, 3) := by decide +kernel
theorem dX1_has_15 : decode cX1_has 15 = .ok (.aload_n 1, 1) := by decide +kernel
theorem dX1_has_16 : decode cX1_has 16 = .ok (.iload 4, 2) := by decide +kernel
theorem dX1_has_18 : decode cX1_has 18 = .ok (.laload, 1) := by decide +kernel
theorem dX1_has_19 : decode cX1_has 19 = .ok (.lconst 0, 1) := by decide +kernel
theorem dX1_has_20 : decode cX1_has 20 = .ok (.lcmp, 1) := by decide +kernel
theorem dX1_has_21 : decode cX1_has 21 = .ok (.ifCond .eq 5, 3) := by decide +kernel
theorem dX1_has_24 : decode cX1_has 24 = .ok (.iconst 1, 1) := by decide +kernel
theorem dX1_has_25 : decode cX1_has 25 = .ok (.ireturn, 1) := by decide +kernel
theorem dX1_has_26 : decode cX1_has 26 = .ok (.iinc 4 1, 3) := by decide +kernel
theorem dX1_has_29 : decode cX1_has 29 = .ok (.goto (-23), 3) := by decide +kernel
theorem dX1_has_32 : decode cX1_has 32 = .ok (.iconst 0, 1) := by decide +kernel
theorem dX1_has_33 : decode cX1_has 33 = .ok (.ireturn, 1) := by decide +kernel
theorem dX1_times_0 : decode cX1_times 0 = .ok (.aload_n 0, 1) := by decide +kernel
theorem dX1_times_1 : decode cX1_times 1 = .ok (.iload_n 1, 1) := by decide +kernel
theorem dX1_times_2 : decode cX1_times 2 = .ok (.iload_n 2, 1) := by decide +kernel
theorem dX1_times_3 : decode cX1_times 3 = .ok (.invokevirtual 74, 3) := by decide +kernel
theorem dX1_times_6 : decode cX1_times 6 = .ok (.ifCond .ne 5, 3) := by decide +kernel
theorem dX1_times_9 : decode cX1_times 9 = .ok (.iconst 0, 1) := by decide +kernel
theorem dX1_times_10 : decode cX1_times 10 = .ok (.ireturn, 1) := by decide +kernel
theorem dX1_times_11 : decode cX1_times 11 = .ok (.aload_n 0, 1) := by decide +kernel
theorem dX1_times_12 : decode cX1_times 12 = .ok (.aload_n 0, 1) := by decide +kernel
theorem dX1_times_13 : decode cX1_times 13 = .ok (.getfield 17, 3) := by decide +kernel
theorem dX1_times_16 : decode cX1_times 16 = .ok (.iconst 1, 1) := by decide +kernel
theorem dX1_times_17 : decode cX1_times 17 = .ok (.iconst 4, 1) := by decide +kernel
theorem dX1_times_18 : decode cX1_times 18 = .ok (.invokevirtual 88, 3) := by decide +kernel
theorem dX1_times_21 : decode cX1_times 21 = .ok (.ifCond .eq 17, 3) := by decide +kernel
theorem dX1_times_24 : decode cX1_times 24 = .ok (.aload_n 0, 1) := by decide +kernel
theorem dX1_times_25 : decode cX1_times 25 = .ok (.aload_n 0, 1) := by decide +kernel
theorem dX1_times_26 : decode cX1_times 26 = .ok (.getfield 20, 3) := by decide +kernel
theorem dX1_times_29 : decode cX1_times 29 = .ok (.iconst 4, 1) := by decide +kernel
theorem dX1_times_30 : decode cX1_times 30 = .ok (.bipush 8, 2) := by decide +kernel
theorem dX1_times_32 : decode cX1_times 32 = .ok (.invokevirtual 88, 3) := by decide +kernel
theorem dX1_times_35 : decode cX1_times 35 = .ok (.ifCond .ne 30, 3) := by decide +kernel
theorem dX1_times_38 : decode cX1_times 38 = .ok (.aload_n 0, 1) := by decide +kernel
theorem dX1_times_39 : decode cX1_times 39 = .ok (.aload_n 0, 1) := by decide +kernel
theorem dX1_times_40 : decode cX1_times 40 = .ok (.getfield 17, 3) := by decide +kernel
theorem dX1_times_43 : decode cX1_times 43 = .ok (.iconst 4, 1) := by decide +kernel
theorem dX1_times_44 : decode cX1_times 44 = .ok (.bipush 8, 2) := by decide +kernel
theorem dX1_times_46 : decode cX1_times 46 = .ok (.invokevirtual 88, 3) := by decide +kernel
theorem dX1_times_49 : decode cX1_times 49 = .ok (.ifCond .eq 22, 3) := by decide +kernel
theorem dX1_times_52 : decode cX1_times 52 = .ok (.aload_n 0, 1) := by decide +kernel
theorem dX1_times_53 : decode cX1_times 53 = .ok (.aload_n 0, 1) := by decide +kernel
theorem dX1_times_54 : decode cX1_times 54 = .ok (.getfield 20, 3) := by decide +kernel
theorem dX1_times_57 : decode cX1_times 57 = .ok (.iconst 1, 1) := by decide +kernel
theorem dX1_times_58 : decode cX1_times 58 = .ok (.iconst 4, 1) := by decide +kernel
theorem dX1_times_59 : decode cX1_times 59 = .ok (.invokevirtual 88, 3) := by decide +kernel
theorem dX1_times_62 : decode cX1_times 62 = .ok (.ifCond .eq 9, 3) := by decide +kernel
theorem dX1_times_65 : decode cX1_times 65 = .ok (.aload_n 0, 1) := by decide +kernel
theorem dX1_times_66 : decode cX1_times 66 = .ok (.iconst 2, 1) := by decide +kernel
theorem dX1_times_67 : decode cX1_times 67 = .ok (.invokevirtual 82, 3) := by decide +kernel
theorem dX1_times_70 : decode cX1_times 70 = .ok (.ireturn, 1) := by decide +kernel
theorem dX1_times_71 : decode cX1_times 71 = .ok (.aload_n 0, 1) := by decide +kernel
theorem dX1_times_72 : decode cX1_times 72 = .ok (.invokevirtual 92, 3) := by decide +kernel
theorem dX1_times_75 : decode cX1_times 75 = .ok (.iconst 0, 1) := by decide +kernel
theorem dX1_times_76 : decode cX1_times 76 = .ok (.istore_n 3, 1) := by decide +kernel
theorem dX1_times_77 : decode cX1_times 77 = .ok (.iload_n 3, 1) := by decide +kernel
theorem dX1_times_78 : decode cX1_times 78 = .ok (.bipush 72, 2) := by decide +kernel
theorem dX1_times_80 : decode cX1_times 80 = .ok (.if_icmp .ge 156, 3) := by decide +kernel
theorem dX1_times_83 : decode cX1_times 83 = .ok (.aload_n 0, 1) := by decide +kernel
theorem dX1_times_84 : decode cX1_times 84 = .ok (.getfield 17, 3) := by decide +kernel
theorem dX1_times_87 : decode cX1_times 87 = .ok (.iload_n 3, 1) := by decide +kernel
theorem dX1_times_88 : decode cX1_times 88 = .ok (.laload, 1) := by decide +kernel
theorem dX1_times_89 : decode cX1_times 89 = .ok (.lconst 0, 1) := by decide +kernel
theorem dX1_times_90 : decode cX1_times 90 = .ok (.lcmp, 1) := by decide +kernel
theorem dX1_times_91 : decode cX1_times 91 = .ok (.ifCond .ne 6, 3) := by decide +kernel
theorem dX1_times_94 : decode cX1_times 94 = .ok (.goto 136, 3) := by decide +kernel
theorem dX1_times_97 : decode cX1_times 97 = .ok (.iconst 0, 1) := by decide +kernel
theorem dX1_times_98 : decode cX1_times 98 = .ok (.istore 4, 2) := by decide +kernel
theorem dX1_times_100 : decode cX1_times 100 = .ok (.iload 4, 2) := by decide +kernel
theorem dX1_times_102 : decode cX1_times 102 = .ok (.bipush 72, 2) := by decide +kernel
theorem dX1_times_104 : decode cX1_times 104 = .ok (.if_icmp .ge 126, 3) := by decide +kernel
theorem dX1_times_107 : decode cX1_times 107 = .ok (.aload_n 0, 1) := by decide +kernel
theorem dX1_times_108 : decode cX1_times 108 = .ok (.getfield 20, 3) := by decide +kernel
theorem dX1_times_111 : decode cX1_times 111 = .ok (.iload 4, 2) := by decide +kernel
theorem dX1_times_113 : decode cX1_times 113 = .ok (.laload, 1) := by decide +kernel
theorem dX1_times_114 : decode cX1_times 114 = .ok (.lconst 0, 1) := by decide +kernel
theorem dX1_times_115 : decode cX1_times 115 = .ok (.lcmp, 1) := by decide +kernel
theorem dX1_times_116 : decode cX1_times 116 = .ok (.ifCond .ne 6, 3) := by decide +kernel
theorem dX1_times_119 : decode cX1_times 119 = .ok (.goto 105, 3) := by decide +kernel
theorem dX1_times_122 : decode cX1_times 122 = .ok (.iload_n 3, 1) := by decide +kernel
theorem dX1_times_123 : decode cX1_times 123 = .ok (.bipush 9, 2) := by decide +kernel
theorem dX1_times_125 : decode cX1_times 125 = .ok (.idiv, 1) := by decide +kernel
theorem dX1_times_126 : decode cX1_times 126 = .ok (.istore 5, 2) := by decide +kernel
theorem dX1_times_128 : decode cX1_times 128 = .ok (.iload 4, 2) := by decide +kernel
theorem dX1_times_130 : decode cX1_times 130 = .ok (.bipush 9, 2) := by decide +kernel
theorem dX1_times_132 : decode cX1_times 132 = .ok (.idiv, 1) := by decide +kernel
theorem dX1_times_133 : decode cX1_times 133 = .ok (.istore 6, 2) := by decide +kernel
