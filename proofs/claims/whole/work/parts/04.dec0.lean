theorem dX0_init_0 : decode cX0_init 0 = .ok (.aload_n 0, 1) := by decide +kernel
theorem dX0_init_1 : decode cX0_init 1 = .ok (.invokespecial 3, 3) := by decide +kernel
theorem dX0_init_4 : decode cX0_init 4 = .ok (.aload_n 0, 1) := by decide +kernel
theorem dX0_init_5 : decode cX0_init 5 = .ok (.sipush 4320, 3) := by decide +kernel
theorem dX0_init_8 : decode cX0_init 8 = .ok (.newarray .int, 2) := by decide +kernel
theorem dX0_init_10 : decode cX0_init 10 = .ok (.putfield 9, 3) := by decide +kernel
theorem dX0_init_13 : decode cX0_init 13 = .ok (.aload_n 0, 1) := by decide +kernel
theorem dX0_init_14 : decode cX0_init 14 = .ok (.sipush 255, 3) := by decide +kernel
theorem dX0_init_17 : decode cX0_init 17 = .ok (.newarray .int, 2) := by decide +kernel
theorem dX0_init_19 : decode cX0_init 19 = .ok (.putfield 13, 3) := by decide +kernel
theorem dX0_init_22 : decode cX0_init 22 = .ok (.aload_n 0, 1) := by decide +kernel
theorem dX0_init_23 : decode cX0_init 23 = .ok (.iconst 0, 1) := by decide +kernel
theorem dX0_init_24 : decode cX0_init 24 = .ok (.putfield 16, 3) := by decide +kernel
theorem dX0_init_27 : decode cX0_init 27 = .ok (.return_, 1) := by decide +kernel
theorem dX0_term_0 : decode cX0_term 0 = .ok (.iload_n 1, 1) := by decide +kernel
theorem dX0_term_1 : decode cX0_term 1 = .ok (.invokestatic 20, 3) := by decide +kernel
theorem dX0_term_4 : decode cX0_term 4 = .ok (.iload_n 2, 1) := by decide +kernel
theorem dX0_term_5 : decode cX0_term 5 = .ok (.invokestatic 24, 3) := by decide +kernel
theorem dX0_term_8 : decode cX0_term 8 = .ok (.aload_n 0, 1) := by decide +kernel
theorem dX0_term_9 : decode cX0_term 9 = .ok (.invokevirtual 27, 3) := by decide +kernel
theorem dX0_term_12 : decode cX0_term 12 = .ok (.aload_n 0, 1) := by decide +kernel
theorem dX0_term_13 : decode cX0_term 13 = .ok (.invokevirtual 30, 3) := by decide +kernel
theorem dX0_term_16 : decode cX0_term 16 = .ok (.aload_n 0, 1) := by decide +kernel
theorem dX0_term_17 : decode cX0_term 17 = .ok (.iload_n 1, 1) := by decide +kernel
theorem dX0_term_18 : decode cX0_term 18 = .ok (.iload_n 2, 1) := by decide +kernel
theorem dX0_term_19 : decode cX0_term 19 = .ok (.lload_n 3, 1) := by decide +kernel
theorem dX0_term_20 : decode cX0_term 20 = .ok (.invokestatic 33, 3) := by decide +kernel
theorem dX0_term_23 : decode cX0_term 23 = .ok (.invokevirtual 37, 3) := by decide +kernel
theorem dX0_term_26 : decode cX0_term 26 = .ok (.aload_n 0, 1) := by decide +kernel
theorem dX0_term_27 : decode cX0_term 27 = .ok (.invokevirtual 41, 3) := by decide +kernel
theorem dX0_term_30 : decode cX0_term 30 = .ok (.ireturn, 1) := by decide +kernel
theorem dX0_add_0 : decode cX0_add 0 = .ok (.aload_n 0, 1) := by decide +kernel
theorem dX0_add_1 : decode cX0_add 1 = .ok (.iload_n 1, 1) := by decide +kernel
theorem dX0_add_2 : decode cX0_add 2 = .ok (.invokevirtual 45, 3) := by decide +kernel
theorem dX0_add_5 : decode cX0_add 5 = .ok (.aload_n 0, 1) := by decide +kernel
theorem dX0_add_6 : decode cX0_add 6 = .ok (.iload_n 2, 1) := by decide +kernel
theorem dX0_add_7 : decode cX0_add 7 = .ok (.invokevirtual 45, 3) := by decide +kernel
theorem dX0_add_10 : decode cX0_add 10 = .ok (.aload_n 0, 1) := by decide +kernel
theorem dX0_add_11 : decode cX0_add 11 = .ok (.invokevirtual 27, 3) := by decide +kernel
theorem dX0_add_14 : decode cX0_add 14 = .ok (.aload_n 0, 1) := by decide +kernel
theorem dX0_add_15 : decode cX0_add 15 = .ok (.iload_n 1, 1) := by decide +kernel
theorem dX0_add_16 : decode cX0_add 16 = .ok (.iload_n 2, 1) := by decide +kernel
theorem dX0_add_17 : decode cX0_add 17 = .ok (.iconst 1, 1) := by decide +kernel
theorem dX0_add_18 : decode cX0_add 18 = .ok (.invokevirtual 48, 3) := by decide +kernel
theorem dX0_add_21 : decode cX0_add 21 = .ok (.aload_n 0, 1) := by decide +kernel
theorem dX0_add_22 : decode cX0_add 22 = .ok (.invokevirtual 41, 3) := by decide +kernel
theorem dX0_add_25 : decode cX0_add 25 = .ok (.ireturn, 1) := by decide +kernel
theorem dX0_less_0 : decode cX0_less 0 = .ok (.aload_n 0, 1) := by decide +kernel
theorem dX0_less_1 : decode cX0_less 1 = .ok (.iload_n 1, 1) := by decide +kernel
theorem dX0_less_2 : decode cX0_less 2 = .ok (.invokevirtual 45, 3) := by decide +kernel
theorem dX0_less_5 : decode cX0_less 5 = .ok (.aload_n 0, 1) := by decide +kernel
theorem dX0_less_6 : decode cX0_less 6 = .ok (.iload_n 2, 1) := by decide +kernel
theorem dX0_less_7 : decode cX0_less 7 = .ok (.invokevirtual 45, 3) := by decide +kernel
theorem dX0_less_10 : decode cX0_less 10 = .ok (.aload_n 0, 1) := by decide +kernel
theorem dX0_less_11 : decode cX0_less 11 = .ok (.invokevirtual 27, 3) := by decide +kernel
theorem dX0_less_14 : decode cX0_less 14 = .ok (.aload_n 0, 1) := by decide +kernel
theorem dX0_less_15 : decode cX0_less 15 = .ok (.iload_n 1, 1) := by decide +kernel
theorem dX0_less_16 : decode cX0_less 16 = .ok (.iload_n 2, 1) := by decide +kernel
theorem dX0_less_17 : decode cX0_less 17 = .ok (.lload_n 3, 1) := by decide +kernel
theorem dX0_less_18 : decode cX0_less 18 = .ok (.invokestatic 33, 3) := by decide +kernel
theorem dX0_less_21 : decode cX0_less 21 = .ok (.i2l, 1) := by decide +kernel
theorem dX0_less_22 : decode cX0_less 22 = .ok (.lneg, 1) := by decide +kernel
theorem dX0_less_23 : decode cX0_less 23 = .ok (.invokestatic 33, 3) := by decide +kernel
theorem dX0_less_26 : decode cX0_less 26 = .ok (.invokevirtual 48, 3) := by decide +kernel
theorem dX0_less_29 : decode cX0_less 29 = .ok (.aload_n 0, 1) := by decide +kernel
theorem dX0_less_30 : decode cX0_less 30 = .ok (.invokevirtual 41, 3) := by decide +kernel
theorem dX0_less_33 : decode cX0_less 33 = .ok (.ireturn, 1) := by decide +kernel
theorem dX0_times_0 : decode cX0_times 0 = .ok (.aload_n 0, 1) := by decide +kernel
theorem dX0_times_1 : decode cX0_times 1 = .ok (.iload_n 1, 1) := by decide +kernel
theorem dX0_times_2 : decode cX0_times 2 = .ok (.invokevirtual 45, 3) := by decide +kernel
theorem dX0_times_5 : decode cX0_times 5 = .ok (.aload_n 0, 1) := by decide +kernel
theorem dX0_times_6 : decode cX0_times 6 = .ok (.iload_n 2, 1) := by decide +kernel
theorem dX0_times_7 : decode cX0_times 7 = .ok (.invokevirtual 45, 3) := by decide +kernel
theorem dX0_times_10 : decode cX0_times 10 = .ok (.aload_n 0, 1) := by decide +kernel
theorem dX0_times_11 : decode cX0_times 11 = .ok (.invokevirtual 27, 3) := by decide +kernel
theorem dX0_times_14 : decode cX0_times 14 = .ok (.aload_n 0, 1) := by decide +kernel
theorem dX0_times_15 : decode cX0_times 15 = .ok (.iload_n 1, 1) := by decide +kernel
theorem dX0_times_16 : decode cX0_times 16 = .ok (.iload_n 2, 1) := by decide +kernel
theorem dX0_times_17 : decode cX0_times 17 = .ok (.invokevirtual 51, 3) := by decide +kernel
theorem dX0_times_20 : decode cX0_times 20 = .ok (.ifCond .ne 12, 3) := by decide +kernel
theorem dX0_times_23 : decode cX0_times 23 = .ok (.aload_n 0, 1) := by decide +kernel
theorem dX0_times_24 : decode cX0_times 24 = .ok (.iload_n 2, 1) := by decide +kernel
theorem dX0_times_25 : decode cX0_times 25 = .ok (.iload_n 1, 1) := by decide +kernel
theorem dX0_times_26 : decode cX0_times 26 = .ok (.invokevirtual 51, 3) := by decide +kernel
theorem dX0_times_29 : decode cX0_times 29 = .ok (.ifCond .eq 13, 3) := by decide +kernel
theorem dX0_times_32 : decode cX0_times 32 = .ok (.new 55, 3) := by decide +kernel
theorem dX0_times_35 : decode cX0_times 35 = .ok (.dup, 1) := by decide +kernel
theorem dX0_times_36 : decode cX0_times 36 = .ok (.ldc 57, 2) := by decide +kernel
theorem dX0_times_38 : decode cX0_times 38 = .ok (.invokespecial 59, 3) := by decide +kernel
theorem dX0_times_41 : decode cX0_times 41 = .ok (.athrow, 1) := by decide +kernel
theorem dX0_times_42 : decode cX0_times 42 = .ok (.aload_n 0, 1) := by decide +kernel
theorem dX0_times_43 : decode cX0_times 43 = .ok (.iload_n 1, 1) := by decide +kernel
theorem dX0_times_44 : decode cX0_times 44 = .ok (.iload_n 2, 1) := by decide +kernel
theorem dX0_times_45 : decode cX0_times 45 = .ok (.invokevirtual 62, 3) := by decide +kernel
theorem dX0_times_48 : decode cX0_times 48 = .ok (.aload_n 0, 1) := by decide +kernel
theorem dX0_times_49 : decode cX0_times 49 = .ok (.invokevirtual 66, 3) := by decide +kernel
theorem dX0_times_52 : decode cX0_times 52 = .ok (.ifCond .eq 13, 3) := by decide +kernel
theorem dX0_times_55 : decode cX0_times 55 = .ok (.new 55, 3) := by decide +kernel
theorem dX0_times_58 : decode cX0_times 58 = .ok (.dup, 1) := by decide +kernel
theorem dX0_times_59 : decode cX0_times 59 = .ok (.ldc 70, 2) := by decide +kernel
theorem dX0_times_61 : decode cX0_times 61 = .ok (.invokespecial 59, 3) := by decide +kernel
theorem dX0_times_64 : decode cX0_times 64 = .ok (.athrow, 1) := by decide +kernel
theorem dX0_times_65 : decode cX0_times 65 = .ok (.aload_n 0, 1) := by decide +kernel
theorem dX0_times_66 : decode cX0_times 66 = .ok (.invokevirtual 72, 3) := by decide +kernel
theorem dX0_times_69 : decode cX0_times 69 = .ok (.aload_n 0, 1) := by decide +kernel
theorem dX0_times_70 : decode cX0_times 70 = .ok (.invokevirtual 41, 3) := by decide +kernel
theorem dX0_times_73 : decode cX0_times 73 = .ok (.ireturn, 1) := by decide +kernel
theorem dX0_derive_0 : decode cX0_derive 0 = .ok (.aload_n 0, 1) := by decide +kernel
theorem dX0_derive_1 : decode cX0_derive 1 = .ok (.iload_n 1, 1) := by decide +kernel
theorem dX0_derive_2 : decode cX0_derive 2 = .ok (.invokevirtual 45, 3) := by decide +kernel
theorem dX0_derive_5 : decode cX0_derive 5 = .ok (.aload_n 0, 1) := by decide +kernel
theorem dX0_derive_6 : decode cX0_derive 6 = .ok (.invokevirtual 27, 3) := by decide +kernel
theorem dX0_derive_9 : decode cX0_derive 9 = .ok (.aload_n 0, 1) := by decide +kernel
theorem dX0_derive_10 : decode cX0_derive 10 = .ok (.iload_n 1, 1) := by decide +kernel
theorem dX0_derive_11 : decode cX0_derive 11 = .ok (.invokevirtual 75, 3) := by decide +kernel
theorem dX0_derive_14 : decode cX0_derive 14 = .ok (.ifCond .eq 13, 3) := by decide +kernel
theorem dX0_derive_17 : decode cX0_derive 17 = .ok (.new 55, 3) := by decide +kernel
theorem dX0_derive_20 : decode cX0_derive 20 = .ok (.dup, 1) := by decide +kernel
theorem dX0_derive_21 : decode cX0_derive 21 = .ok (.ldc 79, 2) := by decide +kernel
theorem dX0_derive_23 : decode cX0_derive 23 = .ok (.invokespecial 59, 3) := by decide +kernel
theorem dX0_derive_26 : decode cX0_derive 26 = .ok (.athrow, 1) := by decide +kernel
theorem dX0_derive_27 : decode cX0_derive 27 = .ok (.aload_n 0, 1) := by decide +kernel
theorem dX0_derive_28 : decode cX0_derive 28 = .ok (.iload_n 1, 1) := by decide +kernel
theorem dX0_derive_29 : decode cX0_derive 29 = .ok (.invokevirtual 81, 3) := by decide +kernel
theorem dX0_derive_32 : decode cX0_derive 32 = .ok (.aload_n 0, 1) := by decide +kernel
theorem dX0_derive_33 : decode cX0_derive 33 = .ok (.invokevirtual 41, 3) := by decide +kernel
theorem dX0_derive_36 : decode cX0_derive 36 = .ok (.ireturn, 1) := by decide +kernel
theorem dX0_integrate_0 : decode cX0_integrate 0 = .ok (.aload_n 0, 1) := by decide +kernel
theorem dX0_integrate_1 : decode cX0_integrate 1 = .ok (.iload_n 1, 1) := by decide +kernel
theorem dX0_integrate_2 : decode cX0_integrate 2 = .ok (.invokevirtual 45, 3) := by decide +kernel
theorem dX0_integrate_5 : decode cX0_integrate 5 = .ok (.aload_n 0, 1) := by decide +kernel
theorem dX0_integrate_6 : decode cX0_integrate 6 = .ok (.invokevirtual 27, 3) := by decide +kernel
theorem dX0_integrate_9 : decode cX0_integrate 9 = .ok (.aload_n 0, 1) := by decide +kernel
theorem dX0_integrate_10 : decode cX0_integrate 10 = .ok (.iload_n 1, 1) := by decide +kernel
theorem dX0_integrate_11 : decode cX0_integrate 11 = .ok (.invokevirtual 84, 3) := by decide +kernel
theorem dX0_integrate_14 : decode cX0_integrate 14 = .ok (.ifCond .eq 5, 3) := by decide +kernel
theorem dX0_integrate_17 : decode cX0_integrate 17 = .ok (.iconst (-1), 1) := by decide +kernel
theorem dX0_integrate_18 : decode cX0_integrate 18 = .ok (.ireturn, 1) := by decide +kernel
theorem dX0_integrate_19 : decode cX0_integrate 19 = .ok (.aload_n 0, 1) := by decide +kernel
theorem dX0_integrate_20 : decode cX0_integrate 20 = .ok (.iload_n 1, 1) := by decide +kernel
theorem dX0_integrate_21 : decode cX0_integrate 21 = .ok (.invokevirtual 87, 3) := by decide +kernel
theorem dX0_integrate_24 : decode cX0_integrate 24 = .ok (.ifCond .eq 13, 3) := by decide +kernel
theorem dX0_integrate_27 : decode cX0_integrate 27 = .ok (.new 55, 3) := by decide +kernel
theorem dX0_integrate_30 : decode cX0_integrate 30 = .ok (.dup, 1) := by decide +kernel
theorem dX0_integrate_31 : decode cX0_integrate 31 = .ok (.ldc 90, 2) := by decide +kernel
theorem dX0_integrate_33 : decode cX0_integrate 33 = .ok (.invokespecial 59, 3) := by decide +kernel
theorem dX0_integrate_36 : decode cX0_integrate 36 = .ok (.athrow, 1) := by decide +kernel
theorem dX0_integrate_37 : decode cX0_integrate 37 = .ok (.aload_n 0, 1) := by decide +kernel
theorem dX0_integrate_38 : decode cX0_integrate 38 = .ok (.invokevirtual 30, 3) := by decide +kernel
theorem dX0_integrate_41 : decode cX0_integrate 41 = .ok (.aload_n 0, 1) := by decide +kernel
theorem dX0_integrate_42 : decode cX0_integrate 42 = .ok (.iload_n 1, 1) := by decide +kernel
theorem dX0_integrate_43 : decode cX0_integrate 43 = .ok (.invokevirtual 92, 3) := by decide +kernel
theorem dX0_integrate_46 : decode cX0_integrate 46 = .ok (.aload_n 0, 1) := by decide +kernel
theorem dX0_integrate_47 : decode cX0_integrate 47 = .ok (.iload_n 1, 1) := by decide +kernel
theorem dX0_integrate_48 : decode cX0_integrate 48 = .ok (.invokevirtual 95, 3) := by decide +kernel
theorem dX0_integrate_51 : decode cX0_integrate 51 = .ok (.aload_n 0, 1) := by decide +kernel
theorem dX0_integrate_52 : decode cX0_integrate 52 = .ok (.iload_n 1, 1) := by decide +kernel
theorem dX0_integrate_53 : decode cX0_integrate 53 = .ok (.invokevirtual 98, 3) := by decide +kernel
theorem dX0_integrate_56 : decode cX0_integrate 56 = .ok (.aload_n 0, 1) := by decide +kernel
theorem dX0_integrate_57 : decode cX0_integrate 57 = .ok (.invokevirtual 41, 3) := by decide +kernel
theorem dX0_integrate_60 : decode cX0_integrate 60 = .ok (.ireturn, 1) := by decide +kernel
theorem dX0_rest_0 : decode cX0_rest 0 = .ok (.aload_n 0, 1) := by decide +kernel
theorem dX0_rest_1 : decode cX0_rest 1 = .ok (.iload_n 1, 1) := by decide +kernel
theorem dX0_rest_2 : decode cX0_rest 2 = .ok (.invokevirtual 45, 3) := by decide +kernel
theorem dX0_rest_5 : decode cX0_rest 5 = .ok (.iload_n 2, 1) := by decide +kernel
theorem dX0_rest_6 : decode cX0_rest 6 = .ok (.invokestatic 20, 3) := by decide +kernel
theorem dX0_rest_9 : decode cX0_rest 9 = .ok (.aload_n 0, 1) := by decide +kernel
theorem dX0_rest_10 : decode cX0_rest 10 = .ok (.iload_n 1, 1) := by decide +kernel
theorem dX0_rest_11 : decode cX0_rest 11 = .ok (.iload_n 2, 1) := by decide +kernel
theorem dX0_rest_12 : decode cX0_rest 12 = .ok (.invokevirtual 101, 3) := by decide +kernel
theorem dX0_rest_15 : decode cX0_rest 15 = .ok (.ireturn, 1) := by decide +kernel
theorem dX0_at_0 : decode cX0_at 0 = .ok (.aload_n 0, 1) := by decide +kernel
theorem dX0_at_1 : decode cX0_at 1 = .ok (.iload_n 1, 1) := by decide +kernel
theorem dX0_at_2 : decode cX0_at 2 = .ok (.invokevirtual 45, 3) := by decide +kernel
theorem dX0_at_5 : decode cX0_at 5 = .ok (.iload_n 2, 1) := by decide +kernel
theorem dX0_at_6 : decode cX0_at 6 = .ok (.invokestatic 20, 3) := by decide +kernel
theorem dX0_at_9 : decode cX0_at 9 = .ok (.iload_n 3, 1) := by decide +kernel
theorem dX0_at_10 : decode cX0_at 10 = .ok (.invokestatic 24, 3) := by decide +kernel
theorem dX0_at_13 : decode cX0_at 13 = .ok (.aload_n 0, 1) := by decide +kernel
theorem dX0_at_14 : decode cX0_at 14 = .ok (.iload_n 1, 1) := by decide +kernel
theorem dX0_at_15 : decode cX0_at 15 = .ok (.iload_n 2, 1) := by decide +kernel
theorem dX0_at_16 : decode cX0_at 16 = .ok (.iload_n 3, 1) := by decide +kernel
theorem dX0_at_17 : decode cX0_at 17 = .ok (.invokevirtual 105, 3) := by decide +kernel
theorem dX0_at_20 : decode cX0_at 20 = .ok (.ireturn, 1) := by decide +kernel
theorem dX0_terms_0 : decode cX0_terms 0 = .ok (.aload_n 0, 1) := by decide +kernel
theorem dX0_terms_1 : decode cX0_terms 1 = .ok (.iload_n 1, 1) := by decide +kernel
theorem dX0_terms_2 : decode cX0_terms 2 = .ok (.invokevirtual 45, 3) := by decide +kernel
theorem dX0_terms_5 : decode cX0_terms 5 = .ok (.iload_n 2, 1) := by decide +kernel
theorem dX0_terms_6 : decode cX0_terms 6 = .ok (.iconst (-1), 1) := by decide +kernel
theorem dX0_terms_7 : decode cX0_terms 7 = .ok (.if_icmp .ne 12, 3) := by decide +kernel
theorem dX0_terms_10 : decode cX0_terms 10 = .ok (.aload_n 0, 1) := by decide +kernel
theorem dX0_terms_11 : decode cX0_terms 11 = .ok (.iload_n 1, 1) := by decide +kernel
theorem dX0_terms_12 : decode cX0_terms 12 = .ok (.iconst 0, 1) := by decide +kernel
theorem dX0_terms_13 : decode cX0_terms 13 = .ok (.bipush 7, 2) := by decide +kernel
theorem dX0_terms_15 : decode cX0_terms 15 = .ok (.invokevirtual 109, 3) := by decide +kernel
theorem dX0_terms_18 : decode cX0_terms 18 = .ok (.ireturn, 1) := by decide +kernel
theorem dX0_terms_19 : decode cX0_terms 19 = .ok (.iload_n 2, 1) := by decide +kernel
theorem dX0_terms_20 : decode cX0_terms 20 = .ok (.invokestatic 20, 3) := by decide +kernel
theorem dX0_terms_23 : decode cX0_terms 23 = .ok (.aload_n 0, 1) := by decide +kernel
theorem dX0_terms_24 : decode cX0_terms 24 = .ok (.iload_n 1, 1) := by decide +kernel
theorem dX0_terms_25 : decode cX0_terms 25 = .ok (.iload_n 2, 1) := by decide +kernel
theorem dX0_terms_26 : decode cX0_terms 26 = .ok (.iload_n 2, 1) := by decide +kernel
theorem dX0_terms_27 : decode cX0_terms 27 = .ok (.invokevirtual 109, 3) := by decide +kernel
theorem dX0_terms_30 : decode cX0_terms 30 = .ok (.ireturn, 1) := by decide +kernel
theorem dX0_degree_0 : decode cX0_degree 0 = .ok (.aload_n 0, 1) := by decide +kernel
theorem dX0_degree_1 : decode cX0_degree 1 = .ok (.iload_n 1, 1) := by decide +kernel
theorem dX0_degree_2 : decode cX0_degree 2 = .ok (.invokevirtual 45, 3) := by decide +kernel
theorem dX0_degree_5 : decode cX0_degree 5 = .ok (.iload_n 2, 1) := by decide +kernel
theorem dX0_degree_6 : decode cX0_degree 6 = .ok (.invokestatic 20, 3) := by decide +kernel
theorem dX0_degree_9 : decode cX0_degree 9 = .ok (.iconst 4, 1) := by decide +kernel
theorem dX0_degree_10 : decode cX0_degree 10 = .ok (.istore_n 3, 1) := by decide +kernel
theorem dX0_degree_11 : decode cX0_degree 11 = .ok (.iload_n 3, 1) := by decide +kernel
theorem dX0_degree_12 : decode cX0_degree 12 = .ok (.bipush (-4), 2) := by decide +kernel
theorem dX0_degree_14 : decode cX0_degree 14 = .ok (.if_icmp .lt 21, 3) := by decide +kernel
theorem dX0_degree_17 : decode cX0_degree 17 = .ok (.aload_n 0, 1) := by decide +kernel
theorem dX0_degree_18 : decode cX0_degree 18 = .ok (.iload_n 1, 1) := by decide +kernel
theorem dX0_degree_19 : decode cX0_degree 19 = .ok (.iload_n 2, 1) := by decide +kernel
theorem dX0_degree_20 : decode cX0_degree 20 = .ok (.iload_n 3, 1) := by decide +kernel
theorem dX0_degree_21 : decode cX0_degree 21 = .ok (.invokevirtual 105, 3) := by decide +kernel
theorem dX0_degree_24 : decode cX0_degree 24 = .ok (.ifCond .eq 5, 3) := by decide +kernel
theorem dX0_degree_27 : decode cX0_degree 27 = .ok (.iload_n 3, 1) := by decide +kernel
theorem dX0_degree_28 : decode cX0_degree 28 = .ok (.ireturn, 1) := by decide +kernel
theorem dX0_degree_29 : decode cX0_degree 29 = .ok (.iinc 3 (-1), 3) := by decide +kernel
theorem dX0_degree_32 : decode cX0_degree 32 = .ok (.goto (-21), 3) := by decide +kernel
theorem dX0_degree_35 : decode cX0_degree 35 = .ok (.bipush (-5), 2) := by decide +kernel
theorem dX0_degree_37 : decode cX0_degree 37 = .ok (.ireturn, 1) := by decide +kernel
theorem dX0_value_0 : decode cX0_value 0 = .ok (.aload_n 0, 1) := by decide +kernel
theorem dX0_value_1 : decode cX0_value 1 = .ok (.iload_n 1, 1) := by decide +kernel
theorem dX0_value_2 : decode cX0_value 2 = .ok (.invokevirtual 45, 3) := by decide +kernel
theorem dX0_value_5 : decode cX0_value 5 = .ok (.lload_n 2, 1) := by decide +kernel
theorem dX0_value_6 : decode cX0_value 6 = .ok (.invokestatic 33, 3) := by decide +kernel
theorem dX0_value_9 : decode cX0_value 9 = .ok (.istore 8, 2) := by decide +kernel
theorem dX0_value_11 : decode cX0_value 11 = .ok (.lload 4, 2) := by decide +kernel
theorem dX0_value_13 : decode cX0_value 13 = .ok (.invokestatic 33, 3) := by decide +kernel
theorem dX0_value_16 : decode cX0_value 16 = .ok (.istore 9, 2) := by decide +kernel
theorem dX0_value_18 : decode cX0_value 18 = .ok (.lload 6, 2) := by decide +kernel
theorem dX0_value_20 : decode cX0_value 20 = .ok (.invokestatic 33, 3) := by decide +kernel
theorem dX0_value_23 : decode cX0_value 23 = .ok (.istore 10, 2) := by decide +kernel
theorem dX0_value_25 : decode cX0_value 25 = .ok (.iload 8, 2) := by decide +kernel
theorem dX0_value_27 : decode cX0_value 27 = .ok (.ifCond .ne 11, 3) := by decide +kernel
theorem dX0_value_30 : decode cX0_value 30 = .ok (.aload_n 0, 1) := by decide +kernel
theorem dX0_value_31 : decode cX0_value 31 = .ok (.iload_n 1, 1) := by decide +kernel
theorem dX0_value_32 : decode cX0_value 32 = .ok (.invokevirtual 112, 3) := by decide +kernel
theorem dX0_value_35 : decode cX0_value 35 = .ok (.ifCond .ne 16, 3) := by decide +kernel
theorem dX0_value_38 : decode cX0_value 38 = .ok (.iload 10, 2) := by decide +kernel
theorem dX0_value_40 : decode cX0_value 40 = .ok (.ifCond .ne 13, 3) := by decide +kernel
theorem dX0_value_43 : decode cX0_value 43 = .ok (.aload_n 0, 1) := by decide +kernel
theorem dX0_value_44 : decode cX0_value 44 = .ok (.iload_n 1, 1) := by decide +kernel
theorem dX0_value_45 : decode cX0_value 45 = .ok (.invokevirtual 115, 3) := by decide +kernel
theorem dX0_value_48 : decode cX0_value 48 = .ok (.ifCond .eq 5, 3) := by decide +kernel
theorem dX0_value_51 : decode cX0_value 51 = .ok (.iconst (-1), 1) := by decide +kernel
theorem dX0_value_52 : decode cX0_value 52 = .ok (.ireturn, 1) := by decide +kernel
theorem dX0_value_53 : decode cX0_value 53 = .ok (.iload 8, 2) := by decide +kernel
theorem dX0_value_55 : decode cX0_value 55 = .ok (.invokestatic 118, 3) := by decide +kernel
theorem dX0_value_58 : decode cX0_value 58 = .ok (.istore 11, 2) := by decide +kernel
theorem dX0_value_60 : decode cX0_value 60 = .ok (.iload 10, 2) := by decide +kernel
theorem dX0_value_62 : decode cX0_value 62 = .ok (.invokestatic 118, 3) := by decide +kernel
theorem dX0_value_65 : decode cX0_value 65 = .ok (.istore 12, 2) := by decide +kernel
theorem dX0_value_67 : decode cX0_value 67 = .ok (.iconst 0, 1) := by decide +kernel
theorem dX0_value_68 : decode cX0_value 68 = .ok (.istore 13, 2) := by decide +kernel
theorem dX0_value_70 : decode cX0_value 70 = .ok (.iconst 0, 1) := by decide +kernel
theorem dX0_value_71 : decode cX0_value 71 = .ok (.istore 14, 2) := by decide +kernel
theorem dX0_value_73 : decode cX0_value 73 = .ok (.iload 14, 2) := by decide +kernel
theorem dX0_value_75 : decode cX0_value 75 = .ok (.bipush 8, 2) := by decide +kernel
theorem dX0_value_77 : decode cX0_value 77 = .ok (.if_icmp .ge 76, 3) := by decide +kernel
theorem dX0_value_80 : decode cX0_value 80 = .ok (.iload 14, 2) := by decide +kernel
theorem dX0_value_82 : decode cX0_value 82 = .ok (.invokestatic 122, 3) := by decide +kernel
theorem dX0_value_85 : decode cX0_value 85 = .ok (.istore 15, 2) := by decide +kernel
theorem dX0_value_87 : decode cX0_value 87 = .ok (.iload 9, 2) := by decide +kernel
theorem dX0_value_89 : decode cX0_value 89 = .ok (.iload 14, 2) := by decide +kernel
theorem dX0_value_91 : decode cX0_value 91 = .ok (.invokestatic 125, 3) := by decide +kernel
theorem dX0_value_94 : decode cX0_value 94 = .ok (.invokestatic 128, 3) := by decide +kernel
theorem dX0_value_97 : decode cX0_value 97 = .ok (.iload 15, 2) := by decide +kernel
theorem dX0_value_99 : decode cX0_value 99 = .ok (.ifCond .ge 8, 3) := by decide +kernel
theorem dX0_value_102 : decode cX0_value 102 = .ok (.iload 12, 2) := by decide +kernel
theorem dX0_value_104 : decode cX0_value 104 = .ok (.goto 5, 3) := by decide +kernel
theorem dX0_value_107 : decode cX0_value 107 = .ok (.iload 10, 2) := by decide +kernel
theorem dX0_value_109 : decode cX0_value 109 = .ok (.iload 15, 2) := by decide +kernel
theorem dX0_value_111 : decode cX0_value 111 = .ok (.invokestatic 131, 3) := by decide +kernel
theorem dX0_value_114 : decode cX0_value 114 = .ok (.invokestatic 128, 3) := by decide +kernel
theorem dX0_value_117 : decode cX0_value 117 = .ok (.invokestatic 136, 3) := by decide +kernel
theorem dX0_value_120 : decode cX0_value 120 = .ok (.istore 16, 2) := by decide +kernel
theorem dX0_value_122 : decode cX0_value 122 = .ok (.iload 13, 2) := by decide +kernel
theorem dX0_value_124 : decode cX0_value 124 = .ok (.i2l, 1) := by decide +kernel
theorem dX0_value_125 : decode cX0_value 125 = .ok (.iload 16, 2) := by decide +kernel
theorem dX0_value_127 : decode cX0_value 127 = .ok (.i2l, 1) := by decide +kernel
theorem dX0_value_128 : decode cX0_value 128 = .ok (.aload_n 0, 1) := by decide +kernel
theorem dX0_value_129 : decode cX0_value 129 = .ok (.iload_n 1, 1) := by decide +kernel
theorem dX0_value_130 : decode cX0_value 130 = .ok (.iload 14, 2) := by decide +kernel
theorem dX0_value_132 : decode cX0_value 132 = .ok (.iload 8, 2) := by decide +kernel
theorem dX0_value_134 : decode cX0_value 134 = .ok (.iload 11, 2) := by decide +kernel
theorem dX0_value_136 : decode cX0_value 136 = .ok (.invokevirtual 139, 3) := by decide +kernel
theorem dX0_value_139 : decode cX0_value 139 = .ok (.i2l, 1) := by decide +kernel
theorem dX0_value_140 : decode cX0_value 140 = .ok (.lmul, 1) := by decide +kernel
theorem dX0_value_141 : decode cX0_value 141 = .ok (.ladd, 1) := by decide +kernel
theorem dX0_value_142 : decode cX0_value 142 = .ok (.invokestatic 33, 3) := by decide +kernel
theorem dX0_value_145 : decode cX0_value 145 = .ok (.istore 13, 2) := by decide +kernel
theorem dX0_value_147 : decode cX0_value 147 = .ok (.iinc 14 1, 3) := by decide +kernel
theorem dX0_value_150 : decode cX0_value 150 = .ok (.goto (-77), 3) := by decide +kernel
theorem dX0_value_153 : decode cX0_value 153 = .ok (.iload 13, 2) := by decide +kernel
theorem dX0_value_155 : decode cX0_value 155 = .ok (.ireturn, 1) := by decide +kernel
theorem dX0_same_0 : decode cX0_same 0 = .ok (.aload_n 0, 1) := by decide +kernel
theorem dX0_same_1 : decode cX0_same 1 = .ok (.iload_n 1, 1) := by decide +kernel
theorem dX0_same_2 : decode cX0_same 2 = .ok (.invokevirtual 45, 3) := by decide +kernel
theorem dX0_same_5 : decode cX0_same 5 = .ok (.aload_n 0, 1) := by decide +kernel
theorem dX0_same_6 : decode cX0_same 6 = .ok (.iload_n 2, 1) := by decide +kernel
theorem dX0_same_7 : decode cX0_same 7 = .ok (.invokevirtual 45, 3) := by decide +kernel
theorem dX0_same_10 : decode cX0_same 10 = .ok (.iconst 0, 1) := by decide +kernel
theorem dX0_same_11 : decode cX0_same 11 = .ok (.istore_n 3, 1) := by decide +kernel
theorem dX0_same_12 : decode cX0_same 12 = .ok (.iload_n 3, 1) := by decide +kernel
theorem dX0_same_13 : decode cX0_same 13 = .ok (.bipush 8, 2) := by decide +kernel
theorem dX0_same_15 : decode cX0_same 15 = .ok (.if_icmp .ge 46, 3) := by decide +kernel
theorem dX0_same_18 : decode cX0_same 18 = .ok (.bipush (-4), 2) := by decide +kernel
theorem dX0_same_20 : decode cX0_same 20 = .ok (.istore 4, 2) := by decide +kernel
theorem dX0_same_22 : decode cX0_same 22 = .ok (.iload 4, 2) := by decide +kernel
theorem dX0_same_24 : decode cX0_same 24 = .ok (.iconst 4, 1) := by decide +kernel
theorem dX0_same_25 : decode cX0_same 25 = .ok (.if_icmp .gt 30, 3) := by decide +kernel
theorem dX0_same_28 : decode cX0_same 28 = .ok (.aload_n 0, 1) := by decide +kernel
theorem dX0_same_29 : decode cX0_same 29 = .ok (.iload_n 1, 1) := by decide +kernel
theorem dX0_same_30 : decode cX0_same 30 = .ok (.iload_n 3, 1) := by decide +kernel
theorem dX0_same_31 : decode cX0_same 31 = .ok (.iload 4, 2) := by decide +kernel
theorem dX0_same_33 : decode cX0_same 33 = .ok (.invokevirtual 105, 3) := by decide +kernel
theorem dX0_same_36 : decode cX0_same 36 = .ok (.aload_n 0, 1) := by decide +kernel
theorem dX0_same_37 : decode cX0_same 37 = .ok (.iload_n 2, 1) := by decide +kernel
theorem dX0_same_38 : decode cX0_same 38 = .ok (.iload_n 3, 1) := by decide +kernel
theorem dX0_same_39 : decode cX0_same 39 = .ok (.iload 4, 2) := by decide +kernel
theorem dX0_same_41 : decode cX0_same 41 = .ok (.invokevirtual 105, 3) := by decide +kernel
theorem dX0_same_44 : decode cX0_same 44 = .ok (.if_icmp .eq 5, 3) := by decide +kernel
theorem dX0_same_47 : decode cX0_same 47 = .ok (.iconst 0, 1) := by decide +kernel
theorem dX0_same_48 : decode cX0_same 48 = .ok (.ireturn, 1) := by decide +kernel
theorem dX0_same_49 : decode cX0_same 49 = .ok (.iinc 4 1, 3) := by decide +kernel
theorem dX0_same_52 : decode cX0_same 52 = .ok (.goto (-30), 3) := by decide +kernel
theorem dX0_same_55 : decode cX0_same 55 = .ok (.iinc 3 1, 3) := by decide +kernel
theorem dX0_same_58 : decode cX0_same 58 = .ok (.goto (-46), 3) := by decide +kernel
theorem dX0_same_61 : decode cX0_same 61 = .ok (.iconst 1, 1) := by decide +kernel
theorem dX0_same_62 : decode cX0_same 62 = .ok (.ireturn, 1) := by decide +kernel
theorem dX0_count_0 : decode cX0_count 0 = .ok (.aload_n 0, 1) := by decide +kernel
theorem dX0_count_1 : decode cX0_count 1 = .ok (.getfield 16, 3) := by decide +kernel
theorem dX0_count_4 : decode cX0_count 4 = .ok (.ireturn, 1) := by decide +kernel
theorem dX0_needElement_0 : decode cX0_needElement 0 = .ok (.iload_n 1, 1) := by decide +kernel
theorem dX0_needElement_1 : decode cX0_needElement 1 = .ok (.ifCond .lt 11, 3) := by decide +kernel
theorem dX0_needElement_4 : decode cX0_needElement 4 = .ok (.iload_n 1, 1) := by decide +kernel
theorem dX0_needElement_5 : decode cX0_needElement 5 = .ok (.aload_n 0, 1) := by decide +kernel
theorem dX0_needElement_6 : decode cX0_needElement 6 = .ok (.getfield 16, 3) := by decide +kernel
theorem dX0_needElement_9 : decode cX0_needElement 9 = .ok (.if_icmp .lt 13, 3) := by decide +kernel
theorem dX0_needElement_12 : decode cX0_needElement 12 = .ok (.new 143, 3) := by decide +kernel
theorem dX0_needElement_15 : decode cX0_needElement 15 = .ok (.dup, 1) := by decide +kernel
theorem dX0_needElement_16 : decode cX0_needElement 16 = .ok (.ldc 145, 2) := by decide +kernel
theorem dX0_needElement_18 : decode cX0_needElement 18 = .ok (.invokespecial 147, 3) := by decide +kernel
theorem dX0_needElement_21 : decode cX0_needElement 21 = .ok (.athrow, 1) := by decide +kernel
theorem dX0_needElement_22 : decode cX0_needElement 22 = .ok (.return_, 1) := by decide +kernel
theorem dX0_needRoom_0 : decode cX0_needRoom 0 = .ok (.aload_n 0, 1) := by decide +kernel
theorem dX0_needRoom_1 : decode cX0_needRoom 1 = .ok (.getfield 16, 3) := by decide +kernel
theorem dX0_needRoom_4 : decode cX0_needRoom 4 = .ok (.bipush 60, 2) := by decide +kernel
theorem dX0_needRoom_6 : decode cX0_needRoom 6 = .ok (.if_icmp .lt 13, 3) := by decide +kernel
theorem dX0_needRoom_9 : decode cX0_needRoom 9 = .ok (.new 55, 3) := by decide +kernel
theorem dX0_needRoom_12 : decode cX0_needRoom 12 = .ok (.dup, 1) := by decide +kernel
theorem dX0_needRoom_13 : decode cX0_needRoom 13 = .ok (.ldc 148, 2) := by decide +kernel
theorem dX0_needRoom_15 : decode cX0_needRoom 15 = .ok (.invokespecial 59, 3) := by decide +kernel
theorem dX0_needRoom_18 : decode cX0_needRoom 18 = .ok (.athrow, 1) := by decide +kernel
theorem dX0_needRoom_19 : decode cX0_needRoom 19 = .ok (.return_, 1) := by decide +kernel
theorem dX0_needKind_0 : decode cX0_needKind 0 = .ok (.iload_n 0, 1) := by decide +kernel
theorem dX0_needKind_1 : decode cX0_needKind 1 = .ok (.invokestatic 150, 3) := by decide +kernel
theorem dX0_needKind_4 : decode cX0_needKind 4 = .ok (.ifCond .ne 13, 3) := by decide +kernel
theorem dX0_needKind_7 : decode cX0_needKind 7 = .ok (.new 153, 3) := by decide +kernel
theorem dX0_needKind_10 : decode cX0_needKind 10 = .ok (.dup, 1) := by decide +kernel
theorem dX0_needKind_11 : decode cX0_needKind 11 = .ok (.ldc 155, 2) := by decide +kernel
theorem dX0_needKind_13 : decode cX0_needKind 13 = .ok (.invokespecial 157, 3) := by decide +kernel
theorem dX0_needKind_16 : decode cX0_needKind 16 = .ok (.athrow, 1) := by decide +kernel
theorem dX0_needKind_17 : decode cX0_needKind 17 = .ok (.return_, 1) := by decide +kernel
theorem dX0_needPower_0 : decode cX0_needPower 0 = .ok (.iload_n 0, 1) := by decide +kernel
theorem dX0_needPower_1 : decode cX0_needPower 1 = .ok (.invokestatic 158, 3) := by decide +kernel
theorem dX0_needPower_4 : decode cX0_needPower 4 = .ok (.ifCond .ne 13, 3) := by decide +kernel
theorem dX0_needPower_7 : decode cX0_needPower 7 = .ok (.new 153, 3) := by decide +kernel
theorem dX0_needPower_10 : decode cX0_needPower 10 = .ok (.dup, 1) := by decide +kernel
theorem dX0_needPower_11 : decode cX0_needPower 11 = .ok (.ldc 161, 2) := by decide +kernel
theorem dX0_needPower_13 : decode cX0_needPower 13 = .ok (.invokespecial 157, 3) := by decide +kernel
theorem dX0_needPower_16 : decode cX0_needPower 16 = .ok (.athrow, 1) := by decide +kernel
theorem dX0_needPower_17 : decode cX0_needPower 17 = .ok (.return_, 1) := by decide +kernel
theorem dX0_isKind_0 : decode cX0_isKind 0 = .ok (.iload_n 0, 1) := by decide +kernel
theorem dX0_isKind_1 : decode cX0_isKind 1 = .ok (.ifCond .lt 13, 3) := by decide +kernel
theorem dX0_isKind_4 : decode cX0_isKind 4 = .ok (.iload_n 0, 1) := by decide +kernel
theorem dX0_isKind_5 : decode cX0_isKind 5 = .ok (.bipush 8, 2) := by decide +kernel
theorem dX0_isKind_7 : decode cX0_isKind 7 = .ok (.if_icmp .ge 7, 3) := by decide +kernel
theorem dX0_isKind_10 : decode cX0_isKind 10 = .ok (.iconst 1, 1) := by decide +kernel
theorem dX0_isKind_11 : decode cX0_isKind 11 = .ok (.goto 4, 3) := by decide +kernel
theorem dX0_isKind_14 : decode cX0_isKind 14 = .ok (.iconst 0, 1) := by decide +kernel
theorem dX0_isKind_15 : decode cX0_isKind 15 = .ok (.ireturn, 1) := by decide +kernel
theorem dX0_isPower_0 : decode cX0_isPower 0 = .ok (.iload_n 0, 1) := by decide +kernel
theorem dX0_isPower_1 : decode cX0_isPower 1 = .ok (.bipush (-4), 2) := by decide +kernel
theorem dX0_isPower_3 : decode cX0_isPower 3 = .ok (.if_icmp .lt 12, 3) := by decide +kernel
theorem dX0_isPower_6 : decode cX0_isPower 6 = .ok (.iload_n 0, 1) := by decide +kernel
theorem dX0_isPower_7 : decode cX0_isPower 7 = .ok (.iconst 4, 1) := by decide +kernel
theorem dX0_isPower_8 : decode cX0_isPower 8 = .ok (.if_icmp .gt 7, 3) := by decide +kernel
theorem dX0_isPower_11 : decode cX0_isPower 11 = .ok (.iconst 1, 1) := by decide +kernel
theorem dX0_isPower_12 : decode cX0_isPower 12 = .ok (.goto 4, 3) := by decide +kernel
theorem dX0_isPower_15 : decode cX0_isPower 15 = .ok (.iconst 0, 1) := by decide +kernel
theorem dX0_isPower_16 : decode cX0_isPower 16 = .ok (.ireturn, 1) := by decide +kernel
theorem dX0_logPower_0 : decode cX0_logPower 0 = .ok (.iload_n 0, 1) := by decide +kernel
theorem dX0_logPower_1 : decode cX0_logPower 1 = .ok (.invokestatic 150, 3) := by decide +kernel
theorem dX0_logPower_4 : decode cX0_logPower 4 = .ok (.ifCond .eq 11, 3) := by decide +kernel
theorem dX0_logPower_7 : decode cX0_logPower 7 = .ok (.getstatic 163, 3) := by decide +kernel
theorem dX0_logPower_10 : decode cX0_logPower 10 = .ok (.iload_n 0, 1) := by decide +kernel
theorem dX0_logPower_11 : decode cX0_logPower 11 = .ok (.iaload, 1) := by decide +kernel
theorem dX0_logPower_12 : decode cX0_logPower 12 = .ok (.goto 4, 3) := by decide +kernel
theorem dX0_logPower_15 : decode cX0_logPower 15 = .ok (.iconst 0, 1) := by decide +kernel
theorem dX0_logPower_16 : decode cX0_logPower 16 = .ok (.ireturn, 1) := by decide +kernel
theorem dX0_exponentialPower_0 : decode cX0_exponentialPower 0 = .ok (.iload_n 0, 1) := by decide +kernel
theorem dX0_exponentialPower_1 : decode cX0_exponentialPower 1 = .ok (.invokestatic 150, 3) := by decide +kernel
theorem dX0_exponentialPower_4 : decode cX0_exponentialPower 4 = .ok (.ifCond .eq 11, 3) := by decide +kernel
theorem dX0_exponentialPower_7 : decode cX0_exponentialPower 7 = .ok (.getstatic 166, 3) := by decide +kernel
theorem dX0_exponentialPower_10 : decode cX0_exponentialPower 10 = .ok (.iload_n 0, 1) := by decide +kernel
theorem dX0_exponentialPower_11 : decode cX0_exponentialPower 11 = .ok (.iaload, 1) := by decide +kernel
theorem dX0_exponentialPower_12 : decode cX0_exponentialPower 12 = .ok (.goto 4, 3) := by decide +kernel
theorem dX0_exponentialPower_15 : decode cX0_exponentialPower 15 = .ok (.iconst 0, 1) := by decide +kernel
theorem dX0_exponentialPower_16 : decode cX0_exponentialPower 16 = .ok (.ireturn, 1) := by decide +kernel
theorem dX0_reduce_0 : decode cX0_reduce 0 = .ok (.lload_n 0, 1) := by decide +kernel
theorem dX0_reduce_1 : decode cX0_reduce 1 = .ok (.ldc2_w 169, 3) := by decide +kernel
theorem dX0_reduce_4 : decode cX0_reduce 4 = .ok (.lrem, 1) := by decide +kernel
theorem dX0_reduce_5 : decode cX0_reduce 5 = .ok (.lstore_n 2, 1) := by decide +kernel
theorem dX0_reduce_6 : decode cX0_reduce 6 = .ok (.lload_n 2, 1) := by decide +kernel
theorem dX0_reduce_7 : decode cX0_reduce 7 = .ok (.lconst 0, 1) := by decide +kernel
theorem dX0_reduce_8 : decode cX0_reduce 8 = .ok (.lcmp, 1) := by decide +kernel
theorem dX0_reduce_9 : decode cX0_reduce 9 = .ok (.ifCond .ge 11, 3) := by decide +kernel
theorem dX0_reduce_12 : decode cX0_reduce 12 = .ok (.lload_n 2, 1) := by decide +kernel
theorem dX0_reduce_13 : decode cX0_reduce 13 = .ok (.ldc2_w 169, 3) := by decide +kernel
theorem dX0_reduce_16 : decode cX0_reduce 16 = .ok (.ladd, 1) := by decide +kernel
theorem dX0_reduce_17 : decode cX0_reduce 17 = .ok (.goto 4, 3) := by decide +kernel
theorem dX0_reduce_20 : decode cX0_reduce 20 = .ok (.lload_n 2, 1) := by decide +kernel
theorem dX0_reduce_21 : decode cX0_reduce 21 = .ok (.l2i, 1) := by decide +kernel
theorem dX0_reduce_22 : decode cX0_reduce 22 = .ok (.ireturn, 1) := by decide +kernel
theorem dX0_multiply_0 : decode cX0_multiply 0 = .ok (.iload_n 0, 1) := by decide +kernel
theorem dX0_multiply_1 : decode cX0_multiply 1 = .ok (.i2l, 1) := by decide +kernel
theorem dX0_multiply_2 : decode cX0_multiply 2 = .ok (.iload_n 1, 1) := by decide +kernel
theorem dX0_multiply_3 : decode cX0_multiply 3 = .ok (.i2l, 1) := by decide +kernel
theorem dX0_multiply_4 : decode cX0_multiply 4 = .ok (.lmul, 1) := by decide +kernel
theorem dX0_multiply_5 : decode cX0_multiply 5 = .ok (.invokestatic 33, 3) := by decide +kernel
theorem dX0_multiply_8 : decode cX0_multiply 8 = .ok (.ireturn, 1) := by decide +kernel
theorem dX0_power_0 : decode cX0_power 0 = .ok (.iconst 1, 1) := by decide +kernel
theorem dX0_power_1 : decode cX0_power 1 = .ok (.istore_n 2, 1) := by decide +kernel
theorem dX0_power_2 : decode cX0_power 2 = .ok (.bipush 14, 2) := by decide +kernel
theorem dX0_power_4 : decode cX0_power 4 = .ok (.istore_n 3, 1) := by decide +kernel
theorem dX0_power_5 : decode cX0_power 5 = .ok (.iload_n 3, 1) := by decide +kernel
theorem dX0_power_6 : decode cX0_power 6 = .ok (.ifCond .lt 36, 3) := by decide +kernel
theorem dX0_power_9 : decode cX0_power 9 = .ok (.iload_n 2, 1) := by decide +kernel
theorem dX0_power_10 : decode cX0_power 10 = .ok (.i2l, 1) := by decide +kernel
theorem dX0_power_11 : decode cX0_power 11 = .ok (.iload_n 2, 1) := by decide +kernel
theorem dX0_power_12 : decode cX0_power 12 = .ok (.i2l, 1) := by decide +kernel
theorem dX0_power_13 : decode cX0_power 13 = .ok (.lmul, 1) := by decide +kernel
theorem dX0_power_14 : decode cX0_power 14 = .ok (.invokestatic 33, 3) := by decide +kernel
