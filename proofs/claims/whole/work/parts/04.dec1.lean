theorem dX0_power_17 : decode cX0_power 17 = .ok (.istore_n 2, 1) := by decide +kernel
theorem dX0_power_18 : decode cX0_power 18 = .ok (.iload_n 1, 1) := by decide +kernel
theorem dX0_power_19 : decode cX0_power 19 = .ok (.iload_n 3, 1) := by decide +kernel
theorem dX0_power_20 : decode cX0_power 20 = .ok (.ishr, 1) := by decide +kernel
theorem dX0_power_21 : decode cX0_power 21 = .ok (.iconst 1, 1) := by decide +kernel
theorem dX0_power_22 : decode cX0_power 22 = .ok (.iand, 1) := by decide +kernel
theorem dX0_power_23 : decode cX0_power 23 = .ok (.iconst 1, 1) := by decide +kernel
theorem dX0_power_24 : decode cX0_power 24 = .ok (.if_icmp .ne 12, 3) := by decide +kernel
theorem dX0_power_27 : decode cX0_power 27 = .ok (.iload_n 2, 1) := by decide +kernel
theorem dX0_power_28 : decode cX0_power 28 = .ok (.i2l, 1) := by decide +kernel
theorem dX0_power_29 : decode cX0_power 29 = .ok (.iload_n 0, 1) := by decide +kernel
theorem dX0_power_30 : decode cX0_power 30 = .ok (.i2l, 1) := by decide +kernel
theorem dX0_power_31 : decode cX0_power 31 = .ok (.lmul, 1) := by decide +kernel
theorem dX0_power_32 : decode cX0_power 32 = .ok (.invokestatic 33, 3) := by decide +kernel
theorem dX0_power_35 : decode cX0_power 35 = .ok (.istore_n 2, 1) := by decide +kernel
theorem dX0_power_36 : decode cX0_power 36 = .ok (.iinc 3 (-1), 3) := by decide +kernel
theorem dX0_power_39 : decode cX0_power 39 = .ok (.goto (-34), 3) := by decide +kernel
theorem dX0_power_42 : decode cX0_power 42 = .ok (.iload_n 2, 1) := by decide +kernel
theorem dX0_power_43 : decode cX0_power 43 = .ok (.ireturn, 1) := by decide +kernel
theorem dX0_inverse_0 : decode cX0_inverse 0 = .ok (.iload_n 0, 1) := by decide +kernel
theorem dX0_inverse_1 : decode cX0_inverse 1 = .ok (.sipush 32001, 3) := by decide +kernel
theorem dX0_inverse_4 : decode cX0_inverse 4 = .ok (.invokestatic 128, 3) := by decide +kernel
theorem dX0_inverse_7 : decode cX0_inverse 7 = .ok (.ireturn, 1) := by decide +kernel
theorem dX0_divide_0 : decode cX0_divide 0 = .ok (.lload_n 0, 1) := by decide +kernel
theorem dX0_divide_1 : decode cX0_divide 1 = .ok (.invokestatic 33, 3) := by decide +kernel
theorem dX0_divide_4 : decode cX0_divide 4 = .ok (.iload_n 2, 1) := by decide +kernel
theorem dX0_divide_5 : decode cX0_divide 5 = .ok (.i2l, 1) := by decide +kernel
theorem dX0_divide_6 : decode cX0_divide 6 = .ok (.invokestatic 33, 3) := by decide +kernel
theorem dX0_divide_9 : decode cX0_divide 9 = .ok (.invokestatic 118, 3) := by decide +kernel
theorem dX0_divide_12 : decode cX0_divide 12 = .ok (.invokestatic 136, 3) := by decide +kernel
theorem dX0_divide_15 : decode cX0_divide 15 = .ok (.ireturn, 1) := by decide +kernel
theorem dX0_place_0 : decode cX0_place 0 = .ok (.iload_n 0, 1) := by decide +kernel
theorem dX0_place_1 : decode cX0_place 1 = .ok (.bipush 72, 2) := by decide +kernel
theorem dX0_place_3 : decode cX0_place 3 = .ok (.imul, 1) := by decide +kernel
theorem dX0_place_4 : decode cX0_place 4 = .ok (.iload_n 1, 1) := by decide +kernel
theorem dX0_place_5 : decode cX0_place 5 = .ok (.bipush 9, 2) := by decide +kernel
theorem dX0_place_7 : decode cX0_place 7 = .ok (.imul, 1) := by decide +kernel
theorem dX0_place_8 : decode cX0_place 8 = .ok (.iadd, 1) := by decide +kernel
theorem dX0_place_9 : decode cX0_place 9 = .ok (.iload_n 2, 1) := by decide +kernel
theorem dX0_place_10 : decode cX0_place 10 = .ok (.iadd, 1) := by decide +kernel
theorem dX0_place_11 : decode cX0_place 11 = .ok (.bipush (-4), 2) := by decide +kernel
theorem dX0_place_13 : decode cX0_place 13 = .ok (.isub, 1) := by decide +kernel
theorem dX0_place_14 : decode cX0_place 14 = .ok (.ireturn, 1) := by decide +kernel
theorem dX0_isPlace_0 : decode cX0_isPlace 0 = .ok (.iload_n 0, 1) := by decide +kernel
theorem dX0_isPlace_1 : decode cX0_isPlace 1 = .ok (.ifCond .lt 27, 3) := by decide +kernel
theorem dX0_isPlace_4 : decode cX0_isPlace 4 = .ok (.iload_n 0, 1) := by decide +kernel
theorem dX0_isPlace_5 : decode cX0_isPlace 5 = .ok (.bipush 60, 2) := by decide +kernel
theorem dX0_isPlace_7 : decode cX0_isPlace 7 = .ok (.if_icmp .ge 21, 3) := by decide +kernel
theorem dX0_isPlace_10 : decode cX0_isPlace 10 = .ok (.iload_n 1, 1) := by decide +kernel
theorem dX0_isPlace_11 : decode cX0_isPlace 11 = .ok (.invokestatic 150, 3) := by decide +kernel
theorem dX0_isPlace_14 : decode cX0_isPlace 14 = .ok (.ifCond .eq 14, 3) := by decide +kernel
theorem dX0_isPlace_17 : decode cX0_isPlace 17 = .ok (.iload_n 2, 1) := by decide +kernel
theorem dX0_isPlace_18 : decode cX0_isPlace 18 = .ok (.invokestatic 158, 3) := by decide +kernel
theorem dX0_isPlace_21 : decode cX0_isPlace 21 = .ok (.ifCond .eq 7, 3) := by decide +kernel
theorem dX0_isPlace_24 : decode cX0_isPlace 24 = .ok (.iconst 1, 1) := by decide +kernel
theorem dX0_isPlace_25 : decode cX0_isPlace 25 = .ok (.goto 4, 3) := by decide +kernel
theorem dX0_isPlace_28 : decode cX0_isPlace 28 = .ok (.iconst 0, 1) := by decide +kernel
theorem dX0_isPlace_29 : decode cX0_isPlace 29 = .ok (.ireturn, 1) := by decide +kernel
theorem dX0_number_0 : decode cX0_number 0 = .ok (.iload_n 1, 1) := by decide +kernel
theorem dX0_number_1 : decode cX0_number 1 = .ok (.iload_n 2, 1) := by decide +kernel
theorem dX0_number_2 : decode cX0_number 2 = .ok (.iload_n 3, 1) := by decide +kernel
theorem dX0_number_3 : decode cX0_number 3 = .ok (.invokestatic 171, 3) := by decide +kernel
theorem dX0_number_6 : decode cX0_number 6 = .ok (.ifCond .eq 17, 3) := by decide +kernel
theorem dX0_number_9 : decode cX0_number 9 = .ok (.aload_n 0, 1) := by decide +kernel
theorem dX0_number_10 : decode cX0_number 10 = .ok (.getfield 9, 3) := by decide +kernel
theorem dX0_number_13 : decode cX0_number 13 = .ok (.iload_n 1, 1) := by decide +kernel
theorem dX0_number_14 : decode cX0_number 14 = .ok (.iload_n 2, 1) := by decide +kernel
theorem dX0_number_15 : decode cX0_number 15 = .ok (.iload_n 3, 1) := by decide +kernel
theorem dX0_number_16 : decode cX0_number 16 = .ok (.invokestatic 175, 3) := by decide +kernel
theorem dX0_number_19 : decode cX0_number 19 = .ok (.iaload, 1) := by decide +kernel
theorem dX0_number_20 : decode cX0_number 20 = .ok (.goto 4, 3) := by decide +kernel
theorem dX0_number_23 : decode cX0_number 23 = .ok (.iconst 0, 1) := by decide +kernel
theorem dX0_number_24 : decode cX0_number 24 = .ok (.ireturn, 1) := by decide +kernel
theorem dX0_setDraft_0 : decode cX0_setDraft 0 = .ok (.aload_n 0, 1) := by decide +kernel
theorem dX0_setDraft_1 : decode cX0_setDraft 1 = .ok (.getfield 16, 3) := by decide +kernel
theorem dX0_setDraft_4 : decode cX0_setDraft 4 = .ok (.iload_n 1, 1) := by decide +kernel
theorem dX0_setDraft_5 : decode cX0_setDraft 5 = .ok (.iload_n 2, 1) := by decide +kernel
theorem dX0_setDraft_6 : decode cX0_setDraft 6 = .ok (.invokestatic 171, 3) := by decide +kernel
theorem dX0_setDraft_9 : decode cX0_setDraft 9 = .ok (.ifCond .eq 18, 3) := by decide +kernel
theorem dX0_setDraft_12 : decode cX0_setDraft 12 = .ok (.aload_n 0, 1) := by decide +kernel
theorem dX0_setDraft_13 : decode cX0_setDraft 13 = .ok (.getfield 9, 3) := by decide +kernel
theorem dX0_setDraft_16 : decode cX0_setDraft 16 = .ok (.aload_n 0, 1) := by decide +kernel
theorem dX0_setDraft_17 : decode cX0_setDraft 17 = .ok (.getfield 16, 3) := by decide +kernel
theorem dX0_setDraft_20 : decode cX0_setDraft 20 = .ok (.iload_n 1, 1) := by decide +kernel
theorem dX0_setDraft_21 : decode cX0_setDraft 21 = .ok (.iload_n 2, 1) := by decide +kernel
theorem dX0_setDraft_22 : decode cX0_setDraft 22 = .ok (.invokestatic 175, 3) := by decide +kernel
theorem dX0_setDraft_25 : decode cX0_setDraft 25 = .ok (.iload_n 3, 1) := by decide +kernel
theorem dX0_setDraft_26 : decode cX0_setDraft 26 = .ok (.iastore, 1) := by decide +kernel
theorem dX0_setDraft_27 : decode cX0_setDraft 27 = .ok (.return_, 1) := by decide +kernel
theorem dX0_clearDraft_0 : decode cX0_clearDraft 0 = .ok (.iconst 0, 1) := by decide +kernel
theorem dX0_clearDraft_1 : decode cX0_clearDraft 1 = .ok (.istore_n 1, 1) := by decide +kernel
theorem dX0_clearDraft_2 : decode cX0_clearDraft 2 = .ok (.iload_n 1, 1) := by decide +kernel
theorem dX0_clearDraft_3 : decode cX0_clearDraft 3 = .ok (.bipush 8, 2) := by decide +kernel
theorem dX0_clearDraft_5 : decode cX0_clearDraft 5 = .ok (.if_icmp .ge 30, 3) := by decide +kernel
theorem dX0_clearDraft_8 : decode cX0_clearDraft 8 = .ok (.bipush (-4), 2) := by decide +kernel
theorem dX0_clearDraft_10 : decode cX0_clearDraft 10 = .ok (.istore_n 2, 1) := by decide +kernel
theorem dX0_clearDraft_11 : decode cX0_clearDraft 11 = .ok (.iload_n 2, 1) := by decide +kernel
theorem dX0_clearDraft_12 : decode cX0_clearDraft 12 = .ok (.iconst 4, 1) := by decide +kernel
theorem dX0_clearDraft_13 : decode cX0_clearDraft 13 = .ok (.if_icmp .gt 16, 3) := by decide +kernel
theorem dX0_clearDraft_16 : decode cX0_clearDraft 16 = .ok (.aload_n 0, 1) := by decide +kernel
theorem dX0_clearDraft_17 : decode cX0_clearDraft 17 = .ok (.iload_n 1, 1) := by decide +kernel
theorem dX0_clearDraft_18 : decode cX0_clearDraft 18 = .ok (.iload_n 2, 1) := by decide +kernel
theorem dX0_clearDraft_19 : decode cX0_clearDraft 19 = .ok (.iconst 0, 1) := by decide +kernel
theorem dX0_clearDraft_20 : decode cX0_clearDraft 20 = .ok (.invokevirtual 37, 3) := by decide +kernel
theorem dX0_clearDraft_23 : decode cX0_clearDraft 23 = .ok (.iinc 2 1, 3) := by decide +kernel
theorem dX0_clearDraft_26 : decode cX0_clearDraft 26 = .ok (.goto (-15), 3) := by decide +kernel
theorem dX0_clearDraft_29 : decode cX0_clearDraft 29 = .ok (.iinc 1 1, 3) := by decide +kernel
theorem dX0_clearDraft_32 : decode cX0_clearDraft 32 = .ok (.goto (-30), 3) := by decide +kernel
theorem dX0_clearDraft_35 : decode cX0_clearDraft 35 = .ok (.return_, 1) := by decide +kernel
theorem dX0_keepDraft_0 : decode cX0_keepDraft 0 = .ok (.aload_n 0, 1) := by decide +kernel
theorem dX0_keepDraft_1 : decode cX0_keepDraft 1 = .ok (.getfield 16, 3) := by decide +kernel
theorem dX0_keepDraft_4 : decode cX0_keepDraft 4 = .ok (.istore_n 1, 1) := by decide +kernel
theorem dX0_keepDraft_5 : decode cX0_keepDraft 5 = .ok (.aload_n 0, 1) := by decide +kernel
theorem dX0_keepDraft_6 : decode cX0_keepDraft 6 = .ok (.aload_n 0, 1) := by decide +kernel
theorem dX0_keepDraft_7 : decode cX0_keepDraft 7 = .ok (.getfield 16, 3) := by decide +kernel
theorem dX0_keepDraft_10 : decode cX0_keepDraft 10 = .ok (.iconst 1, 1) := by decide +kernel
theorem dX0_keepDraft_11 : decode cX0_keepDraft 11 = .ok (.iadd, 1) := by decide +kernel
theorem dX0_keepDraft_12 : decode cX0_keepDraft 12 = .ok (.putfield 16, 3) := by decide +kernel
theorem dX0_keepDraft_15 : decode cX0_keepDraft 15 = .ok (.iload_n 1, 1) := by decide +kernel
theorem dX0_keepDraft_16 : decode cX0_keepDraft 16 = .ok (.ireturn, 1) := by decide +kernel
theorem dX0_countTerms_0 : decode cX0_countTerms 0 = .ok (.iconst 0, 1) := by decide +kernel
theorem dX0_countTerms_1 : decode cX0_countTerms 1 = .ok (.istore 4, 2) := by decide +kernel
theorem dX0_countTerms_3 : decode cX0_countTerms 3 = .ok (.iload_n 2, 1) := by decide +kernel
theorem dX0_countTerms_4 : decode cX0_countTerms 4 = .ok (.istore 5, 2) := by decide +kernel
theorem dX0_countTerms_6 : decode cX0_countTerms 6 = .ok (.iload 5, 2) := by decide +kernel
theorem dX0_countTerms_8 : decode cX0_countTerms 8 = .ok (.iload_n 3, 1) := by decide +kernel
theorem dX0_countTerms_9 : decode cX0_countTerms 9 = .ok (.if_icmp .gt 40, 3) := by decide +kernel
theorem dX0_countTerms_12 : decode cX0_countTerms 12 = .ok (.bipush (-4), 2) := by decide +kernel
theorem dX0_countTerms_14 : decode cX0_countTerms 14 = .ok (.istore 6, 2) := by decide +kernel
theorem dX0_countTerms_16 : decode cX0_countTerms 16 = .ok (.iload 6, 2) := by decide +kernel
theorem dX0_countTerms_18 : decode cX0_countTerms 18 = .ok (.iconst 4, 1) := by decide +kernel
theorem dX0_countTerms_19 : decode cX0_countTerms 19 = .ok (.if_icmp .gt 24, 3) := by decide +kernel
theorem dX0_countTerms_22 : decode cX0_countTerms 22 = .ok (.aload_n 0, 1) := by decide +kernel
theorem dX0_countTerms_23 : decode cX0_countTerms 23 = .ok (.iload_n 1, 1) := by decide +kernel
theorem dX0_countTerms_24 : decode cX0_countTerms 24 = .ok (.iload 5, 2) := by decide +kernel
theorem dX0_countTerms_26 : decode cX0_countTerms 26 = .ok (.iload 6, 2) := by decide +kernel
theorem dX0_countTerms_28 : decode cX0_countTerms 28 = .ok (.invokevirtual 105, 3) := by decide +kernel
theorem dX0_countTerms_31 : decode cX0_countTerms 31 = .ok (.ifCond .eq 6, 3) := by decide +kernel
theorem dX0_countTerms_34 : decode cX0_countTerms 34 = .ok (.iinc 4 1, 3) := by decide +kernel
theorem dX0_countTerms_37 : decode cX0_countTerms 37 = .ok (.iinc 6 1, 3) := by decide +kernel
theorem dX0_countTerms_40 : decode cX0_countTerms 40 = .ok (.goto (-24), 3) := by decide +kernel
theorem dX0_countTerms_43 : decode cX0_countTerms 43 = .ok (.iinc 5 1, 3) := by decide +kernel
theorem dX0_countTerms_46 : decode cX0_countTerms 46 = .ok (.goto (-40), 3) := by decide +kernel
theorem dX0_countTerms_49 : decode cX0_countTerms 49 = .ok (.iload 4, 2) := by decide +kernel
theorem dX0_countTerms_51 : decode cX0_countTerms 51 = .ok (.ireturn, 1) := by decide +kernel
theorem dX0_draftSum_0 : decode cX0_draftSum 0 = .ok (.iconst 0, 1) := by decide +kernel
theorem dX0_draftSum_1 : decode cX0_draftSum 1 = .ok (.istore 4, 2) := by decide +kernel
theorem dX0_draftSum_3 : decode cX0_draftSum 3 = .ok (.iload 4, 2) := by decide +kernel
theorem dX0_draftSum_5 : decode cX0_draftSum 5 = .ok (.bipush 8, 2) := by decide +kernel
theorem dX0_draftSum_7 : decode cX0_draftSum 7 = .ok (.if_icmp .ge 60, 3) := by decide +kernel
theorem dX0_draftSum_10 : decode cX0_draftSum 10 = .ok (.bipush (-4), 2) := by decide +kernel
theorem dX0_draftSum_12 : decode cX0_draftSum 12 = .ok (.istore 5, 2) := by decide +kernel
theorem dX0_draftSum_14 : decode cX0_draftSum 14 = .ok (.iload 5, 2) := by decide +kernel
theorem dX0_draftSum_16 : decode cX0_draftSum 16 = .ok (.iconst 4, 1) := by decide +kernel
theorem dX0_draftSum_17 : decode cX0_draftSum 17 = .ok (.if_icmp .gt 44, 3) := by decide +kernel
theorem dX0_draftSum_20 : decode cX0_draftSum 20 = .ok (.aload_n 0, 1) := by decide +kernel
theorem dX0_draftSum_21 : decode cX0_draftSum 21 = .ok (.iload 4, 2) := by decide +kernel
theorem dX0_draftSum_23 : decode cX0_draftSum 23 = .ok (.iload 5, 2) := by decide +kernel
theorem dX0_draftSum_25 : decode cX0_draftSum 25 = .ok (.aload_n 0, 1) := by decide +kernel
theorem dX0_draftSum_26 : decode cX0_draftSum 26 = .ok (.iload_n 1, 1) := by decide +kernel
theorem dX0_draftSum_27 : decode cX0_draftSum 27 = .ok (.iload 4, 2) := by decide +kernel
theorem dX0_draftSum_29 : decode cX0_draftSum 29 = .ok (.iload 5, 2) := by decide +kernel
theorem dX0_draftSum_31 : decode cX0_draftSum 31 = .ok (.invokevirtual 105, 3) := by decide +kernel
theorem dX0_draftSum_34 : decode cX0_draftSum 34 = .ok (.i2l, 1) := by decide +kernel
theorem dX0_draftSum_35 : decode cX0_draftSum 35 = .ok (.iload_n 3, 1) := by decide +kernel
theorem dX0_draftSum_36 : decode cX0_draftSum 36 = .ok (.i2l, 1) := by decide +kernel
theorem dX0_draftSum_37 : decode cX0_draftSum 37 = .ok (.aload_n 0, 1) := by decide +kernel
theorem dX0_draftSum_38 : decode cX0_draftSum 38 = .ok (.iload_n 2, 1) := by decide +kernel
theorem dX0_draftSum_39 : decode cX0_draftSum 39 = .ok (.iload 4, 2) := by decide +kernel
theorem dX0_draftSum_41 : decode cX0_draftSum 41 = .ok (.iload 5, 2) := by decide +kernel
theorem dX0_draftSum_43 : decode cX0_draftSum 43 = .ok (.invokevirtual 105, 3) := by decide +kernel
theorem dX0_draftSum_46 : decode cX0_draftSum 46 = .ok (.i2l, 1) := by decide +kernel
theorem dX0_draftSum_47 : decode cX0_draftSum 47 = .ok (.lmul, 1) := by decide +kernel
theorem dX0_draftSum_48 : decode cX0_draftSum 48 = .ok (.ladd, 1) := by decide +kernel
theorem dX0_draftSum_49 : decode cX0_draftSum 49 = .ok (.invokestatic 33, 3) := by decide +kernel
theorem dX0_draftSum_52 : decode cX0_draftSum 52 = .ok (.invokevirtual 37, 3) := by decide +kernel
theorem dX0_draftSum_55 : decode cX0_draftSum 55 = .ok (.iinc 5 1, 3) := by decide +kernel
theorem dX0_draftSum_58 : decode cX0_draftSum 58 = .ok (.goto (-44), 3) := by decide +kernel
theorem dX0_draftSum_61 : decode cX0_draftSum 61 = .ok (.iinc 4 1, 3) := by decide +kernel
theorem dX0_draftSum_64 : decode cX0_draftSum 64 = .ok (.goto (-61), 3) := by decide +kernel
theorem dX0_draftSum_67 : decode cX0_draftSum 67 = .ok (.return_, 1) := by decide +kernel
theorem dX0_logMeetsExponential_0 : decode cX0_logMeetsExponential 0 = .ok (.aload_n 0, 1) := by decide +kernel
theorem dX0_logMeetsExponential_1 : decode cX0_logMeetsExponential 1 = .ok (.iload_n 1, 1) := by decide +kernel
theorem dX0_logMeetsExponential_2 : decode cX0_logMeetsExponential 2 = .ok (.iconst 1, 1) := by decide +kernel
theorem dX0_logMeetsExponential_3 : decode cX0_logMeetsExponential 3 = .ok (.iconst 3, 1) := by decide +kernel
theorem dX0_logMeetsExponential_4 : decode cX0_logMeetsExponential 4 = .ok (.invokevirtual 109, 3) := by decide +kernel
theorem dX0_logMeetsExponential_7 : decode cX0_logMeetsExponential 7 = .ok (.ifCond .le 18, 3) := by decide +kernel
theorem dX0_logMeetsExponential_10 : decode cX0_logMeetsExponential 10 = .ok (.aload_n 0, 1) := by decide +kernel
theorem dX0_logMeetsExponential_11 : decode cX0_logMeetsExponential 11 = .ok (.iload_n 2, 1) := by decide +kernel
theorem dX0_logMeetsExponential_12 : decode cX0_logMeetsExponential 12 = .ok (.iconst 4, 1) := by decide +kernel
theorem dX0_logMeetsExponential_13 : decode cX0_logMeetsExponential 13 = .ok (.bipush 7, 2) := by decide +kernel
theorem dX0_logMeetsExponential_15 : decode cX0_logMeetsExponential 15 = .ok (.invokevirtual 109, 3) := by decide +kernel
theorem dX0_logMeetsExponential_18 : decode cX0_logMeetsExponential 18 = .ok (.ifCond .le 7, 3) := by decide +kernel
theorem dX0_logMeetsExponential_21 : decode cX0_logMeetsExponential 21 = .ok (.iconst 1, 1) := by decide +kernel
theorem dX0_logMeetsExponential_22 : decode cX0_logMeetsExponential 22 = .ok (.goto 4, 3) := by decide +kernel
theorem dX0_logMeetsExponential_25 : decode cX0_logMeetsExponential 25 = .ok (.iconst 0, 1) := by decide +kernel
theorem dX0_logMeetsExponential_26 : decode cX0_logMeetsExponential 26 = .ok (.ireturn, 1) := by decide +kernel
theorem dX0_sumUpProduct_0 : decode cX0_sumUpProduct 0 = .ok (.aload_n 0, 1) := by decide +kernel
theorem dX0_sumUpProduct_1 : decode cX0_sumUpProduct 1 = .ok (.invokevirtual 178, 3) := by decide +kernel
theorem dX0_sumUpProduct_4 : decode cX0_sumUpProduct 4 = .ok (.iconst 0, 1) := by decide +kernel
theorem dX0_sumUpProduct_5 : decode cX0_sumUpProduct 5 = .ok (.istore_n 3, 1) := by decide +kernel
theorem dX0_sumUpProduct_6 : decode cX0_sumUpProduct 6 = .ok (.iload_n 3, 1) := by decide +kernel
theorem dX0_sumUpProduct_7 : decode cX0_sumUpProduct 7 = .ok (.bipush 8, 2) := by decide +kernel
theorem dX0_sumUpProduct_9 : decode cX0_sumUpProduct 9 = .ok (.if_icmp .ge 50, 3) := by decide +kernel
theorem dX0_sumUpProduct_12 : decode cX0_sumUpProduct 12 = .ok (.bipush (-4), 2) := by decide +kernel
theorem dX0_sumUpProduct_14 : decode cX0_sumUpProduct 14 = .ok (.istore 4, 2) := by decide +kernel
theorem dX0_sumUpProduct_16 : decode cX0_sumUpProduct 16 = .ok (.iload 4, 2) := by decide +kernel
theorem dX0_sumUpProduct_18 : decode cX0_sumUpProduct 18 = .ok (.iconst 4, 1) := by decide +kernel
theorem dX0_sumUpProduct_19 : decode cX0_sumUpProduct 19 = .ok (.if_icmp .gt 34, 3) := by decide +kernel
theorem dX0_sumUpProduct_22 : decode cX0_sumUpProduct 22 = .ok (.aload_n 0, 1) := by decide +kernel
theorem dX0_sumUpProduct_23 : decode cX0_sumUpProduct 23 = .ok (.iload_n 1, 1) := by decide +kernel
theorem dX0_sumUpProduct_24 : decode cX0_sumUpProduct 24 = .ok (.iload_n 3, 1) := by decide +kernel
theorem dX0_sumUpProduct_25 : decode cX0_sumUpProduct 25 = .ok (.iload 4, 2) := by decide +kernel
theorem dX0_sumUpProduct_27 : decode cX0_sumUpProduct 27 = .ok (.invokevirtual 105, 3) := by decide +kernel
theorem dX0_sumUpProduct_30 : decode cX0_sumUpProduct 30 = .ok (.istore 5, 2) := by decide +kernel
theorem dX0_sumUpProduct_32 : decode cX0_sumUpProduct 32 = .ok (.iload 5, 2) := by decide +kernel
theorem dX0_sumUpProduct_34 : decode cX0_sumUpProduct 34 = .ok (.ifCond .eq 13, 3) := by decide +kernel
theorem dX0_sumUpProduct_37 : decode cX0_sumUpProduct 37 = .ok (.aload_n 0, 1) := by decide +kernel
theorem dX0_sumUpProduct_38 : decode cX0_sumUpProduct 38 = .ok (.iload_n 2, 1) := by decide +kernel
theorem dX0_sumUpProduct_39 : decode cX0_sumUpProduct 39 = .ok (.iload_n 3, 1) := by decide +kernel
theorem dX0_sumUpProduct_40 : decode cX0_sumUpProduct 40 = .ok (.iload 4, 2) := by decide +kernel
theorem dX0_sumUpProduct_42 : decode cX0_sumUpProduct 42 = .ok (.iload 5, 2) := by decide +kernel
theorem dX0_sumUpProduct_44 : decode cX0_sumUpProduct 44 = .ok (.invokevirtual 181, 3) := by decide +kernel
theorem dX0_sumUpProduct_47 : decode cX0_sumUpProduct 47 = .ok (.iinc 4 1, 3) := by decide +kernel
theorem dX0_sumUpProduct_50 : decode cX0_sumUpProduct 50 = .ok (.goto (-34), 3) := by decide +kernel
theorem dX0_sumUpProduct_53 : decode cX0_sumUpProduct 53 = .ok (.iinc 3 1, 3) := by decide +kernel
theorem dX0_sumUpProduct_56 : decode cX0_sumUpProduct 56 = .ok (.goto (-50), 3) := by decide +kernel
theorem dX0_sumUpProduct_59 : decode cX0_sumUpProduct 59 = .ok (.return_, 1) := by decide +kernel
theorem dX0_addMultiple_0 : decode cX0_addMultiple 0 = .ok (.iconst 0, 1) := by decide +kernel
theorem dX0_addMultiple_1 : decode cX0_addMultiple 1 = .ok (.istore 5, 2) := by decide +kernel
theorem dX0_addMultiple_3 : decode cX0_addMultiple 3 = .ok (.iload 5, 2) := by decide +kernel
theorem dX0_addMultiple_5 : decode cX0_addMultiple 5 = .ok (.bipush 8, 2) := by decide +kernel
theorem dX0_addMultiple_7 : decode cX0_addMultiple 7 = .ok (.if_icmp .ge 57, 3) := by decide +kernel
theorem dX0_addMultiple_10 : decode cX0_addMultiple 10 = .ok (.iload 5, 2) := by decide +kernel
theorem dX0_addMultiple_12 : decode cX0_addMultiple 12 = .ok (.iload_n 2, 1) := by decide +kernel
theorem dX0_addMultiple_13 : decode cX0_addMultiple 13 = .ok (.invokestatic 185, 3) := by decide +kernel
theorem dX0_addMultiple_16 : decode cX0_addMultiple 16 = .ok (.istore 6, 2) := by decide +kernel
theorem dX0_addMultiple_18 : decode cX0_addMultiple 18 = .ok (.bipush (-4), 2) := by decide +kernel
theorem dX0_addMultiple_20 : decode cX0_addMultiple 20 = .ok (.istore 7, 2) := by decide +kernel
theorem dX0_addMultiple_22 : decode cX0_addMultiple 22 = .ok (.iload 7, 2) := by decide +kernel
theorem dX0_addMultiple_24 : decode cX0_addMultiple 24 = .ok (.iconst 4, 1) := by decide +kernel
theorem dX0_addMultiple_25 : decode cX0_addMultiple 25 = .ok (.if_icmp .gt 33, 3) := by decide +kernel
theorem dX0_addMultiple_28 : decode cX0_addMultiple 28 = .ok (.aload_n 0, 1) := by decide +kernel
theorem dX0_addMultiple_29 : decode cX0_addMultiple 29 = .ok (.iload 6, 2) := by decide +kernel
theorem dX0_addMultiple_31 : decode cX0_addMultiple 31 = .ok (.iload 7, 2) := by decide +kernel
theorem dX0_addMultiple_33 : decode cX0_addMultiple 33 = .ok (.iload_n 3, 1) := by decide +kernel
theorem dX0_addMultiple_34 : decode cX0_addMultiple 34 = .ok (.iadd, 1) := by decide +kernel
theorem dX0_addMultiple_35 : decode cX0_addMultiple 35 = .ok (.iload 4, 2) := by decide +kernel
theorem dX0_addMultiple_37 : decode cX0_addMultiple 37 = .ok (.i2l, 1) := by decide +kernel
theorem dX0_addMultiple_38 : decode cX0_addMultiple 38 = .ok (.aload_n 0, 1) := by decide +kernel
theorem dX0_addMultiple_39 : decode cX0_addMultiple 39 = .ok (.iload_n 1, 1) := by decide +kernel
theorem dX0_addMultiple_40 : decode cX0_addMultiple 40 = .ok (.iload 5, 2) := by decide +kernel
theorem dX0_addMultiple_42 : decode cX0_addMultiple 42 = .ok (.iload 7, 2) := by decide +kernel
theorem dX0_addMultiple_44 : decode cX0_addMultiple 44 = .ok (.invokevirtual 105, 3) := by decide +kernel
theorem dX0_addMultiple_47 : decode cX0_addMultiple 47 = .ok (.i2l, 1) := by decide +kernel
theorem dX0_addMultiple_48 : decode cX0_addMultiple 48 = .ok (.lmul, 1) := by decide +kernel
theorem dX0_addMultiple_49 : decode cX0_addMultiple 49 = .ok (.invokevirtual 188, 3) := by decide +kernel
theorem dX0_addMultiple_52 : decode cX0_addMultiple 52 = .ok (.iinc 7 1, 3) := by decide +kernel
theorem dX0_addMultiple_55 : decode cX0_addMultiple 55 = .ok (.goto (-33), 3) := by decide +kernel
theorem dX0_addMultiple_58 : decode cX0_addMultiple 58 = .ok (.iinc 5 1, 3) := by decide +kernel
theorem dX0_addMultiple_61 : decode cX0_addMultiple 61 = .ok (.goto (-58), 3) := by decide +kernel
theorem dX0_addMultiple_64 : decode cX0_addMultiple 64 = .ok (.return_, 1) := by decide +kernel
theorem dX0_wideKind_0 : decode cX0_wideKind 0 = .ok (.iload_n 0, 1) := by decide +kernel
theorem dX0_wideKind_1 : decode cX0_wideKind 1 = .ok (.invokestatic 122, 3) := by decide +kernel
theorem dX0_wideKind_4 : decode cX0_wideKind 4 = .ok (.iload_n 1, 1) := by decide +kernel
theorem dX0_wideKind_5 : decode cX0_wideKind 5 = .ok (.invokestatic 122, 3) := by decide +kernel
theorem dX0_wideKind_8 : decode cX0_wideKind 8 = .ok (.iadd, 1) := by decide +kernel
theorem dX0_wideKind_9 : decode cX0_wideKind 9 = .ok (.istore_n 2, 1) := by decide +kernel
theorem dX0_wideKind_10 : decode cX0_wideKind 10 = .ok (.iload_n 2, 1) := by decide +kernel
theorem dX0_wideKind_11 : decode cX0_wideKind 11 = .ok (.ifCond .ne 13, 3) := by decide +kernel
theorem dX0_wideKind_14 : decode cX0_wideKind 14 = .ok (.iload_n 0, 1) := by decide +kernel
theorem dX0_wideKind_15 : decode cX0_wideKind 15 = .ok (.invokestatic 125, 3) := by decide +kernel
theorem dX0_wideKind_18 : decode cX0_wideKind 18 = .ok (.iload_n 1, 1) := by decide +kernel
theorem dX0_wideKind_19 : decode cX0_wideKind 19 = .ok (.invokestatic 125, 3) := by decide +kernel
theorem dX0_wideKind_22 : decode cX0_wideKind 22 = .ok (.iadd, 1) := by decide +kernel
theorem dX0_wideKind_23 : decode cX0_wideKind 23 = .ok (.ireturn, 1) := by decide +kernel
theorem dX0_wideKind_24 : decode cX0_wideKind 24 = .ok (.bipush 7, 2) := by decide +kernel
theorem dX0_wideKind_26 : decode cX0_wideKind 26 = .ok (.iload_n 2, 1) := by decide +kernel
theorem dX0_wideKind_27 : decode cX0_wideKind 27 = .ok (.iadd, 1) := by decide +kernel
theorem dX0_wideKind_28 : decode cX0_wideKind 28 = .ok (.bipush (-4), 2) := by decide +kernel
theorem dX0_wideKind_30 : decode cX0_wideKind 30 = .ok (.isub, 1) := by decide +kernel
theorem dX0_wideKind_31 : decode cX0_wideKind 31 = .ok (.iload_n 2, 1) := by decide +kernel
theorem dX0_wideKind_32 : decode cX0_wideKind 32 = .ok (.ifCond .le 7, 3) := by decide +kernel
theorem dX0_wideKind_35 : decode cX0_wideKind 35 = .ok (.iconst 1, 1) := by decide +kernel
theorem dX0_wideKind_36 : decode cX0_wideKind 36 = .ok (.goto 4, 3) := by decide +kernel
theorem dX0_wideKind_39 : decode cX0_wideKind 39 = .ok (.iconst 0, 1) := by decide +kernel
theorem dX0_wideKind_40 : decode cX0_wideKind 40 = .ok (.isub, 1) := by decide +kernel
theorem dX0_wideKind_41 : decode cX0_wideKind 41 = .ok (.ireturn, 1) := by decide +kernel
theorem dX0_widePlace_0 : decode cX0_widePlace 0 = .ok (.iload_n 0, 1) := by decide +kernel
theorem dX0_widePlace_1 : decode cX0_widePlace 1 = .ok (.bipush 17, 2) := by decide +kernel
theorem dX0_widePlace_3 : decode cX0_widePlace 3 = .ok (.imul, 1) := by decide +kernel
theorem dX0_widePlace_4 : decode cX0_widePlace 4 = .ok (.iload_n 1, 1) := by decide +kernel
theorem dX0_widePlace_5 : decode cX0_widePlace 5 = .ok (.iadd, 1) := by decide +kernel
theorem dX0_widePlace_6 : decode cX0_widePlace 6 = .ok (.bipush (-8), 2) := by decide +kernel
theorem dX0_widePlace_8 : decode cX0_widePlace 8 = .ok (.isub, 1) := by decide +kernel
theorem dX0_widePlace_9 : decode cX0_widePlace 9 = .ok (.ireturn, 1) := by decide +kernel
theorem dX0_isWidePlace_0 : decode cX0_isWidePlace 0 = .ok (.iload_n 0, 1) := by decide +kernel
theorem dX0_isWidePlace_1 : decode cX0_isWidePlace 1 = .ok (.ifCond .lt 25, 3) := by decide +kernel
theorem dX0_isWidePlace_4 : decode cX0_isWidePlace 4 = .ok (.iload_n 0, 1) := by decide +kernel
theorem dX0_isWidePlace_5 : decode cX0_isWidePlace 5 = .ok (.bipush 15, 2) := by decide +kernel
theorem dX0_isWidePlace_7 : decode cX0_isWidePlace 7 = .ok (.if_icmp .ge 19, 3) := by decide +kernel
theorem dX0_isWidePlace_10 : decode cX0_isWidePlace 10 = .ok (.iload_n 1, 1) := by decide +kernel
theorem dX0_isWidePlace_11 : decode cX0_isWidePlace 11 = .ok (.bipush (-8), 2) := by decide +kernel
theorem dX0_isWidePlace_13 : decode cX0_isWidePlace 13 = .ok (.if_icmp .lt 13, 3) := by decide +kernel
theorem dX0_isWidePlace_16 : decode cX0_isWidePlace 16 = .ok (.iload_n 1, 1) := by decide +kernel
theorem dX0_isWidePlace_17 : decode cX0_isWidePlace 17 = .ok (.bipush 8, 2) := by decide +kernel
theorem dX0_isWidePlace_19 : decode cX0_isWidePlace 19 = .ok (.if_icmp .gt 7, 3) := by decide +kernel
theorem dX0_isWidePlace_22 : decode cX0_isWidePlace 22 = .ok (.iconst 1, 1) := by decide +kernel
theorem dX0_isWidePlace_23 : decode cX0_isWidePlace 23 = .ok (.goto 4, 3) := by decide +kernel
theorem dX0_isWidePlace_26 : decode cX0_isWidePlace 26 = .ok (.iconst 0, 1) := by decide +kernel
theorem dX0_isWidePlace_27 : decode cX0_isWidePlace 27 = .ok (.ireturn, 1) := by decide +kernel
theorem dX0_clearWide_0 : decode cX0_clearWide 0 = .ok (.iconst 0, 1) := by decide +kernel
theorem dX0_clearWide_1 : decode cX0_clearWide 1 = .ok (.istore_n 1, 1) := by decide +kernel
theorem dX0_clearWide_2 : decode cX0_clearWide 2 = .ok (.iload_n 1, 1) := by decide +kernel
theorem dX0_clearWide_3 : decode cX0_clearWide 3 = .ok (.sipush 255, 3) := by decide +kernel
theorem dX0_clearWide_6 : decode cX0_clearWide 6 = .ok (.if_icmp .ge 16, 3) := by decide +kernel
theorem dX0_clearWide_9 : decode cX0_clearWide 9 = .ok (.aload_n 0, 1) := by decide +kernel
theorem dX0_clearWide_10 : decode cX0_clearWide 10 = .ok (.getfield 13, 3) := by decide +kernel
theorem dX0_clearWide_13 : decode cX0_clearWide 13 = .ok (.iload_n 1, 1) := by decide +kernel
theorem dX0_clearWide_14 : decode cX0_clearWide 14 = .ok (.iconst 0, 1) := by decide +kernel
theorem dX0_clearWide_15 : decode cX0_clearWide 15 = .ok (.iastore, 1) := by decide +kernel
theorem dX0_clearWide_16 : decode cX0_clearWide 16 = .ok (.iinc 1 1, 3) := by decide +kernel
theorem dX0_clearWide_19 : decode cX0_clearWide 19 = .ok (.goto (-17), 3) := by decide +kernel
theorem dX0_clearWide_22 : decode cX0_clearWide 22 = .ok (.return_, 1) := by decide +kernel
theorem dX0_addWide_0 : decode cX0_addWide 0 = .ok (.lload_n 3, 1) := by decide +kernel
theorem dX0_addWide_1 : decode cX0_addWide 1 = .ok (.lconst 0, 1) := by decide +kernel
theorem dX0_addWide_2 : decode cX0_addWide 2 = .ok (.lcmp, 1) := by decide +kernel
theorem dX0_addWide_3 : decode cX0_addWide 3 = .ok (.ifCond .eq 38, 3) := by decide +kernel
theorem dX0_addWide_6 : decode cX0_addWide 6 = .ok (.iload_n 1, 1) := by decide +kernel
theorem dX0_addWide_7 : decode cX0_addWide 7 = .ok (.iload_n 2, 1) := by decide +kernel
theorem dX0_addWide_8 : decode cX0_addWide 8 = .ok (.invokestatic 192, 3) := by decide +kernel
theorem dX0_addWide_11 : decode cX0_addWide 11 = .ok (.ifCond .eq 30, 3) := by decide +kernel
theorem dX0_addWide_14 : decode cX0_addWide 14 = .ok (.iload_n 1, 1) := by decide +kernel
theorem dX0_addWide_15 : decode cX0_addWide 15 = .ok (.iload_n 2, 1) := by decide +kernel
theorem dX0_addWide_16 : decode cX0_addWide 16 = .ok (.invokestatic 195, 3) := by decide +kernel
theorem dX0_addWide_19 : decode cX0_addWide 19 = .ok (.istore 5, 2) := by decide +kernel
theorem dX0_addWide_21 : decode cX0_addWide 21 = .ok (.aload_n 0, 1) := by decide +kernel
theorem dX0_addWide_22 : decode cX0_addWide 22 = .ok (.getfield 13, 3) := by decide +kernel
theorem dX0_addWide_25 : decode cX0_addWide 25 = .ok (.iload 5, 2) := by decide +kernel
theorem dX0_addWide_27 : decode cX0_addWide 27 = .ok (.aload_n 0, 1) := by decide +kernel
theorem dX0_addWide_28 : decode cX0_addWide 28 = .ok (.getfield 13, 3) := by decide +kernel
theorem dX0_addWide_31 : decode cX0_addWide 31 = .ok (.iload 5, 2) := by decide +kernel
theorem dX0_addWide_33 : decode cX0_addWide 33 = .ok (.iaload, 1) := by decide +kernel
theorem dX0_addWide_34 : decode cX0_addWide 34 = .ok (.i2l, 1) := by decide +kernel
theorem dX0_addWide_35 : decode cX0_addWide 35 = .ok (.lload_n 3, 1) := by decide +kernel
theorem dX0_addWide_36 : decode cX0_addWide 36 = .ok (.ladd, 1) := by decide +kernel
theorem dX0_addWide_37 : decode cX0_addWide 37 = .ok (.invokestatic 33, 3) := by decide +kernel
theorem dX0_addWide_40 : decode cX0_addWide 40 = .ok (.iastore, 1) := by decide +kernel
theorem dX0_addWide_41 : decode cX0_addWide 41 = .ok (.return_, 1) := by decide +kernel
theorem dX0_wideNumber_0 : decode cX0_wideNumber 0 = .ok (.iload_n 1, 1) := by decide +kernel
theorem dX0_wideNumber_1 : decode cX0_wideNumber 1 = .ok (.iload_n 2, 1) := by decide +kernel
theorem dX0_wideNumber_2 : decode cX0_wideNumber 2 = .ok (.invokestatic 192, 3) := by decide +kernel
theorem dX0_wideNumber_5 : decode cX0_wideNumber 5 = .ok (.ifCond .eq 16, 3) := by decide +kernel
theorem dX0_wideNumber_8 : decode cX0_wideNumber 8 = .ok (.aload_n 0, 1) := by decide +kernel
theorem dX0_wideNumber_9 : decode cX0_wideNumber 9 = .ok (.getfield 13, 3) := by decide +kernel
theorem dX0_wideNumber_12 : decode cX0_wideNumber 12 = .ok (.iload_n 1, 1) := by decide +kernel
theorem dX0_wideNumber_13 : decode cX0_wideNumber 13 = .ok (.iload_n 2, 1) := by decide +kernel
theorem dX0_wideNumber_14 : decode cX0_wideNumber 14 = .ok (.invokestatic 195, 3) := by decide +kernel
theorem dX0_wideNumber_17 : decode cX0_wideNumber 17 = .ok (.iaload, 1) := by decide +kernel
theorem dX0_wideNumber_18 : decode cX0_wideNumber 18 = .ok (.goto 4, 3) := by decide +kernel
theorem dX0_wideNumber_21 : decode cX0_wideNumber 21 = .ok (.iconst 0, 1) := by decide +kernel
theorem dX0_wideNumber_22 : decode cX0_wideNumber 22 = .ok (.ireturn, 1) := by decide +kernel
theorem dX0_productIsTooFar_0 : decode cX0_productIsTooFar 0 = .ok (.iconst 0, 1) := by decide +kernel
theorem dX0_productIsTooFar_1 : decode cX0_productIsTooFar 1 = .ok (.istore_n 1, 1) := by decide +kernel
theorem dX0_productIsTooFar_2 : decode cX0_productIsTooFar 2 = .ok (.iload_n 1, 1) := by decide +kernel
theorem dX0_productIsTooFar_3 : decode cX0_productIsTooFar 3 = .ok (.bipush 15, 2) := by decide +kernel
theorem dX0_productIsTooFar_5 : decode cX0_productIsTooFar 5 = .ok (.if_icmp .ge 51, 3) := by decide +kernel
theorem dX0_productIsTooFar_8 : decode cX0_productIsTooFar 8 = .ok (.iload_n 1, 1) := by decide +kernel
theorem dX0_productIsTooFar_9 : decode cX0_productIsTooFar 9 = .ok (.invokestatic 198, 3) := by decide +kernel
theorem dX0_productIsTooFar_12 : decode cX0_productIsTooFar 12 = .ok (.istore_n 2, 1) := by decide +kernel
theorem dX0_productIsTooFar_13 : decode cX0_productIsTooFar 13 = .ok (.bipush (-8), 2) := by decide +kernel
theorem dX0_productIsTooFar_15 : decode cX0_productIsTooFar 15 = .ok (.istore_n 3, 1) := by decide +kernel
theorem dX0_productIsTooFar_16 : decode cX0_productIsTooFar 16 = .ok (.iload_n 3, 1) := by decide +kernel
theorem dX0_productIsTooFar_17 : decode cX0_productIsTooFar 17 = .ok (.bipush 8, 2) := by decide +kernel
theorem dX0_productIsTooFar_19 : decode cX0_productIsTooFar 19 = .ok (.if_icmp .gt 31, 3) := by decide +kernel
theorem dX0_productIsTooFar_22 : decode cX0_productIsTooFar 22 = .ok (.aload_n 0, 1) := by decide +kernel
theorem dX0_productIsTooFar_23 : decode cX0_productIsTooFar 23 = .ok (.iload_n 1, 1) := by decide +kernel
theorem dX0_productIsTooFar_24 : decode cX0_productIsTooFar 24 = .ok (.iload_n 3, 1) := by decide +kernel
theorem dX0_productIsTooFar_25 : decode cX0_productIsTooFar 25 = .ok (.invokevirtual 201, 3) := by decide +kernel
theorem dX0_productIsTooFar_28 : decode cX0_productIsTooFar 28 = .ok (.ifCond .eq 16, 3) := by decide +kernel
theorem dX0_productIsTooFar_31 : decode cX0_productIsTooFar 31 = .ok (.iload_n 2, 1) := by decide +kernel
theorem dX0_productIsTooFar_32 : decode cX0_productIsTooFar 32 = .ok (.ifCond .eq 10, 3) := by decide +kernel
theorem dX0_productIsTooFar_35 : decode cX0_productIsTooFar 35 = .ok (.iload_n 3, 1) := by decide +kernel
theorem dX0_productIsTooFar_36 : decode cX0_productIsTooFar 36 = .ok (.invokestatic 158, 3) := by decide +kernel
theorem dX0_productIsTooFar_39 : decode cX0_productIsTooFar 39 = .ok (.ifCond .ne 5, 3) := by decide +kernel
theorem dX0_productIsTooFar_42 : decode cX0_productIsTooFar 42 = .ok (.iconst 1, 1) := by decide +kernel
theorem dX0_productIsTooFar_43 : decode cX0_productIsTooFar 43 = .ok (.ireturn, 1) := by decide +kernel
theorem dX0_productIsTooFar_44 : decode cX0_productIsTooFar 44 = .ok (.iinc 3 1, 3) := by decide +kernel
theorem dX0_productIsTooFar_47 : decode cX0_productIsTooFar 47 = .ok (.goto (-31), 3) := by decide +kernel
theorem dX0_productIsTooFar_50 : decode cX0_productIsTooFar 50 = .ok (.iinc 1 1, 3) := by decide +kernel
theorem dX0_productIsTooFar_53 : decode cX0_productIsTooFar 53 = .ok (.goto (-51), 3) := by decide +kernel
theorem dX0_productIsTooFar_56 : decode cX0_productIsTooFar 56 = .ok (.iconst 0, 1) := by decide +kernel
theorem dX0_productIsTooFar_57 : decode cX0_productIsTooFar 57 = .ok (.ireturn, 1) := by decide +kernel
theorem dX0_isKnownWideKind_0 : decode cX0_isKnownWideKind 0 = .ok (.iconst 0, 1) := by decide +kernel
theorem dX0_isKnownWideKind_1 : decode cX0_isKnownWideKind 1 = .ok (.istore_n 1, 1) := by decide +kernel
theorem dX0_isKnownWideKind_2 : decode cX0_isKnownWideKind 2 = .ok (.iload_n 1, 1) := by decide +kernel
theorem dX0_isKnownWideKind_3 : decode cX0_isKnownWideKind 3 = .ok (.bipush 8, 2) := by decide +kernel
theorem dX0_isKnownWideKind_5 : decode cX0_isKnownWideKind 5 = .ok (.if_icmp .ge 20, 3) := by decide +kernel
theorem dX0_isKnownWideKind_8 : decode cX0_isKnownWideKind 8 = .ok (.iload_n 1, 1) := by decide +kernel
theorem dX0_isKnownWideKind_9 : decode cX0_isKnownWideKind 9 = .ok (.iconst 0, 1) := by decide +kernel
theorem dX0_isKnownWideKind_10 : decode cX0_isKnownWideKind 10 = .ok (.invokestatic 185, 3) := by decide +kernel
theorem dX0_isKnownWideKind_13 : decode cX0_isKnownWideKind 13 = .ok (.iload_n 0, 1) := by decide +kernel
theorem dX0_isKnownWideKind_14 : decode cX0_isKnownWideKind 14 = .ok (.if_icmp .ne 5, 3) := by decide +kernel
theorem dX0_isKnownWideKind_17 : decode cX0_isKnownWideKind 17 = .ok (.iconst 1, 1) := by decide +kernel
theorem dX0_isKnownWideKind_18 : decode cX0_isKnownWideKind 18 = .ok (.ireturn, 1) := by decide +kernel
theorem dX0_isKnownWideKind_19 : decode cX0_isKnownWideKind 19 = .ok (.iinc 1 1, 3) := by decide +kernel
theorem dX0_isKnownWideKind_22 : decode cX0_isKnownWideKind 22 = .ok (.goto (-20), 3) := by decide +kernel
theorem dX0_isKnownWideKind_25 : decode cX0_isKnownWideKind 25 = .ok (.iconst 0, 1) := by decide +kernel
theorem dX0_isKnownWideKind_26 : decode cX0_isKnownWideKind 26 = .ok (.ireturn, 1) := by decide +kernel
theorem dX0_draftProduct_0 : decode cX0_draftProduct 0 = .ok (.iconst 0, 1) := by decide +kernel
theorem dX0_draftProduct_1 : decode cX0_draftProduct 1 = .ok (.istore_n 1, 1) := by decide +kernel
theorem dX0_draftProduct_2 : decode cX0_draftProduct 2 = .ok (.iload_n 1, 1) := by decide +kernel
theorem dX0_draftProduct_3 : decode cX0_draftProduct 3 = .ok (.bipush 8, 2) := by decide +kernel
theorem dX0_draftProduct_5 : decode cX0_draftProduct 5 = .ok (.if_icmp .ge 39, 3) := by decide +kernel
theorem dX0_draftProduct_8 : decode cX0_draftProduct 8 = .ok (.bipush (-4), 2) := by decide +kernel
theorem dX0_draftProduct_10 : decode cX0_draftProduct 10 = .ok (.istore_n 2, 1) := by decide +kernel
theorem dX0_draftProduct_11 : decode cX0_draftProduct 11 = .ok (.iload_n 2, 1) := by decide +kernel
theorem dX0_draftProduct_12 : decode cX0_draftProduct 12 = .ok (.iconst 4, 1) := by decide +kernel
theorem dX0_draftProduct_13 : decode cX0_draftProduct 13 = .ok (.if_icmp .gt 25, 3) := by decide +kernel
theorem dX0_draftProduct_16 : decode cX0_draftProduct 16 = .ok (.aload_n 0, 1) := by decide +kernel
theorem dX0_draftProduct_17 : decode cX0_draftProduct 17 = .ok (.iload_n 1, 1) := by decide +kernel
theorem dX0_draftProduct_18 : decode cX0_draftProduct 18 = .ok (.iload_n 2, 1) := by decide +kernel
theorem dX0_draftProduct_19 : decode cX0_draftProduct 19 = .ok (.aload_n 0, 1) := by decide +kernel
theorem dX0_draftProduct_20 : decode cX0_draftProduct 20 = .ok (.iload_n 1, 1) := by decide +kernel
theorem dX0_draftProduct_21 : decode cX0_draftProduct 21 = .ok (.iconst 0, 1) := by decide +kernel
theorem dX0_draftProduct_22 : decode cX0_draftProduct 22 = .ok (.invokestatic 185, 3) := by decide +kernel
theorem dX0_draftProduct_25 : decode cX0_draftProduct 25 = .ok (.iload_n 2, 1) := by decide +kernel
theorem dX0_draftProduct_26 : decode cX0_draftProduct 26 = .ok (.invokevirtual 201, 3) := by decide +kernel
theorem dX0_draftProduct_29 : decode cX0_draftProduct 29 = .ok (.invokevirtual 37, 3) := by decide +kernel
theorem dX0_draftProduct_32 : decode cX0_draftProduct 32 = .ok (.iinc 2 1, 3) := by decide +kernel
theorem dX0_draftProduct_35 : decode cX0_draftProduct 35 = .ok (.goto (-24), 3) := by decide +kernel
theorem dX0_draftProduct_38 : decode cX0_draftProduct 38 = .ok (.iinc 1 1, 3) := by decide +kernel
theorem dX0_draftProduct_41 : decode cX0_draftProduct 41 = .ok (.goto (-39), 3) := by decide +kernel
theorem dX0_draftProduct_44 : decode cX0_draftProduct 44 = .ok (.return_, 1) := by decide +kernel
theorem dX0_slopeNumber_0 : decode cX0_slopeNumber 0 = .ok (.iload_n 3, 1) := by decide +kernel
theorem dX0_slopeNumber_1 : decode cX0_slopeNumber 1 = .ok (.iconst 1, 1) := by decide +kernel
theorem dX0_slopeNumber_2 : decode cX0_slopeNumber 2 = .ok (.iadd, 1) := by decide +kernel
theorem dX0_slopeNumber_3 : decode cX0_slopeNumber 3 = .ok (.i2l, 1) := by decide +kernel
theorem dX0_slopeNumber_4 : decode cX0_slopeNumber 4 = .ok (.aload_n 0, 1) := by decide +kernel
theorem dX0_slopeNumber_5 : decode cX0_slopeNumber 5 = .ok (.iload_n 1, 1) := by decide +kernel
theorem dX0_slopeNumber_6 : decode cX0_slopeNumber 6 = .ok (.iload_n 2, 1) := by decide +kernel
theorem dX0_slopeNumber_7 : decode cX0_slopeNumber 7 = .ok (.iload_n 3, 1) := by decide +kernel
theorem dX0_slopeNumber_8 : decode cX0_slopeNumber 8 = .ok (.iconst 1, 1) := by decide +kernel
theorem dX0_slopeNumber_9 : decode cX0_slopeNumber 9 = .ok (.iadd, 1) := by decide +kernel
theorem dX0_slopeNumber_10 : decode cX0_slopeNumber 10 = .ok (.invokevirtual 105, 3) := by decide +kernel
theorem dX0_slopeNumber_13 : decode cX0_slopeNumber 13 = .ok (.i2l, 1) := by decide +kernel
theorem dX0_slopeNumber_14 : decode cX0_slopeNumber 14 = .ok (.lmul, 1) := by decide +kernel
theorem dX0_slopeNumber_15 : decode cX0_slopeNumber 15 = .ok (.lstore 4, 2) := by decide +kernel
theorem dX0_slopeNumber_17 : decode cX0_slopeNumber 17 = .ok (.lload 4, 2) := by decide +kernel
theorem dX0_slopeNumber_19 : decode cX0_slopeNumber 19 = .ok (.iload_n 2, 1) := by decide +kernel
