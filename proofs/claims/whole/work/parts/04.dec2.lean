theorem dX0_slopeNumber_20 : decode cX0_slopeNumber 20 = .ok (.invokestatic 122, 3) := by decide +kernel
theorem dX0_slopeNumber_23 : decode cX0_slopeNumber 23 = .ok (.i2l, 1) := by decide +kernel
theorem dX0_slopeNumber_24 : decode cX0_slopeNumber 24 = .ok (.aload_n 0, 1) := by decide +kernel
theorem dX0_slopeNumber_25 : decode cX0_slopeNumber 25 = .ok (.iload_n 1, 1) := by decide +kernel
theorem dX0_slopeNumber_26 : decode cX0_slopeNumber 26 = .ok (.iload_n 2, 1) := by decide +kernel
theorem dX0_slopeNumber_27 : decode cX0_slopeNumber 27 = .ok (.iload_n 3, 1) := by decide +kernel
theorem dX0_slopeNumber_28 : decode cX0_slopeNumber 28 = .ok (.invokevirtual 105, 3) := by decide +kernel
theorem dX0_slopeNumber_31 : decode cX0_slopeNumber 31 = .ok (.i2l, 1) := by decide +kernel
theorem dX0_slopeNumber_32 : decode cX0_slopeNumber 32 = .ok (.lmul, 1) := by decide +kernel
theorem dX0_slopeNumber_33 : decode cX0_slopeNumber 33 = .ok (.ladd, 1) := by decide +kernel
theorem dX0_slopeNumber_34 : decode cX0_slopeNumber 34 = .ok (.lstore 4, 2) := by decide +kernel
theorem dX0_slopeNumber_36 : decode cX0_slopeNumber 36 = .ok (.iload_n 2, 1) := by decide +kernel
theorem dX0_slopeNumber_37 : decode cX0_slopeNumber 37 = .ok (.iconst 3, 1) := by decide +kernel
theorem dX0_slopeNumber_38 : decode cX0_slopeNumber 38 = .ok (.if_icmp .ge 25, 3) := by decide +kernel
theorem dX0_slopeNumber_41 : decode cX0_slopeNumber 41 = .ok (.lload 4, 2) := by decide +kernel
theorem dX0_slopeNumber_43 : decode cX0_slopeNumber 43 = .ok (.iload_n 2, 1) := by decide +kernel
theorem dX0_slopeNumber_44 : decode cX0_slopeNumber 44 = .ok (.iconst 1, 1) := by decide +kernel
theorem dX0_slopeNumber_45 : decode cX0_slopeNumber 45 = .ok (.iadd, 1) := by decide +kernel
theorem dX0_slopeNumber_46 : decode cX0_slopeNumber 46 = .ok (.i2l, 1) := by decide +kernel
theorem dX0_slopeNumber_47 : decode cX0_slopeNumber 47 = .ok (.aload_n 0, 1) := by decide +kernel
theorem dX0_slopeNumber_48 : decode cX0_slopeNumber 48 = .ok (.iload_n 1, 1) := by decide +kernel
theorem dX0_slopeNumber_49 : decode cX0_slopeNumber 49 = .ok (.iload_n 2, 1) := by decide +kernel
theorem dX0_slopeNumber_50 : decode cX0_slopeNumber 50 = .ok (.iconst 1, 1) := by decide +kernel
theorem dX0_slopeNumber_51 : decode cX0_slopeNumber 51 = .ok (.iadd, 1) := by decide +kernel
theorem dX0_slopeNumber_52 : decode cX0_slopeNumber 52 = .ok (.iload_n 3, 1) := by decide +kernel
theorem dX0_slopeNumber_53 : decode cX0_slopeNumber 53 = .ok (.iconst 1, 1) := by decide +kernel
theorem dX0_slopeNumber_54 : decode cX0_slopeNumber 54 = .ok (.iadd, 1) := by decide +kernel
theorem dX0_slopeNumber_55 : decode cX0_slopeNumber 55 = .ok (.invokevirtual 105, 3) := by decide +kernel
theorem dX0_slopeNumber_58 : decode cX0_slopeNumber 58 = .ok (.i2l, 1) := by decide +kernel
theorem dX0_slopeNumber_59 : decode cX0_slopeNumber 59 = .ok (.lmul, 1) := by decide +kernel
theorem dX0_slopeNumber_60 : decode cX0_slopeNumber 60 = .ok (.ladd, 1) := by decide +kernel
theorem dX0_slopeNumber_61 : decode cX0_slopeNumber 61 = .ok (.lstore 4, 2) := by decide +kernel
theorem dX0_slopeNumber_63 : decode cX0_slopeNumber 63 = .ok (.lload 4, 2) := by decide +kernel
theorem dX0_slopeNumber_65 : decode cX0_slopeNumber 65 = .ok (.invokestatic 33, 3) := by decide +kernel
theorem dX0_slopeNumber_68 : decode cX0_slopeNumber 68 = .ok (.ireturn, 1) := by decide +kernel
theorem dX0_slopeIsTooFar_0 : decode cX0_slopeIsTooFar 0 = .ok (.iconst 0, 1) := by decide +kernel
theorem dX0_slopeIsTooFar_1 : decode cX0_slopeIsTooFar 1 = .ok (.istore_n 2, 1) := by decide +kernel
theorem dX0_slopeIsTooFar_2 : decode cX0_slopeIsTooFar 2 = .ok (.iload_n 2, 1) := by decide +kernel
theorem dX0_slopeIsTooFar_3 : decode cX0_slopeIsTooFar 3 = .ok (.bipush 8, 2) := by decide +kernel
theorem dX0_slopeIsTooFar_5 : decode cX0_slopeIsTooFar 5 = .ok (.if_icmp .ge 22, 3) := by decide +kernel
theorem dX0_slopeIsTooFar_8 : decode cX0_slopeIsTooFar 8 = .ok (.aload_n 0, 1) := by decide +kernel
theorem dX0_slopeIsTooFar_9 : decode cX0_slopeIsTooFar 9 = .ok (.iload_n 1, 1) := by decide +kernel
theorem dX0_slopeIsTooFar_10 : decode cX0_slopeIsTooFar 10 = .ok (.iload_n 2, 1) := by decide +kernel
theorem dX0_slopeIsTooFar_11 : decode cX0_slopeIsTooFar 11 = .ok (.bipush (-5), 2) := by decide +kernel
theorem dX0_slopeIsTooFar_13 : decode cX0_slopeIsTooFar 13 = .ok (.invokevirtual 204, 3) := by decide +kernel
theorem dX0_slopeIsTooFar_16 : decode cX0_slopeIsTooFar 16 = .ok (.ifCond .eq 5, 3) := by decide +kernel
theorem dX0_slopeIsTooFar_19 : decode cX0_slopeIsTooFar 19 = .ok (.iconst 1, 1) := by decide +kernel
theorem dX0_slopeIsTooFar_20 : decode cX0_slopeIsTooFar 20 = .ok (.ireturn, 1) := by decide +kernel
theorem dX0_slopeIsTooFar_21 : decode cX0_slopeIsTooFar 21 = .ok (.iinc 2 1, 3) := by decide +kernel
theorem dX0_slopeIsTooFar_24 : decode cX0_slopeIsTooFar 24 = .ok (.goto (-22), 3) := by decide +kernel
theorem dX0_slopeIsTooFar_27 : decode cX0_slopeIsTooFar 27 = .ok (.iconst 0, 1) := by decide +kernel
theorem dX0_slopeIsTooFar_28 : decode cX0_slopeIsTooFar 28 = .ok (.ireturn, 1) := by decide +kernel
theorem dX0_draftSlope_0 : decode cX0_draftSlope 0 = .ok (.iconst 0, 1) := by decide +kernel
theorem dX0_draftSlope_1 : decode cX0_draftSlope 1 = .ok (.istore_n 2, 1) := by decide +kernel
theorem dX0_draftSlope_2 : decode cX0_draftSlope 2 = .ok (.iload_n 2, 1) := by decide +kernel
theorem dX0_draftSlope_3 : decode cX0_draftSlope 3 = .ok (.bipush 8, 2) := by decide +kernel
theorem dX0_draftSlope_5 : decode cX0_draftSlope 5 = .ok (.if_icmp .ge 36, 3) := by decide +kernel
theorem dX0_draftSlope_8 : decode cX0_draftSlope 8 = .ok (.bipush (-4), 2) := by decide +kernel
theorem dX0_draftSlope_10 : decode cX0_draftSlope 10 = .ok (.istore_n 3, 1) := by decide +kernel
theorem dX0_draftSlope_11 : decode cX0_draftSlope 11 = .ok (.iload_n 3, 1) := by decide +kernel
theorem dX0_draftSlope_12 : decode cX0_draftSlope 12 = .ok (.iconst 4, 1) := by decide +kernel
theorem dX0_draftSlope_13 : decode cX0_draftSlope 13 = .ok (.if_icmp .gt 22, 3) := by decide +kernel
theorem dX0_draftSlope_16 : decode cX0_draftSlope 16 = .ok (.aload_n 0, 1) := by decide +kernel
theorem dX0_draftSlope_17 : decode cX0_draftSlope 17 = .ok (.iload_n 2, 1) := by decide +kernel
theorem dX0_draftSlope_18 : decode cX0_draftSlope 18 = .ok (.iload_n 3, 1) := by decide +kernel
theorem dX0_draftSlope_19 : decode cX0_draftSlope 19 = .ok (.aload_n 0, 1) := by decide +kernel
theorem dX0_draftSlope_20 : decode cX0_draftSlope 20 = .ok (.iload_n 1, 1) := by decide +kernel
theorem dX0_draftSlope_21 : decode cX0_draftSlope 21 = .ok (.iload_n 2, 1) := by decide +kernel
theorem dX0_draftSlope_22 : decode cX0_draftSlope 22 = .ok (.iload_n 3, 1) := by decide +kernel
theorem dX0_draftSlope_23 : decode cX0_draftSlope 23 = .ok (.invokevirtual 204, 3) := by decide +kernel
theorem dX0_draftSlope_26 : decode cX0_draftSlope 26 = .ok (.invokevirtual 37, 3) := by decide +kernel
theorem dX0_draftSlope_29 : decode cX0_draftSlope 29 = .ok (.iinc 3 1, 3) := by decide +kernel
theorem dX0_draftSlope_32 : decode cX0_draftSlope 32 = .ok (.goto (-21), 3) := by decide +kernel
theorem dX0_draftSlope_35 : decode cX0_draftSlope 35 = .ok (.iinc 2 1, 3) := by decide +kernel
theorem dX0_draftSlope_38 : decode cX0_draftSlope 38 = .ok (.goto (-36), 3) := by decide +kernel
theorem dX0_draftSlope_41 : decode cX0_draftSlope 41 = .ok (.return_, 1) := by decide +kernel
theorem dX0_restOf_0 : decode cX0_restOf 0 = .ok (.iload_n 2, 1) := by decide +kernel
theorem dX0_restOf_1 : decode cX0_restOf 1 = .ok (.iconst 3, 1) := by decide +kernel
theorem dX0_restOf_2 : decode cX0_restOf 2 = .ok (.if_icmp .gt 5, 3) := by decide +kernel
theorem dX0_restOf_5 : decode cX0_restOf 5 = .ok (.iconst 0, 1) := by decide +kernel
theorem dX0_restOf_6 : decode cX0_restOf 6 = .ok (.ireturn, 1) := by decide +kernel
theorem dX0_restOf_7 : decode cX0_restOf 7 = .ok (.iload_n 2, 1) := by decide +kernel
theorem dX0_restOf_8 : decode cX0_restOf 8 = .ok (.invokestatic 122, 3) := by decide +kernel
theorem dX0_restOf_11 : decode cX0_restOf 11 = .ok (.istore_n 3, 1) := by decide +kernel
theorem dX0_restOf_12 : decode cX0_restOf 12 = .ok (.iconst 0, 1) := by decide +kernel
theorem dX0_restOf_13 : decode cX0_restOf 13 = .ok (.istore 4, 2) := by decide +kernel
theorem dX0_restOf_15 : decode cX0_restOf 15 = .ok (.bipush (-4), 2) := by decide +kernel
theorem dX0_restOf_17 : decode cX0_restOf 17 = .ok (.istore 5, 2) := by decide +kernel
theorem dX0_restOf_19 : decode cX0_restOf 19 = .ok (.iload 5, 2) := by decide +kernel
theorem dX0_restOf_21 : decode cX0_restOf 21 = .ok (.iconst (-1), 1) := by decide +kernel
theorem dX0_restOf_22 : decode cX0_restOf 22 = .ok (.if_icmp .ge 34, 3) := by decide +kernel
theorem dX0_restOf_25 : decode cX0_restOf 25 = .ok (.aload_n 0, 1) := by decide +kernel
theorem dX0_restOf_26 : decode cX0_restOf 26 = .ok (.iload_n 1, 1) := by decide +kernel
theorem dX0_restOf_27 : decode cX0_restOf 27 = .ok (.iload_n 2, 1) := by decide +kernel
theorem dX0_restOf_28 : decode cX0_restOf 28 = .ok (.iload 5, 2) := by decide +kernel
theorem dX0_restOf_30 : decode cX0_restOf 30 = .ok (.invokevirtual 105, 3) := by decide +kernel
theorem dX0_restOf_33 : decode cX0_restOf 33 = .ok (.i2l, 1) := by decide +kernel
theorem dX0_restOf_34 : decode cX0_restOf 34 = .ok (.iload_n 3, 1) := by decide +kernel
theorem dX0_restOf_35 : decode cX0_restOf 35 = .ok (.i2l, 1) := by decide +kernel
theorem dX0_restOf_36 : decode cX0_restOf 36 = .ok (.iload 4, 2) := by decide +kernel
theorem dX0_restOf_38 : decode cX0_restOf 38 = .ok (.i2l, 1) := by decide +kernel
theorem dX0_restOf_39 : decode cX0_restOf 39 = .ok (.lmul, 1) := by decide +kernel
theorem dX0_restOf_40 : decode cX0_restOf 40 = .ok (.lsub, 1) := by decide +kernel
theorem dX0_restOf_41 : decode cX0_restOf 41 = .ok (.iload 5, 2) := by decide +kernel
theorem dX0_restOf_43 : decode cX0_restOf 43 = .ok (.iconst 1, 1) := by decide +kernel
theorem dX0_restOf_44 : decode cX0_restOf 44 = .ok (.iadd, 1) := by decide +kernel
theorem dX0_restOf_45 : decode cX0_restOf 45 = .ok (.invokestatic 207, 3) := by decide +kernel
theorem dX0_restOf_48 : decode cX0_restOf 48 = .ok (.istore 4, 2) := by decide +kernel
theorem dX0_restOf_50 : decode cX0_restOf 50 = .ok (.iinc 5 1, 3) := by decide +kernel
theorem dX0_restOf_53 : decode cX0_restOf 53 = .ok (.goto (-34), 3) := by decide +kernel
theorem dX0_restOf_56 : decode cX0_restOf 56 = .ok (.aload_n 0, 1) := by decide +kernel
theorem dX0_restOf_57 : decode cX0_restOf 57 = .ok (.iload_n 1, 1) := by decide +kernel
theorem dX0_restOf_58 : decode cX0_restOf 58 = .ok (.iload_n 2, 1) := by decide +kernel
theorem dX0_restOf_59 : decode cX0_restOf 59 = .ok (.iconst (-1), 1) := by decide +kernel
theorem dX0_restOf_60 : decode cX0_restOf 60 = .ok (.invokevirtual 105, 3) := by decide +kernel
theorem dX0_restOf_63 : decode cX0_restOf 63 = .ok (.i2l, 1) := by decide +kernel
theorem dX0_restOf_64 : decode cX0_restOf 64 = .ok (.iload_n 3, 1) := by decide +kernel
theorem dX0_restOf_65 : decode cX0_restOf 65 = .ok (.i2l, 1) := by decide +kernel
theorem dX0_restOf_66 : decode cX0_restOf 66 = .ok (.iload 4, 2) := by decide +kernel
theorem dX0_restOf_68 : decode cX0_restOf 68 = .ok (.i2l, 1) := by decide +kernel
theorem dX0_restOf_69 : decode cX0_restOf 69 = .ok (.lmul, 1) := by decide +kernel
theorem dX0_restOf_70 : decode cX0_restOf 70 = .ok (.lsub, 1) := by decide +kernel
theorem dX0_restOf_71 : decode cX0_restOf 71 = .ok (.invokestatic 33, 3) := by decide +kernel
theorem dX0_restOf_74 : decode cX0_restOf 74 = .ok (.ireturn, 1) := by decide +kernel
theorem dX0_hasRest_0 : decode cX0_hasRest 0 = .ok (.iconst 4, 1) := by decide +kernel
theorem dX0_hasRest_1 : decode cX0_hasRest 1 = .ok (.istore_n 2, 1) := by decide +kernel
theorem dX0_hasRest_2 : decode cX0_hasRest 2 = .ok (.iload_n 2, 1) := by decide +kernel
theorem dX0_hasRest_3 : decode cX0_hasRest 3 = .ok (.bipush 8, 2) := by decide +kernel
theorem dX0_hasRest_5 : decode cX0_hasRest 5 = .ok (.if_icmp .ge 20, 3) := by decide +kernel
theorem dX0_hasRest_8 : decode cX0_hasRest 8 = .ok (.aload_n 0, 1) := by decide +kernel
theorem dX0_hasRest_9 : decode cX0_hasRest 9 = .ok (.iload_n 1, 1) := by decide +kernel
theorem dX0_hasRest_10 : decode cX0_hasRest 10 = .ok (.iload_n 2, 1) := by decide +kernel
theorem dX0_hasRest_11 : decode cX0_hasRest 11 = .ok (.invokevirtual 101, 3) := by decide +kernel
theorem dX0_hasRest_14 : decode cX0_hasRest 14 = .ok (.ifCond .eq 5, 3) := by decide +kernel
theorem dX0_hasRest_17 : decode cX0_hasRest 17 = .ok (.iconst 1, 1) := by decide +kernel
theorem dX0_hasRest_18 : decode cX0_hasRest 18 = .ok (.ireturn, 1) := by decide +kernel
theorem dX0_hasRest_19 : decode cX0_hasRest 19 = .ok (.iinc 2 1, 3) := by decide +kernel
theorem dX0_hasRest_22 : decode cX0_hasRest 22 = .ok (.goto (-20), 3) := by decide +kernel
theorem dX0_hasRest_25 : decode cX0_hasRest 25 = .ok (.iconst 0, 1) := by decide +kernel
theorem dX0_hasRest_26 : decode cX0_hasRest 26 = .ok (.ireturn, 1) := by decide +kernel
theorem dX0_integralIsTooFar_0 : decode cX0_integralIsTooFar 0 = .ok (.iconst 0, 1) := by decide +kernel
theorem dX0_integralIsTooFar_1 : decode cX0_integralIsTooFar 1 = .ok (.istore_n 2, 1) := by decide +kernel
theorem dX0_integralIsTooFar_2 : decode cX0_integralIsTooFar 2 = .ok (.iload_n 2, 1) := by decide +kernel
theorem dX0_integralIsTooFar_3 : decode cX0_integralIsTooFar 3 = .ok (.iconst 3, 1) := by decide +kernel
theorem dX0_integralIsTooFar_4 : decode cX0_integralIsTooFar 4 = .ok (.if_icmp .gt 21, 3) := by decide +kernel
theorem dX0_integralIsTooFar_7 : decode cX0_integralIsTooFar 7 = .ok (.aload_n 0, 1) := by decide +kernel
theorem dX0_integralIsTooFar_8 : decode cX0_integralIsTooFar 8 = .ok (.iload_n 1, 1) := by decide +kernel
theorem dX0_integralIsTooFar_9 : decode cX0_integralIsTooFar 9 = .ok (.iload_n 2, 1) := by decide +kernel
theorem dX0_integralIsTooFar_10 : decode cX0_integralIsTooFar 10 = .ok (.iconst 4, 1) := by decide +kernel
theorem dX0_integralIsTooFar_11 : decode cX0_integralIsTooFar 11 = .ok (.invokevirtual 105, 3) := by decide +kernel
theorem dX0_integralIsTooFar_14 : decode cX0_integralIsTooFar 14 = .ok (.ifCond .eq 5, 3) := by decide +kernel
theorem dX0_integralIsTooFar_17 : decode cX0_integralIsTooFar 17 = .ok (.iconst 1, 1) := by decide +kernel
theorem dX0_integralIsTooFar_18 : decode cX0_integralIsTooFar 18 = .ok (.ireturn, 1) := by decide +kernel
theorem dX0_integralIsTooFar_19 : decode cX0_integralIsTooFar 19 = .ok (.iinc 2 1, 3) := by decide +kernel
theorem dX0_integralIsTooFar_22 : decode cX0_integralIsTooFar 22 = .ok (.goto (-20), 3) := by decide +kernel
theorem dX0_integralIsTooFar_25 : decode cX0_integralIsTooFar 25 = .ok (.aload_n 0, 1) := by decide +kernel
theorem dX0_integralIsTooFar_26 : decode cX0_integralIsTooFar 26 = .ok (.iload_n 1, 1) := by decide +kernel
theorem dX0_integralIsTooFar_27 : decode cX0_integralIsTooFar 27 = .ok (.iconst 3, 1) := by decide +kernel
theorem dX0_integralIsTooFar_28 : decode cX0_integralIsTooFar 28 = .ok (.iconst (-1), 1) := by decide +kernel
theorem dX0_integralIsTooFar_29 : decode cX0_integralIsTooFar 29 = .ok (.invokevirtual 105, 3) := by decide +kernel
theorem dX0_integralIsTooFar_32 : decode cX0_integralIsTooFar 32 = .ok (.ifCond .eq 7, 3) := by decide +kernel
theorem dX0_integralIsTooFar_35 : decode cX0_integralIsTooFar 35 = .ok (.iconst 1, 1) := by decide +kernel
theorem dX0_integralIsTooFar_36 : decode cX0_integralIsTooFar 36 = .ok (.goto 4, 3) := by decide +kernel
theorem dX0_integralIsTooFar_39 : decode cX0_integralIsTooFar 39 = .ok (.iconst 0, 1) := by decide +kernel
theorem dX0_integralIsTooFar_40 : decode cX0_integralIsTooFar 40 = .ok (.ireturn, 1) := by decide +kernel
theorem dX0_draftLogIntegral_0 : decode cX0_draftLogIntegral 0 = .ok (.bipush (-3), 2) := by decide +kernel
theorem dX0_draftLogIntegral_2 : decode cX0_draftLogIntegral 2 = .ok (.istore_n 2, 1) := by decide +kernel
theorem dX0_draftLogIntegral_3 : decode cX0_draftLogIntegral 3 = .ok (.iload_n 2, 1) := by decide +kernel
theorem dX0_draftLogIntegral_4 : decode cX0_draftLogIntegral 4 = .ok (.iconst 4, 1) := by decide +kernel
theorem dX0_draftLogIntegral_5 : decode cX0_draftLogIntegral 5 = .ok (.if_icmp .gt 62, 3) := by decide +kernel
theorem dX0_draftLogIntegral_8 : decode cX0_draftLogIntegral 8 = .ok (.iload_n 2, 1) := by decide +kernel
theorem dX0_draftLogIntegral_9 : decode cX0_draftLogIntegral 9 = .ok (.ifCond .eq 52, 3) := by decide +kernel
theorem dX0_draftLogIntegral_12 : decode cX0_draftLogIntegral 12 = .ok (.iconst 0, 1) := by decide +kernel
theorem dX0_draftLogIntegral_13 : decode cX0_draftLogIntegral 13 = .ok (.istore_n 3, 1) := by decide +kernel
theorem dX0_draftLogIntegral_14 : decode cX0_draftLogIntegral 14 = .ok (.iconst 3, 1) := by decide +kernel
theorem dX0_draftLogIntegral_15 : decode cX0_draftLogIntegral 15 = .ok (.istore 4, 2) := by decide +kernel
theorem dX0_draftLogIntegral_17 : decode cX0_draftLogIntegral 17 = .ok (.iload 4, 2) := by decide +kernel
theorem dX0_draftLogIntegral_19 : decode cX0_draftLogIntegral 19 = .ok (.ifCond .lt 42, 3) := by decide +kernel
theorem dX0_draftLogIntegral_22 : decode cX0_draftLogIntegral 22 = .ok (.aload_n 0, 1) := by decide +kernel
theorem dX0_draftLogIntegral_23 : decode cX0_draftLogIntegral 23 = .ok (.iload_n 1, 1) := by decide +kernel
theorem dX0_draftLogIntegral_24 : decode cX0_draftLogIntegral 24 = .ok (.iload 4, 2) := by decide +kernel
theorem dX0_draftLogIntegral_26 : decode cX0_draftLogIntegral 26 = .ok (.iload_n 2, 1) := by decide +kernel
theorem dX0_draftLogIntegral_27 : decode cX0_draftLogIntegral 27 = .ok (.iconst 1, 1) := by decide +kernel
theorem dX0_draftLogIntegral_28 : decode cX0_draftLogIntegral 28 = .ok (.isub, 1) := by decide +kernel
theorem dX0_draftLogIntegral_29 : decode cX0_draftLogIntegral 29 = .ok (.invokevirtual 105, 3) := by decide +kernel
theorem dX0_draftLogIntegral_32 : decode cX0_draftLogIntegral 32 = .ok (.i2l, 1) := by decide +kernel
theorem dX0_draftLogIntegral_33 : decode cX0_draftLogIntegral 33 = .ok (.iload 4, 2) := by decide +kernel
theorem dX0_draftLogIntegral_35 : decode cX0_draftLogIntegral 35 = .ok (.iconst 1, 1) := by decide +kernel
theorem dX0_draftLogIntegral_36 : decode cX0_draftLogIntegral 36 = .ok (.iadd, 1) := by decide +kernel
theorem dX0_draftLogIntegral_37 : decode cX0_draftLogIntegral 37 = .ok (.i2l, 1) := by decide +kernel
theorem dX0_draftLogIntegral_38 : decode cX0_draftLogIntegral 38 = .ok (.iload_n 3, 1) := by decide +kernel
theorem dX0_draftLogIntegral_39 : decode cX0_draftLogIntegral 39 = .ok (.i2l, 1) := by decide +kernel
theorem dX0_draftLogIntegral_40 : decode cX0_draftLogIntegral 40 = .ok (.lmul, 1) := by decide +kernel
theorem dX0_draftLogIntegral_41 : decode cX0_draftLogIntegral 41 = .ok (.lsub, 1) := by decide +kernel
theorem dX0_draftLogIntegral_42 : decode cX0_draftLogIntegral 42 = .ok (.iload_n 2, 1) := by decide +kernel
theorem dX0_draftLogIntegral_43 : decode cX0_draftLogIntegral 43 = .ok (.invokestatic 207, 3) := by decide +kernel
theorem dX0_draftLogIntegral_46 : decode cX0_draftLogIntegral 46 = .ok (.istore_n 3, 1) := by decide +kernel
theorem dX0_draftLogIntegral_47 : decode cX0_draftLogIntegral 47 = .ok (.aload_n 0, 1) := by decide +kernel
theorem dX0_draftLogIntegral_48 : decode cX0_draftLogIntegral 48 = .ok (.iload 4, 2) := by decide +kernel
theorem dX0_draftLogIntegral_50 : decode cX0_draftLogIntegral 50 = .ok (.iload_n 2, 1) := by decide +kernel
theorem dX0_draftLogIntegral_51 : decode cX0_draftLogIntegral 51 = .ok (.iload_n 3, 1) := by decide +kernel
theorem dX0_draftLogIntegral_52 : decode cX0_draftLogIntegral 52 = .ok (.invokevirtual 37, 3) := by decide +kernel
theorem dX0_draftLogIntegral_55 : decode cX0_draftLogIntegral 55 = .ok (.iinc 4 (-1), 3) := by decide +kernel
theorem dX0_draftLogIntegral_58 : decode cX0_draftLogIntegral 58 = .ok (.goto (-41), 3) := by decide +kernel
theorem dX0_draftLogIntegral_61 : decode cX0_draftLogIntegral 61 = .ok (.iinc 2 1, 3) := by decide +kernel
theorem dX0_draftLogIntegral_64 : decode cX0_draftLogIntegral 64 = .ok (.goto (-61), 3) := by decide +kernel
theorem dX0_draftLogIntegral_67 : decode cX0_draftLogIntegral 67 = .ok (.return_, 1) := by decide +kernel
theorem dX0_draftConstantPowerIntegral_0 : decode cX0_draftConstantPowerIntegral 0 = .ok (.iconst 1, 1) := by decide +kernel
theorem dX0_draftConstantPowerIntegral_1 : decode cX0_draftConstantPowerIntegral 1 = .ok (.istore_n 2, 1) := by decide +kernel
theorem dX0_draftConstantPowerIntegral_2 : decode cX0_draftConstantPowerIntegral 2 = .ok (.iload_n 2, 1) := by decide +kernel
theorem dX0_draftConstantPowerIntegral_3 : decode cX0_draftConstantPowerIntegral 3 = .ok (.iconst 3, 1) := by decide +kernel
theorem dX0_draftConstantPowerIntegral_4 : decode cX0_draftConstantPowerIntegral 4 = .ok (.if_icmp .gt 29, 3) := by decide +kernel
theorem dX0_draftConstantPowerIntegral_7 : decode cX0_draftConstantPowerIntegral 7 = .ok (.aload_n 0, 1) := by decide +kernel
theorem dX0_draftConstantPowerIntegral_8 : decode cX0_draftConstantPowerIntegral 8 = .ok (.iload_n 2, 1) := by decide +kernel
theorem dX0_draftConstantPowerIntegral_9 : decode cX0_draftConstantPowerIntegral 9 = .ok (.iconst 0, 1) := by decide +kernel
theorem dX0_draftConstantPowerIntegral_10 : decode cX0_draftConstantPowerIntegral 10 = .ok (.aload_n 0, 1) := by decide +kernel
theorem dX0_draftConstantPowerIntegral_11 : decode cX0_draftConstantPowerIntegral 11 = .ok (.iload_n 1, 1) := by decide +kernel
theorem dX0_draftConstantPowerIntegral_12 : decode cX0_draftConstantPowerIntegral 12 = .ok (.iload_n 2, 1) := by decide +kernel
theorem dX0_draftConstantPowerIntegral_13 : decode cX0_draftConstantPowerIntegral 13 = .ok (.iconst 1, 1) := by decide +kernel
theorem dX0_draftConstantPowerIntegral_14 : decode cX0_draftConstantPowerIntegral 14 = .ok (.isub, 1) := by decide +kernel
theorem dX0_draftConstantPowerIntegral_15 : decode cX0_draftConstantPowerIntegral 15 = .ok (.iconst (-1), 1) := by decide +kernel
theorem dX0_draftConstantPowerIntegral_16 : decode cX0_draftConstantPowerIntegral 16 = .ok (.invokevirtual 105, 3) := by decide +kernel
theorem dX0_draftConstantPowerIntegral_19 : decode cX0_draftConstantPowerIntegral 19 = .ok (.i2l, 1) := by decide +kernel
theorem dX0_draftConstantPowerIntegral_20 : decode cX0_draftConstantPowerIntegral 20 = .ok (.iload_n 2, 1) := by decide +kernel
theorem dX0_draftConstantPowerIntegral_21 : decode cX0_draftConstantPowerIntegral 21 = .ok (.invokestatic 207, 3) := by decide +kernel
theorem dX0_draftConstantPowerIntegral_24 : decode cX0_draftConstantPowerIntegral 24 = .ok (.invokevirtual 37, 3) := by decide +kernel
theorem dX0_draftConstantPowerIntegral_27 : decode cX0_draftConstantPowerIntegral 27 = .ok (.iinc 2 1, 3) := by decide +kernel
theorem dX0_draftConstantPowerIntegral_30 : decode cX0_draftConstantPowerIntegral 30 = .ok (.goto (-28), 3) := by decide +kernel
theorem dX0_draftConstantPowerIntegral_33 : decode cX0_draftConstantPowerIntegral 33 = .ok (.return_, 1) := by decide +kernel
theorem dX0_draftExponentialIntegral_0 : decode cX0_draftExponentialIntegral 0 = .ok (.iconst 4, 1) := by decide +kernel
theorem dX0_draftExponentialIntegral_1 : decode cX0_draftExponentialIntegral 1 = .ok (.istore_n 2, 1) := by decide +kernel
theorem dX0_draftExponentialIntegral_2 : decode cX0_draftExponentialIntegral 2 = .ok (.iload_n 2, 1) := by decide +kernel
theorem dX0_draftExponentialIntegral_3 : decode cX0_draftExponentialIntegral 3 = .ok (.bipush 8, 2) := by decide +kernel
theorem dX0_draftExponentialIntegral_5 : decode cX0_draftExponentialIntegral 5 = .ok (.if_icmp .ge 61, 3) := by decide +kernel
theorem dX0_draftExponentialIntegral_8 : decode cX0_draftExponentialIntegral 8 = .ok (.iconst 0, 1) := by decide +kernel
theorem dX0_draftExponentialIntegral_9 : decode cX0_draftExponentialIntegral 9 = .ok (.istore_n 3, 1) := by decide +kernel
theorem dX0_draftExponentialIntegral_10 : decode cX0_draftExponentialIntegral 10 = .ok (.iconst 4, 1) := by decide +kernel
theorem dX0_draftExponentialIntegral_11 : decode cX0_draftExponentialIntegral 11 = .ok (.istore 4, 2) := by decide +kernel
theorem dX0_draftExponentialIntegral_13 : decode cX0_draftExponentialIntegral 13 = .ok (.iload 4, 2) := by decide +kernel
theorem dX0_draftExponentialIntegral_15 : decode cX0_draftExponentialIntegral 15 = .ok (.bipush (-4), 2) := by decide +kernel
theorem dX0_draftExponentialIntegral_17 : decode cX0_draftExponentialIntegral 17 = .ok (.if_icmp .le 43, 3) := by decide +kernel
theorem dX0_draftExponentialIntegral_20 : decode cX0_draftExponentialIntegral 20 = .ok (.aload_n 0, 1) := by decide +kernel
theorem dX0_draftExponentialIntegral_21 : decode cX0_draftExponentialIntegral 21 = .ok (.iload_n 1, 1) := by decide +kernel
theorem dX0_draftExponentialIntegral_22 : decode cX0_draftExponentialIntegral 22 = .ok (.iload_n 2, 1) := by decide +kernel
theorem dX0_draftExponentialIntegral_23 : decode cX0_draftExponentialIntegral 23 = .ok (.iload 4, 2) := by decide +kernel
theorem dX0_draftExponentialIntegral_25 : decode cX0_draftExponentialIntegral 25 = .ok (.invokevirtual 105, 3) := by decide +kernel
theorem dX0_draftExponentialIntegral_28 : decode cX0_draftExponentialIntegral 28 = .ok (.i2l, 1) := by decide +kernel
theorem dX0_draftExponentialIntegral_29 : decode cX0_draftExponentialIntegral 29 = .ok (.iload 4, 2) := by decide +kernel
theorem dX0_draftExponentialIntegral_31 : decode cX0_draftExponentialIntegral 31 = .ok (.iconst 1, 1) := by decide +kernel
theorem dX0_draftExponentialIntegral_32 : decode cX0_draftExponentialIntegral 32 = .ok (.iadd, 1) := by decide +kernel
theorem dX0_draftExponentialIntegral_33 : decode cX0_draftExponentialIntegral 33 = .ok (.i2l, 1) := by decide +kernel
theorem dX0_draftExponentialIntegral_34 : decode cX0_draftExponentialIntegral 34 = .ok (.iload_n 3, 1) := by decide +kernel
theorem dX0_draftExponentialIntegral_35 : decode cX0_draftExponentialIntegral 35 = .ok (.i2l, 1) := by decide +kernel
theorem dX0_draftExponentialIntegral_36 : decode cX0_draftExponentialIntegral 36 = .ok (.lmul, 1) := by decide +kernel
theorem dX0_draftExponentialIntegral_37 : decode cX0_draftExponentialIntegral 37 = .ok (.lsub, 1) := by decide +kernel
theorem dX0_draftExponentialIntegral_38 : decode cX0_draftExponentialIntegral 38 = .ok (.iload_n 2, 1) := by decide +kernel
theorem dX0_draftExponentialIntegral_39 : decode cX0_draftExponentialIntegral 39 = .ok (.invokestatic 122, 3) := by decide +kernel
theorem dX0_draftExponentialIntegral_42 : decode cX0_draftExponentialIntegral 42 = .ok (.invokestatic 207, 3) := by decide +kernel
theorem dX0_draftExponentialIntegral_45 : decode cX0_draftExponentialIntegral 45 = .ok (.istore_n 3, 1) := by decide +kernel
theorem dX0_draftExponentialIntegral_46 : decode cX0_draftExponentialIntegral 46 = .ok (.aload_n 0, 1) := by decide +kernel
theorem dX0_draftExponentialIntegral_47 : decode cX0_draftExponentialIntegral 47 = .ok (.iload_n 2, 1) := by decide +kernel
theorem dX0_draftExponentialIntegral_48 : decode cX0_draftExponentialIntegral 48 = .ok (.iload 4, 2) := by decide +kernel
theorem dX0_draftExponentialIntegral_50 : decode cX0_draftExponentialIntegral 50 = .ok (.iload_n 3, 1) := by decide +kernel
theorem dX0_draftExponentialIntegral_51 : decode cX0_draftExponentialIntegral 51 = .ok (.invokevirtual 37, 3) := by decide +kernel
theorem dX0_draftExponentialIntegral_54 : decode cX0_draftExponentialIntegral 54 = .ok (.iinc 4 (-1), 3) := by decide +kernel
theorem dX0_draftExponentialIntegral_57 : decode cX0_draftExponentialIntegral 57 = .ok (.goto (-44), 3) := by decide +kernel
theorem dX0_draftExponentialIntegral_60 : decode cX0_draftExponentialIntegral 60 = .ok (.iinc 2 1, 3) := by decide +kernel
theorem dX0_draftExponentialIntegral_63 : decode cX0_draftExponentialIntegral 63 = .ok (.goto (-61), 3) := by decide +kernel
theorem dX0_draftExponentialIntegral_66 : decode cX0_draftExponentialIntegral 66 = .ok (.return_, 1) := by decide +kernel
theorem dX0_dividesByX_0 : decode cX0_dividesByX 0 = .ok (.iconst 0, 1) := by decide +kernel
theorem dX0_dividesByX_1 : decode cX0_dividesByX 1 = .ok (.istore_n 2, 1) := by decide +kernel
theorem dX0_dividesByX_2 : decode cX0_dividesByX 2 = .ok (.iload_n 2, 1) := by decide +kernel
theorem dX0_dividesByX_3 : decode cX0_dividesByX 3 = .ok (.bipush 8, 2) := by decide +kernel
theorem dX0_dividesByX_5 : decode cX0_dividesByX 5 = .ok (.if_icmp .ge 34, 3) := by decide +kernel
theorem dX0_dividesByX_8 : decode cX0_dividesByX 8 = .ok (.bipush (-4), 2) := by decide +kernel
theorem dX0_dividesByX_10 : decode cX0_dividesByX 10 = .ok (.istore_n 3, 1) := by decide +kernel
theorem dX0_dividesByX_11 : decode cX0_dividesByX 11 = .ok (.iload_n 3, 1) := by decide +kernel
theorem dX0_dividesByX_12 : decode cX0_dividesByX 12 = .ok (.ifCond .ge 21, 3) := by decide +kernel
theorem dX0_dividesByX_15 : decode cX0_dividesByX 15 = .ok (.aload_n 0, 1) := by decide +kernel
theorem dX0_dividesByX_16 : decode cX0_dividesByX 16 = .ok (.iload_n 1, 1) := by decide +kernel
theorem dX0_dividesByX_17 : decode cX0_dividesByX 17 = .ok (.iload_n 2, 1) := by decide +kernel
theorem dX0_dividesByX_18 : decode cX0_dividesByX 18 = .ok (.iload_n 3, 1) := by decide +kernel
theorem dX0_dividesByX_19 : decode cX0_dividesByX 19 = .ok (.invokevirtual 105, 3) := by decide +kernel
theorem dX0_dividesByX_22 : decode cX0_dividesByX 22 = .ok (.ifCond .eq 5, 3) := by decide +kernel
theorem dX0_dividesByX_25 : decode cX0_dividesByX 25 = .ok (.iconst 1, 1) := by decide +kernel
theorem dX0_dividesByX_26 : decode cX0_dividesByX 26 = .ok (.ireturn, 1) := by decide +kernel
theorem dX0_dividesByX_27 : decode cX0_dividesByX 27 = .ok (.iinc 3 1, 3) := by decide +kernel
theorem dX0_dividesByX_30 : decode cX0_dividesByX 30 = .ok (.goto (-19), 3) := by decide +kernel
theorem dX0_dividesByX_33 : decode cX0_dividesByX 33 = .ok (.iinc 2 1, 3) := by decide +kernel
theorem dX0_dividesByX_36 : decode cX0_dividesByX 36 = .ok (.goto (-34), 3) := by decide +kernel
theorem dX0_dividesByX_39 : decode cX0_dividesByX 39 = .ok (.iconst 0, 1) := by decide +kernel
theorem dX0_dividesByX_40 : decode cX0_dividesByX 40 = .ok (.ireturn, 1) := by decide +kernel
theorem dX0_dividesByE_0 : decode cX0_dividesByE 0 = .ok (.aload_n 0, 1) := by decide +kernel
theorem dX0_dividesByE_1 : decode cX0_dividesByE 1 = .ok (.iload_n 1, 1) := by decide +kernel
theorem dX0_dividesByE_2 : decode cX0_dividesByE 2 = .ok (.iconst 4, 1) := by decide +kernel
theorem dX0_dividesByE_3 : decode cX0_dividesByE 3 = .ok (.iconst 5, 1) := by decide +kernel
theorem dX0_dividesByE_4 : decode cX0_dividesByE 4 = .ok (.invokevirtual 109, 3) := by decide +kernel
theorem dX0_dividesByE_7 : decode cX0_dividesByE 7 = .ok (.ifCond .le 7, 3) := by decide +kernel
theorem dX0_dividesByE_10 : decode cX0_dividesByE 10 = .ok (.iconst 1, 1) := by decide +kernel
theorem dX0_dividesByE_11 : decode cX0_dividesByE 11 = .ok (.goto 4, 3) := by decide +kernel
theorem dX0_dividesByE_14 : decode cX0_dividesByE 14 = .ok (.iconst 0, 1) := by decide +kernel
theorem dX0_dividesByE_15 : decode cX0_dividesByE 15 = .ok (.ireturn, 1) := by decide +kernel
theorem dX0_valueInX_0 : decode cX0_valueInX 0 = .ok (.iconst 0, 1) := by decide +kernel
theorem dX0_valueInX_1 : decode cX0_valueInX 1 = .ok (.istore 5, 2) := by decide +kernel
theorem dX0_valueInX_3 : decode cX0_valueInX 3 = .ok (.iconst 4, 1) := by decide +kernel
theorem dX0_valueInX_4 : decode cX0_valueInX 4 = .ok (.istore 6, 2) := by decide +kernel
theorem dX0_valueInX_6 : decode cX0_valueInX 6 = .ok (.iload 6, 2) := by decide +kernel
theorem dX0_valueInX_8 : decode cX0_valueInX 8 = .ok (.ifCond .lt 30, 3) := by decide +kernel
theorem dX0_valueInX_11 : decode cX0_valueInX 11 = .ok (.iload 5, 2) := by decide +kernel
theorem dX0_valueInX_13 : decode cX0_valueInX 13 = .ok (.i2l, 1) := by decide +kernel
theorem dX0_valueInX_14 : decode cX0_valueInX 14 = .ok (.iload_n 3, 1) := by decide +kernel
theorem dX0_valueInX_15 : decode cX0_valueInX 15 = .ok (.i2l, 1) := by decide +kernel
theorem dX0_valueInX_16 : decode cX0_valueInX 16 = .ok (.lmul, 1) := by decide +kernel
theorem dX0_valueInX_17 : decode cX0_valueInX 17 = .ok (.aload_n 0, 1) := by decide +kernel
theorem dX0_valueInX_18 : decode cX0_valueInX 18 = .ok (.iload_n 1, 1) := by decide +kernel
theorem dX0_valueInX_19 : decode cX0_valueInX 19 = .ok (.iload_n 2, 1) := by decide +kernel
theorem dX0_valueInX_20 : decode cX0_valueInX 20 = .ok (.iload 6, 2) := by decide +kernel
theorem dX0_valueInX_22 : decode cX0_valueInX 22 = .ok (.invokevirtual 105, 3) := by decide +kernel
theorem dX0_valueInX_25 : decode cX0_valueInX 25 = .ok (.i2l, 1) := by decide +kernel
theorem dX0_valueInX_26 : decode cX0_valueInX 26 = .ok (.ladd, 1) := by decide +kernel
theorem dX0_valueInX_27 : decode cX0_valueInX 27 = .ok (.invokestatic 33, 3) := by decide +kernel
theorem dX0_valueInX_30 : decode cX0_valueInX 30 = .ok (.istore 5, 2) := by decide +kernel
theorem dX0_valueInX_32 : decode cX0_valueInX 32 = .ok (.iinc 6 (-1), 3) := by decide +kernel
theorem dX0_valueInX_35 : decode cX0_valueInX 35 = .ok (.goto (-29), 3) := by decide +kernel
theorem dX0_valueInX_38 : decode cX0_valueInX 38 = .ok (.iconst 0, 1) := by decide +kernel
theorem dX0_valueInX_39 : decode cX0_valueInX 39 = .ok (.istore 6, 2) := by decide +kernel
theorem dX0_valueInX_41 : decode cX0_valueInX 41 = .ok (.bipush (-4), 2) := by decide +kernel
theorem dX0_valueInX_43 : decode cX0_valueInX 43 = .ok (.istore 7, 2) := by decide +kernel
theorem dX0_valueInX_45 : decode cX0_valueInX 45 = .ok (.iload 7, 2) := by decide +kernel
theorem dX0_valueInX_47 : decode cX0_valueInX 47 = .ok (.ifCond .ge 32, 3) := by decide +kernel
theorem dX0_valueInX_50 : decode cX0_valueInX 50 = .ok (.iload 6, 2) := by decide +kernel
theorem dX0_valueInX_52 : decode cX0_valueInX 52 = .ok (.i2l, 1) := by decide +kernel
theorem dX0_valueInX_53 : decode cX0_valueInX 53 = .ok (.aload_n 0, 1) := by decide +kernel
theorem dX0_valueInX_54 : decode cX0_valueInX 54 = .ok (.iload_n 1, 1) := by decide +kernel
theorem dX0_valueInX_55 : decode cX0_valueInX 55 = .ok (.iload_n 2, 1) := by decide +kernel
theorem dX0_valueInX_56 : decode cX0_valueInX 56 = .ok (.iload 7, 2) := by decide +kernel
theorem dX0_valueInX_58 : decode cX0_valueInX 58 = .ok (.invokevirtual 105, 3) := by decide +kernel
theorem dX0_valueInX_61 : decode cX0_valueInX 61 = .ok (.i2l, 1) := by decide +kernel
theorem dX0_valueInX_62 : decode cX0_valueInX 62 = .ok (.ladd, 1) := by decide +kernel
theorem dX0_valueInX_63 : decode cX0_valueInX 63 = .ok (.invokestatic 33, 3) := by decide +kernel
theorem dX0_valueInX_66 : decode cX0_valueInX 66 = .ok (.iload 4, 2) := by decide +kernel
theorem dX0_valueInX_68 : decode cX0_valueInX 68 = .ok (.invokestatic 136, 3) := by decide +kernel
theorem dX0_valueInX_71 : decode cX0_valueInX 71 = .ok (.istore 6, 2) := by decide +kernel
theorem dX0_valueInX_73 : decode cX0_valueInX 73 = .ok (.iinc 7 1, 3) := by decide +kernel
theorem dX0_valueInX_76 : decode cX0_valueInX 76 = .ok (.goto (-31), 3) := by decide +kernel
theorem dX0_valueInX_79 : decode cX0_valueInX 79 = .ok (.iload 5, 2) := by decide +kernel
theorem dX0_valueInX_81 : decode cX0_valueInX 81 = .ok (.i2l, 1) := by decide +kernel
theorem dX0_valueInX_82 : decode cX0_valueInX 82 = .ok (.iload 6, 2) := by decide +kernel
theorem dX0_valueInX_84 : decode cX0_valueInX 84 = .ok (.i2l, 1) := by decide +kernel
theorem dX0_valueInX_85 : decode cX0_valueInX 85 = .ok (.ladd, 1) := by decide +kernel
theorem dX0_valueInX_86 : decode cX0_valueInX 86 = .ok (.invokestatic 33, 3) := by decide +kernel
theorem dX0_valueInX_89 : decode cX0_valueInX 89 = .ok (.ireturn, 1) := by decide +kernel
theorem dX1_init_0 : decode cX1_init 0 = .ok (.aload_n 0, 1) := by decide +kernel
theorem dX1_init_1 : decode cX1_init 1 = .ok (.invokespecial 1, 3) := by decide +kernel
theorem dX1_init_4 : decode cX1_init 4 = .ok (.aload_n 0, 1) := by decide +kernel
theorem dX1_init_5 : decode cX1_init 5 = .ok (.sipush 4320, 3) := by decide +kernel
theorem dX1_init_8 : decode cX1_init 8 = .ok (.newarray .int, 2) := by decide +kernel
theorem dX1_init_10 : decode cX1_init 10 = .ok (.putfield 7, 3) := by decide +kernel
theorem dX1_init_13 : decode cX1_init 13 = .ok (.aload_n 0, 1) := by decide +kernel
theorem dX1_init_14 : decode cX1_init 14 = .ok (.bipush 72, 2) := by decide +kernel
theorem dX1_init_16 : decode cX1_init 16 = .ok (.newarray .long, 2) := by decide +kernel
theorem dX1_init_18 : decode cX1_init 18 = .ok (.putfield 13, 3) := by decide +kernel
theorem dX1_init_21 : decode cX1_init 21 = .ok (.aload_n 0, 1) := by decide +kernel
theorem dX1_init_22 : decode cX1_init 22 = .ok (.bipush 72, 2) := by decide +kernel
theorem dX1_init_24 : decode cX1_init 24 = .ok (.newarray .long, 2) := by decide +kernel
theorem dX1_init_26 : decode cX1_init 26 = .ok (.putfield 17, 3) := by decide +kernel
theorem dX1_init_29 : decode cX1_init 29 = .ok (.aload_n 0, 1) := by decide +kernel
theorem dX1_init_30 : decode cX1_init 30 = .ok (.bipush 72, 2) := by decide +kernel
theorem dX1_init_32 : decode cX1_init 32 = .ok (.newarray .long, 2) := by decide +kernel
theorem dX1_init_34 : decode cX1_init 34 = .ok (.putfield 20, 3) := by decide +kernel
theorem dX1_init_37 : decode cX1_init 37 = .ok (.aload_n 0, 1) := by decide +kernel
theorem dX1_init_38 : decode cX1_init 38 = .ok (.sipush 304, 3) := by decide +kernel
theorem dX1_init_41 : decode cX1_init 41 = .ok (.newarray .long, 2) := by decide +kernel
theorem dX1_init_43 : decode cX1_init 43 = .ok (.putfield 23, 3) := by decide +kernel
theorem dX1_init_46 : decode cX1_init 46 = .ok (.aload_n 0, 1) := by decide +kernel
theorem dX1_init_47 : decode cX1_init 47 = .ok (.bipush 10, 2) := by decide +kernel
theorem dX1_init_49 : decode cX1_init 49 = .ok (.newarray .long, 2) := by decide +kernel
theorem dX1_init_51 : decode cX1_init 51 = .ok (.putfield 26, 3) := by decide +kernel
theorem dX1_init_54 : decode cX1_init 54 = .ok (.return_, 1) := by decide +kernel
theorem dX1_thrown_0 : decode cX1_thrown 0 = .ok (.aload_n 0, 1) := by decide +kernel
theorem dX1_thrown_1 : decode cX1_thrown 1 = .ok (.getfield 29, 3) := by decide +kernel
theorem dX1_thrown_4 : decode cX1_thrown 4 = .ok (.ireturn, 1) := by decide +kernel
theorem dX1_raise_0 : decode cX1_raise 0 = .ok (.aload_n 0, 1) := by decide +kernel
theorem dX1_raise_1 : decode cX1_raise 1 = .ok (.iload_n 1, 1) := by decide +kernel
theorem dX1_raise_2 : decode cX1_raise 2 = .ok (.putfield 29, 3) := by decide +kernel
theorem dX1_raise_5 : decode cX1_raise 5 = .ok (.iconst 0, 1) := by decide +kernel
theorem dX1_raise_6 : decode cX1_raise 6 = .ok (.ireturn, 1) := by decide +kernel
theorem dX1_in_0 : decode cX1_in 0 = .ok (.lload_n 0, 1) := by decide +kernel
theorem dX1_in_1 : decode cX1_in 1 = .ok (.lload_n 2, 1) := by decide +kernel
theorem dX1_in_2 : decode cX1_in 2 = .ok (.lcmp, 1) := by decide +kernel
theorem dX1_in_3 : decode cX1_in 3 = .ok (.ifCond .lt 14, 3) := by decide +kernel
theorem dX1_in_6 : decode cX1_in 6 = .ok (.lload_n 0, 1) := by decide +kernel
theorem dX1_in_7 : decode cX1_in 7 = .ok (.lload 4, 2) := by decide +kernel
theorem dX1_in_9 : decode cX1_in 9 = .ok (.lcmp, 1) := by decide +kernel
theorem dX1_in_10 : decode cX1_in 10 = .ok (.ifCond .gt 7, 3) := by decide +kernel
theorem dX1_in_13 : decode cX1_in 13 = .ok (.iconst 1, 1) := by decide +kernel
theorem dX1_in_14 : decode cX1_in 14 = .ok (.goto 4, 3) := by decide +kernel
theorem dX1_in_17 : decode cX1_in 17 = .ok (.iconst 0, 1) := by decide +kernel
theorem dX1_in_18 : decode cX1_in 18 = .ok (.ireturn, 1) := by decide +kernel
theorem dX1_modulo_0 : decode cX1_modulo 0 = .ok (.lload_n 0, 1) := by decide +kernel
theorem dX1_modulo_1 : decode cX1_modulo 1 = .ok (.ldc2_w 33, 3) := by decide +kernel
theorem dX1_modulo_4 : decode cX1_modulo 4 = .ok (.lrem, 1) := by decide +kernel
theorem dX1_modulo_5 : decode cX1_modulo 5 = .ok (.lstore_n 2, 1) := by decide +kernel
theorem dX1_modulo_6 : decode cX1_modulo 6 = .ok (.lload_n 2, 1) := by decide +kernel
theorem dX1_modulo_7 : decode cX1_modulo 7 = .ok (.lconst 0, 1) := by decide +kernel
theorem dX1_modulo_8 : decode cX1_modulo 8 = .ok (.lcmp, 1) := by decide +kernel
theorem dX1_modulo_9 : decode cX1_modulo 9 = .ok (.ifCond .ge 11, 3) := by decide +kernel
theorem dX1_modulo_12 : decode cX1_modulo 12 = .ok (.lload_n 2, 1) := by decide +kernel
theorem dX1_modulo_13 : decode cX1_modulo 13 = .ok (.ldc2_w 33, 3) := by decide +kernel
theorem dX1_modulo_16 : decode cX1_modulo 16 = .ok (.ladd, 1) := by decide +kernel
theorem dX1_modulo_17 : decode cX1_modulo 17 = .ok (.goto 4, 3) := by decide +kernel
theorem dX1_modulo_20 : decode cX1_modulo 20 = .ok (.lload_n 2, 1) := by decide +kernel
theorem dX1_modulo_21 : decode cX1_modulo 21 = .ok (.lreturn, 1) := by decide +kernel
theorem dX1_inverse_0 : decode cX1_inverse 0 = .ok (.lconst 1, 1) := by decide +kernel
theorem dX1_inverse_1 : decode cX1_inverse 1 = .ok (.lstore_n 2, 1) := by decide +kernel
theorem dX1_inverse_2 : decode cX1_inverse 2 = .ok (.lload_n 0, 1) := by decide +kernel
theorem dX1_inverse_3 : decode cX1_inverse 3 = .ok (.invokestatic 35, 3) := by decide +kernel
theorem dX1_inverse_6 : decode cX1_inverse 6 = .ok (.lstore 4, 2) := by decide +kernel
theorem dX1_inverse_8 : decode cX1_inverse 8 = .ok (.sipush 32001, 3) := by decide +kernel
theorem dX1_inverse_11 : decode cX1_inverse 11 = .ok (.istore 6, 2) := by decide +kernel
theorem dX1_inverse_13 : decode cX1_inverse 13 = .ok (.iload 6, 2) := by decide +kernel
theorem dX1_inverse_15 : decode cX1_inverse 15 = .ok (.ifCond .le 44, 3) := by decide +kernel
theorem dX1_inverse_18 : decode cX1_inverse 18 = .ok (.iload 6, 2) := by decide +kernel
theorem dX1_inverse_20 : decode cX1_inverse 20 = .ok (.iconst 2, 1) := by decide +kernel
theorem dX1_inverse_21 : decode cX1_inverse 21 = .ok (.irem, 1) := by decide +kernel
theorem dX1_inverse_22 : decode cX1_inverse 22 = .ok (.iconst 1, 1) := by decide +kernel
theorem dX1_inverse_23 : decode cX1_inverse 23 = .ok (.if_icmp .ne 14, 3) := by decide +kernel
theorem dX1_inverse_26 : decode cX1_inverse 26 = .ok (.lload_n 2, 1) := by decide +kernel
theorem dX1_inverse_27 : decode cX1_inverse 27 = .ok (.lload 4, 2) := by decide +kernel
theorem dX1_inverse_29 : decode cX1_inverse 29 = .ok (.lmul, 1) := by decide +kernel
theorem dX1_inverse_30 : decode cX1_inverse 30 = .ok (.ldc2_w 33, 3) := by decide +kernel
theorem dX1_inverse_33 : decode cX1_inverse 33 = .ok (.lrem, 1) := by decide +kernel
theorem dX1_inverse_34 : decode cX1_inverse 34 = .ok (.goto 4, 3) := by decide +kernel
theorem dX1_inverse_37 : decode cX1_inverse 37 = .ok (.lload_n 2, 1) := by decide +kernel
theorem dX1_inverse_38 : decode cX1_inverse 38 = .ok (.lstore_n 2, 1) := by decide +kernel
theorem dX1_inverse_39 : decode cX1_inverse 39 = .ok (.lload 4, 2) := by decide +kernel
theorem dX1_inverse_41 : decode cX1_inverse 41 = .ok (.lload 4, 2) := by decide +kernel
theorem dX1_inverse_43 : decode cX1_inverse 43 = .ok (.lmul, 1) := by decide +kernel
theorem dX1_inverse_44 : decode cX1_inverse 44 = .ok (.ldc2_w 33, 3) := by decide +kernel
theorem dX1_inverse_47 : decode cX1_inverse 47 = .ok (.lrem, 1) := by decide +kernel
theorem dX1_inverse_48 : decode cX1_inverse 48 = .ok (.lstore 4, 2) := by decide +kernel
theorem dX1_inverse_50 : decode cX1_inverse 50 = .ok (.iload 6, 2) := by decide +kernel
theorem dX1_inverse_52 : decode cX1_inverse 52 = .ok (.iconst 2, 1) := by decide +kernel
theorem dX1_inverse_53 : decode cX1_inverse 53 = .ok (.idiv, 1) := by decide +kernel
theorem dX1_inverse_54 : decode cX1_inverse 54 = .ok (.istore 6, 2) := by decide +kernel
theorem dX1_inverse_56 : decode cX1_inverse 56 = .ok (.goto (-43), 3) := by decide +kernel
theorem dX1_inverse_59 : decode cX1_inverse 59 = .ok (.lload_n 2, 1) := by decide +kernel
theorem dX1_inverse_60 : decode cX1_inverse 60 = .ok (.lreturn, 1) := by decide +kernel
theorem dX1_place_0 : decode cX1_place 0 = .ok (.bipush 9, 2) := by decide +kernel
theorem dX1_place_2 : decode cX1_place 2 = .ok (.iload_n 0, 1) := by decide +kernel
