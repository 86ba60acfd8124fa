theorem dX1_integrate_224 : decode cX1_integrate 224 = .ok (.i2l, 1) := by decide +kernel
theorem dX1_integrate_225 : decode cX1_integrate 225 = .ok (.invokestatic 98, 3) := by decide +kernel
theorem dX1_integrate_228 : decode cX1_integrate 228 = .ok (.lmul, 1) := by decide +kernel
theorem dX1_integrate_229 : decode cX1_integrate 229 = .ok (.ldc2_w 33, 3) := by decide +kernel
theorem dX1_integrate_232 : decode cX1_integrate 232 = .ok (.lrem, 1) := by decide +kernel
theorem dX1_integrate_233 : decode cX1_integrate 233 = .ok (.lastore, 1) := by decide +kernel
theorem dX1_integrate_234 : decode cX1_integrate 234 = .ok (.iinc 3 (-1), 3) := by decide +kernel
theorem dX1_integrate_237 : decode cX1_integrate 237 = .ok (.goto (-82), 3) := by decide +kernel
theorem dX1_integrate_240 : decode cX1_integrate 240 = .ok (.iinc 2 1, 3) := by decide +kernel
theorem dX1_integrate_243 : decode cX1_integrate 243 = .ok (.goto (-95), 3) := by decide +kernel
theorem dX1_integrate_246 : decode cX1_integrate 246 = .ok (.iconst 0, 1) := by decide +kernel
theorem dX1_integrate_247 : decode cX1_integrate 247 = .ok (.istore_n 2, 1) := by decide +kernel
theorem dX1_integrate_248 : decode cX1_integrate 248 = .ok (.iload_n 2, 1) := by decide +kernel
theorem dX1_integrate_249 : decode cX1_integrate 249 = .ok (.iconst 3, 1) := by decide +kernel
theorem dX1_integrate_250 : decode cX1_integrate 250 = .ok (.if_icmp .ge 43, 3) := by decide +kernel
theorem dX1_integrate_253 : decode cX1_integrate 253 = .ok (.aload_n 0, 1) := by decide +kernel
theorem dX1_integrate_254 : decode cX1_integrate 254 = .ok (.getfield 13, 3) := by decide +kernel
theorem dX1_integrate_257 : decode cX1_integrate 257 = .ok (.iload_n 2, 1) := by decide +kernel
theorem dX1_integrate_258 : decode cX1_integrate 258 = .ok (.iconst 1, 1) := by decide +kernel
theorem dX1_integrate_259 : decode cX1_integrate 259 = .ok (.iadd, 1) := by decide +kernel
theorem dX1_integrate_260 : decode cX1_integrate 260 = .ok (.iconst 0, 1) := by decide +kernel
theorem dX1_integrate_261 : decode cX1_integrate 261 = .ok (.invokestatic 60, 3) := by decide +kernel
theorem dX1_integrate_264 : decode cX1_integrate 264 = .ok (.aload_n 0, 1) := by decide +kernel
theorem dX1_integrate_265 : decode cX1_integrate 265 = .ok (.getfield 17, 3) := by decide +kernel
theorem dX1_integrate_268 : decode cX1_integrate 268 = .ok (.iload_n 2, 1) := by decide +kernel
theorem dX1_integrate_269 : decode cX1_integrate 269 = .ok (.iconst (-1), 1) := by decide +kernel
theorem dX1_integrate_270 : decode cX1_integrate 270 = .ok (.invokestatic 60, 3) := by decide +kernel
theorem dX1_integrate_273 : decode cX1_integrate 273 = .ok (.laload, 1) := by decide +kernel
theorem dX1_integrate_274 : decode cX1_integrate 274 = .ok (.iload_n 2, 1) := by decide +kernel
theorem dX1_integrate_275 : decode cX1_integrate 275 = .ok (.iconst 1, 1) := by decide +kernel
theorem dX1_integrate_276 : decode cX1_integrate 276 = .ok (.iadd, 1) := by decide +kernel
theorem dX1_integrate_277 : decode cX1_integrate 277 = .ok (.i2l, 1) := by decide +kernel
theorem dX1_integrate_278 : decode cX1_integrate 278 = .ok (.invokestatic 98, 3) := by decide +kernel
theorem dX1_integrate_281 : decode cX1_integrate 281 = .ok (.lmul, 1) := by decide +kernel
theorem dX1_integrate_282 : decode cX1_integrate 282 = .ok (.ldc2_w 33, 3) := by decide +kernel
theorem dX1_integrate_285 : decode cX1_integrate 285 = .ok (.lrem, 1) := by decide +kernel
theorem dX1_integrate_286 : decode cX1_integrate 286 = .ok (.lastore, 1) := by decide +kernel
theorem dX1_integrate_287 : decode cX1_integrate 287 = .ok (.iinc 2 1, 3) := by decide +kernel
theorem dX1_integrate_290 : decode cX1_integrate 290 = .ok (.goto (-42), 3) := by decide +kernel
theorem dX1_integrate_293 : decode cX1_integrate 293 = .ok (.aload_n 0, 1) := by decide +kernel
theorem dX1_integrate_294 : decode cX1_integrate 294 = .ok (.invokevirtual 64, 3) := by decide +kernel
theorem dX1_integrate_297 : decode cX1_integrate 297 = .ok (.ireturn, 1) := by decide +kernel
theorem dX1_at_0 : decode cX1_at 0 = .ok (.aload_n 0, 1) := by decide +kernel
theorem dX1_at_1 : decode cX1_at 1 = .ok (.aload_n 0, 1) := by decide +kernel
theorem dX1_at_2 : decode cX1_at 2 = .ok (.iload_n 1, 1) := by decide +kernel
theorem dX1_at_3 : decode cX1_at 3 = .ok (.invokevirtual 46, 3) := by decide +kernel
theorem dX1_at_6 : decode cX1_at 6 = .ok (.ifCond .ne 7, 3) := by decide +kernel
theorem dX1_at_9 : decode cX1_at 9 = .ok (.iconst 1, 1) := by decide +kernel
theorem dX1_at_10 : decode cX1_at 10 = .ok (.goto 34, 3) := by decide +kernel
theorem dX1_at_13 : decode cX1_at 13 = .ok (.iload_n 2, 1) := by decide +kernel
theorem dX1_at_14 : decode cX1_at 14 = .ok (.i2l, 1) := by decide +kernel
theorem dX1_at_15 : decode cX1_at 15 = .ok (.lconst 0, 1) := by decide +kernel
theorem dX1_at_16 : decode cX1_at 16 = .ok (.ldc2_w 54, 3) := by decide +kernel
theorem dX1_at_19 : decode cX1_at 19 = .ok (.invokestatic 42, 3) := by decide +kernel
theorem dX1_at_22 : decode cX1_at 22 = .ok (.ifCond .eq 17, 3) := by decide +kernel
theorem dX1_at_25 : decode cX1_at 25 = .ok (.iload_n 3, 1) := by decide +kernel
theorem dX1_at_26 : decode cX1_at 26 = .ok (.i2l, 1) := by decide +kernel
theorem dX1_at_27 : decode cX1_at 27 = .ok (.ldc2_w 56, 3) := by decide +kernel
theorem dX1_at_30 : decode cX1_at 30 = .ok (.ldc2_w 58, 3) := by decide +kernel
theorem dX1_at_33 : decode cX1_at 33 = .ok (.invokestatic 42, 3) := by decide +kernel
theorem dX1_at_36 : decode cX1_at 36 = .ok (.ifCond .ne 7, 3) := by decide +kernel
theorem dX1_at_39 : decode cX1_at 39 = .ok (.iconst 2, 1) := by decide +kernel
theorem dX1_at_40 : decode cX1_at 40 = .ok (.goto 4, 3) := by decide +kernel
theorem dX1_at_43 : decode cX1_at 43 = .ok (.iconst 0, 1) := by decide +kernel
theorem dX1_at_44 : decode cX1_at 44 = .ok (.putfield 29, 3) := by decide +kernel
theorem dX1_at_47 : decode cX1_at 47 = .ok (.aload_n 0, 1) := by decide +kernel
theorem dX1_at_48 : decode cX1_at 48 = .ok (.getfield 29, 3) := by decide +kernel
theorem dX1_at_51 : decode cX1_at 51 = .ok (.ifCond .le 7, 3) := by decide +kernel
theorem dX1_at_54 : decode cX1_at 54 = .ok (.iconst 0, 1) := by decide +kernel
theorem dX1_at_55 : decode cX1_at 55 = .ok (.goto 18, 3) := by decide +kernel
theorem dX1_at_58 : decode cX1_at 58 = .ok (.aload_n 0, 1) := by decide +kernel
theorem dX1_at_59 : decode cX1_at 59 = .ok (.getfield 7, 3) := by decide +kernel
theorem dX1_at_62 : decode cX1_at 62 = .ok (.bipush 72, 2) := by decide +kernel
theorem dX1_at_64 : decode cX1_at 64 = .ok (.iload_n 1, 1) := by decide +kernel
theorem dX1_at_65 : decode cX1_at 65 = .ok (.imul, 1) := by decide +kernel
theorem dX1_at_66 : decode cX1_at 66 = .ok (.iload_n 2, 1) := by decide +kernel
theorem dX1_at_67 : decode cX1_at 67 = .ok (.iload_n 3, 1) := by decide +kernel
theorem dX1_at_68 : decode cX1_at 68 = .ok (.invokestatic 60, 3) := by decide +kernel
theorem dX1_at_71 : decode cX1_at 71 = .ok (.iadd, 1) := by decide +kernel
theorem dX1_at_72 : decode cX1_at 72 = .ok (.iaload, 1) := by decide +kernel
theorem dX1_at_73 : decode cX1_at 73 = .ok (.ireturn, 1) := by decide +kernel
theorem dX1_terms_0 : decode cX1_terms 0 = .ok (.aload_n 0, 1) := by decide +kernel
theorem dX1_terms_1 : decode cX1_terms 1 = .ok (.aload_n 0, 1) := by decide +kernel
theorem dX1_terms_2 : decode cX1_terms 2 = .ok (.iload_n 1, 1) := by decide +kernel
theorem dX1_terms_3 : decode cX1_terms 3 = .ok (.invokevirtual 46, 3) := by decide +kernel
theorem dX1_terms_6 : decode cX1_terms 6 = .ok (.ifCond .ne 7, 3) := by decide +kernel
theorem dX1_terms_9 : decode cX1_terms 9 = .ok (.iconst 1, 1) := by decide +kernel
theorem dX1_terms_10 : decode cX1_terms 10 = .ok (.goto 22, 3) := by decide +kernel
theorem dX1_terms_13 : decode cX1_terms 13 = .ok (.iload_n 2, 1) := by decide +kernel
theorem dX1_terms_14 : decode cX1_terms 14 = .ok (.i2l, 1) := by decide +kernel
theorem dX1_terms_15 : decode cX1_terms 15 = .ok (.ldc2_w 68, 3) := by decide +kernel
theorem dX1_terms_18 : decode cX1_terms 18 = .ok (.ldc2_w 54, 3) := by decide +kernel
theorem dX1_terms_21 : decode cX1_terms 21 = .ok (.invokestatic 42, 3) := by decide +kernel
theorem dX1_terms_24 : decode cX1_terms 24 = .ok (.ifCond .eq 7, 3) := by decide +kernel
theorem dX1_terms_27 : decode cX1_terms 27 = .ok (.iconst 0, 1) := by decide +kernel
theorem dX1_terms_28 : decode cX1_terms 28 = .ok (.goto 4, 3) := by decide +kernel
theorem dX1_terms_31 : decode cX1_terms 31 = .ok (.iconst 2, 1) := by decide +kernel
theorem dX1_terms_32 : decode cX1_terms 32 = .ok (.putfield 29, 3) := by decide +kernel
theorem dX1_terms_35 : decode cX1_terms 35 = .ok (.iconst 0, 1) := by decide +kernel
theorem dX1_terms_36 : decode cX1_terms 36 = .ok (.istore_n 3, 1) := by decide +kernel
theorem dX1_terms_37 : decode cX1_terms 37 = .ok (.iconst 0, 1) := by decide +kernel
theorem dX1_terms_38 : decode cX1_terms 38 = .ok (.istore 4, 2) := by decide +kernel
theorem dX1_terms_40 : decode cX1_terms 40 = .ok (.iload 4, 2) := by decide +kernel
theorem dX1_terms_42 : decode cX1_terms 42 = .ok (.bipush 72, 2) := by decide +kernel
theorem dX1_terms_44 : decode cX1_terms 44 = .ok (.if_icmp .ge 48, 3) := by decide +kernel
theorem dX1_terms_47 : decode cX1_terms 47 = .ok (.aload_n 0, 1) := by decide +kernel
theorem dX1_terms_48 : decode cX1_terms 48 = .ok (.getfield 29, 3) := by decide +kernel
theorem dX1_terms_51 : decode cX1_terms 51 = .ok (.ifCond .ne 41, 3) := by decide +kernel
theorem dX1_terms_54 : decode cX1_terms 54 = .ok (.aload_n 0, 1) := by decide +kernel
theorem dX1_terms_55 : decode cX1_terms 55 = .ok (.getfield 7, 3) := by decide +kernel
theorem dX1_terms_58 : decode cX1_terms 58 = .ok (.bipush 72, 2) := by decide +kernel
theorem dX1_terms_60 : decode cX1_terms 60 = .ok (.iload_n 1, 1) := by decide +kernel
theorem dX1_terms_61 : decode cX1_terms 61 = .ok (.imul, 1) := by decide +kernel
theorem dX1_terms_62 : decode cX1_terms 62 = .ok (.iload 4, 2) := by decide +kernel
theorem dX1_terms_64 : decode cX1_terms 64 = .ok (.iadd, 1) := by decide +kernel
theorem dX1_terms_65 : decode cX1_terms 65 = .ok (.iaload, 1) := by decide +kernel
theorem dX1_terms_66 : decode cX1_terms 66 = .ok (.ifCond .eq 20, 3) := by decide +kernel
theorem dX1_terms_69 : decode cX1_terms 69 = .ok (.iload_n 2, 1) := by decide +kernel
theorem dX1_terms_70 : decode cX1_terms 70 = .ok (.iconst (-1), 1) := by decide +kernel
theorem dX1_terms_71 : decode cX1_terms 71 = .ok (.if_icmp .eq 12, 3) := by decide +kernel
theorem dX1_terms_74 : decode cX1_terms 74 = .ok (.iload 4, 2) := by decide +kernel
theorem dX1_terms_76 : decode cX1_terms 76 = .ok (.bipush 9, 2) := by decide +kernel
theorem dX1_terms_78 : decode cX1_terms 78 = .ok (.idiv, 1) := by decide +kernel
theorem dX1_terms_79 : decode cX1_terms 79 = .ok (.iload_n 2, 1) := by decide +kernel
theorem dX1_terms_80 : decode cX1_terms 80 = .ok (.if_icmp .ne 6, 3) := by decide +kernel
theorem dX1_terms_83 : decode cX1_terms 83 = .ok (.iinc 3 1, 3) := by decide +kernel
theorem dX1_terms_86 : decode cX1_terms 86 = .ok (.iinc 4 1, 3) := by decide +kernel
theorem dX1_terms_89 : decode cX1_terms 89 = .ok (.goto (-49), 3) := by decide +kernel
theorem dX1_terms_92 : decode cX1_terms 92 = .ok (.iload_n 3, 1) := by decide +kernel
theorem dX1_terms_93 : decode cX1_terms 93 = .ok (.ireturn, 1) := by decide +kernel
theorem dX1_degree_0 : decode cX1_degree 0 = .ok (.aload_n 0, 1) := by decide +kernel
theorem dX1_degree_1 : decode cX1_degree 1 = .ok (.aload_n 0, 1) := by decide +kernel
theorem dX1_degree_2 : decode cX1_degree 2 = .ok (.iload_n 1, 1) := by decide +kernel
theorem dX1_degree_3 : decode cX1_degree 3 = .ok (.invokevirtual 46, 3) := by decide +kernel
theorem dX1_degree_6 : decode cX1_degree 6 = .ok (.ifCond .ne 7, 3) := by decide +kernel
theorem dX1_degree_9 : decode cX1_degree 9 = .ok (.iconst 1, 1) := by decide +kernel
theorem dX1_degree_10 : decode cX1_degree 10 = .ok (.goto 20, 3) := by decide +kernel
theorem dX1_degree_13 : decode cX1_degree 13 = .ok (.iload_n 2, 1) := by decide +kernel
theorem dX1_degree_14 : decode cX1_degree 14 = .ok (.i2l, 1) := by decide +kernel
theorem dX1_degree_15 : decode cX1_degree 15 = .ok (.lconst 0, 1) := by decide +kernel
theorem dX1_degree_16 : decode cX1_degree 16 = .ok (.ldc2_w 54, 3) := by decide +kernel
theorem dX1_degree_19 : decode cX1_degree 19 = .ok (.invokestatic 42, 3) := by decide +kernel
theorem dX1_degree_22 : decode cX1_degree 22 = .ok (.ifCond .eq 7, 3) := by decide +kernel
theorem dX1_degree_25 : decode cX1_degree 25 = .ok (.iconst 0, 1) := by decide +kernel
theorem dX1_degree_26 : decode cX1_degree 26 = .ok (.goto 4, 3) := by decide +kernel
theorem dX1_degree_29 : decode cX1_degree 29 = .ok (.iconst 2, 1) := by decide +kernel
theorem dX1_degree_30 : decode cX1_degree 30 = .ok (.putfield 29, 3) := by decide +kernel
theorem dX1_degree_33 : decode cX1_degree 33 = .ok (.aload_n 0, 1) := by decide +kernel
theorem dX1_degree_34 : decode cX1_degree 34 = .ok (.getfield 29, 3) := by decide +kernel
theorem dX1_degree_37 : decode cX1_degree 37 = .ok (.ifCond .le 5, 3) := by decide +kernel
theorem dX1_degree_40 : decode cX1_degree 40 = .ok (.iconst 0, 1) := by decide +kernel
theorem dX1_degree_41 : decode cX1_degree 41 = .ok (.ireturn, 1) := by decide +kernel
theorem dX1_degree_42 : decode cX1_degree 42 = .ok (.iconst 4, 1) := by decide +kernel
theorem dX1_degree_43 : decode cX1_degree 43 = .ok (.istore_n 3, 1) := by decide +kernel
theorem dX1_degree_44 : decode cX1_degree 44 = .ok (.iload_n 3, 1) := by decide +kernel
theorem dX1_degree_45 : decode cX1_degree 45 = .ok (.bipush (-4), 2) := by decide +kernel
theorem dX1_degree_47 : decode cX1_degree 47 = .ok (.if_icmp .lt 27, 3) := by decide +kernel
theorem dX1_degree_50 : decode cX1_degree 50 = .ok (.aload_n 0, 1) := by decide +kernel
theorem dX1_degree_51 : decode cX1_degree 51 = .ok (.getfield 7, 3) := by decide +kernel
theorem dX1_degree_54 : decode cX1_degree 54 = .ok (.bipush 72, 2) := by decide +kernel
theorem dX1_degree_56 : decode cX1_degree 56 = .ok (.iload_n 1, 1) := by decide +kernel
theorem dX1_degree_57 : decode cX1_degree 57 = .ok (.imul, 1) := by decide +kernel
theorem dX1_degree_58 : decode cX1_degree 58 = .ok (.iload_n 2, 1) := by decide +kernel
theorem dX1_degree_59 : decode cX1_degree 59 = .ok (.iload_n 3, 1) := by decide +kernel
theorem dX1_degree_60 : decode cX1_degree 60 = .ok (.invokestatic 60, 3) := by decide +kernel
theorem dX1_degree_63 : decode cX1_degree 63 = .ok (.iadd, 1) := by decide +kernel
theorem dX1_degree_64 : decode cX1_degree 64 = .ok (.iaload, 1) := by decide +kernel
theorem dX1_degree_65 : decode cX1_degree 65 = .ok (.ifCond .ne 9, 3) := by decide +kernel
theorem dX1_degree_68 : decode cX1_degree 68 = .ok (.iinc 3 (-1), 3) := by decide +kernel
theorem dX1_degree_71 : decode cX1_degree 71 = .ok (.goto (-27), 3) := by decide +kernel
theorem dX1_degree_74 : decode cX1_degree 74 = .ok (.iload_n 3, 1) := by decide +kernel
theorem dX1_degree_75 : decode cX1_degree 75 = .ok (.ireturn, 1) := by decide +kernel
theorem dX1_power_0 : decode cX1_power 0 = .ok (.lconst 1, 1) := by decide +kernel
theorem dX1_power_1 : decode cX1_power 1 = .ok (.lstore_n 3, 1) := by decide +kernel
theorem dX1_power_2 : decode cX1_power 2 = .ok (.iload_n 2, 1) := by decide +kernel
theorem dX1_power_3 : decode cX1_power 3 = .ok (.ifCond .ge 10, 3) := by decide +kernel
theorem dX1_power_6 : decode cX1_power 6 = .ok (.lload_n 0, 1) := by decide +kernel
theorem dX1_power_7 : decode cX1_power 7 = .ok (.invokestatic 98, 3) := by decide +kernel
theorem dX1_power_10 : decode cX1_power 10 = .ok (.goto 4, 3) := by decide +kernel
theorem dX1_power_13 : decode cX1_power 13 = .ok (.lload_n 0, 1) := by decide +kernel
theorem dX1_power_14 : decode cX1_power 14 = .ok (.lstore 5, 2) := by decide +kernel
theorem dX1_power_16 : decode cX1_power 16 = .ok (.iload_n 2, 1) := by decide +kernel
theorem dX1_power_17 : decode cX1_power 17 = .ok (.ifCond .ge 8, 3) := by decide +kernel
theorem dX1_power_20 : decode cX1_power 20 = .ok (.iload_n 2, 1) := by decide +kernel
theorem dX1_power_21 : decode cX1_power 21 = .ok (.ineg, 1) := by decide +kernel
theorem dX1_power_22 : decode cX1_power 22 = .ok (.goto 4, 3) := by decide +kernel
theorem dX1_power_25 : decode cX1_power 25 = .ok (.iload_n 2, 1) := by decide +kernel
theorem dX1_power_26 : decode cX1_power 26 = .ok (.istore 7, 2) := by decide +kernel
theorem dX1_power_28 : decode cX1_power 28 = .ok (.iload 7, 2) := by decide +kernel
theorem dX1_power_30 : decode cX1_power 30 = .ok (.ifCond .le 18, 3) := by decide +kernel
theorem dX1_power_33 : decode cX1_power 33 = .ok (.lload_n 3, 1) := by decide +kernel
theorem dX1_power_34 : decode cX1_power 34 = .ok (.lload 5, 2) := by decide +kernel
theorem dX1_power_36 : decode cX1_power 36 = .ok (.lmul, 1) := by decide +kernel
theorem dX1_power_37 : decode cX1_power 37 = .ok (.ldc2_w 33, 3) := by decide +kernel
theorem dX1_power_40 : decode cX1_power 40 = .ok (.lrem, 1) := by decide +kernel
theorem dX1_power_41 : decode cX1_power 41 = .ok (.lstore_n 3, 1) := by decide +kernel
theorem dX1_power_42 : decode cX1_power 42 = .ok (.iinc 7 (-1), 3) := by decide +kernel
theorem dX1_power_45 : decode cX1_power 45 = .ok (.goto (-17), 3) := by decide +kernel
theorem dX1_power_48 : decode cX1_power 48 = .ok (.lload_n 3, 1) := by decide +kernel
theorem dX1_power_49 : decode cX1_power 49 = .ok (.lreturn, 1) := by decide +kernel
theorem dX1_value_0 : decode cX1_value 0 = .ok (.aload_n 0, 1) := by decide +kernel
theorem dX1_value_1 : decode cX1_value 1 = .ok (.aload_n 0, 1) := by decide +kernel
theorem dX1_value_2 : decode cX1_value 2 = .ok (.iload_n 1, 1) := by decide +kernel
theorem dX1_value_3 : decode cX1_value 3 = .ok (.invokevirtual 46, 3) := by decide +kernel
theorem dX1_value_6 : decode cX1_value 6 = .ok (.ifCond .eq 7, 3) := by decide +kernel
theorem dX1_value_9 : decode cX1_value 9 = .ok (.iconst 0, 1) := by decide +kernel
theorem dX1_value_10 : decode cX1_value 10 = .ok (.goto 4, 3) := by decide +kernel
theorem dX1_value_13 : decode cX1_value 13 = .ok (.iconst 1, 1) := by decide +kernel
theorem dX1_value_14 : decode cX1_value 14 = .ok (.putfield 29, 3) := by decide +kernel
theorem dX1_value_17 : decode cX1_value 17 = .ok (.aload_n 0, 1) := by decide +kernel
theorem dX1_value_18 : decode cX1_value 18 = .ok (.getfield 29, 3) := by decide +kernel
theorem dX1_value_21 : decode cX1_value 21 = .ok (.ifCond .le 5, 3) := by decide +kernel
theorem dX1_value_24 : decode cX1_value 24 = .ok (.iconst 0, 1) := by decide +kernel
theorem dX1_value_25 : decode cX1_value 25 = .ok (.ireturn, 1) := by decide +kernel
theorem dX1_value_26 : decode cX1_value 26 = .ok (.lload_n 2, 1) := by decide +kernel
theorem dX1_value_27 : decode cX1_value 27 = .ok (.invokestatic 35, 3) := by decide +kernel
theorem dX1_value_30 : decode cX1_value 30 = .ok (.lstore 8, 2) := by decide +kernel
theorem dX1_value_32 : decode cX1_value 32 = .ok (.lload 4, 2) := by decide +kernel
theorem dX1_value_34 : decode cX1_value 34 = .ok (.invokestatic 35, 3) := by decide +kernel
theorem dX1_value_37 : decode cX1_value 37 = .ok (.lstore 10, 2) := by decide +kernel
theorem dX1_value_39 : decode cX1_value 39 = .ok (.lload 6, 2) := by decide +kernel
theorem dX1_value_41 : decode cX1_value 41 = .ok (.invokestatic 35, 3) := by decide +kernel
theorem dX1_value_44 : decode cX1_value 44 = .ok (.lstore 12, 2) := by decide +kernel
theorem dX1_value_46 : decode cX1_value 46 = .ok (.lconst 0, 1) := by decide +kernel
theorem dX1_value_47 : decode cX1_value 47 = .ok (.lstore 14, 2) := by decide +kernel
theorem dX1_value_49 : decode cX1_value 49 = .ok (.iconst 0, 1) := by decide +kernel
theorem dX1_value_50 : decode cX1_value 50 = .ok (.istore 16, 2) := by decide +kernel
theorem dX1_value_52 : decode cX1_value 52 = .ok (.iload 16, 2) := by decide +kernel
theorem dX1_value_54 : decode cX1_value 54 = .ok (.bipush 8, 2) := by decide +kernel
theorem dX1_value_56 : decode cX1_value 56 = .ok (.if_icmp .ge 134, 3) := by decide +kernel
theorem dX1_value_59 : decode cX1_value 59 = .ok (.bipush (-4), 2) := by decide +kernel
theorem dX1_value_61 : decode cX1_value 61 = .ok (.istore 17, 2) := by decide +kernel
theorem dX1_value_63 : decode cX1_value 63 = .ok (.iload 17, 2) := by decide +kernel
theorem dX1_value_65 : decode cX1_value 65 = .ok (.iconst 4, 1) := by decide +kernel
theorem dX1_value_66 : decode cX1_value 66 = .ok (.if_icmp .gt 118, 3) := by decide +kernel
theorem dX1_value_69 : decode cX1_value 69 = .ok (.aload_n 0, 1) := by decide +kernel
theorem dX1_value_70 : decode cX1_value 70 = .ok (.getfield 7, 3) := by decide +kernel
theorem dX1_value_73 : decode cX1_value 73 = .ok (.bipush 72, 2) := by decide +kernel
theorem dX1_value_75 : decode cX1_value 75 = .ok (.iload_n 1, 1) := by decide +kernel
theorem dX1_value_76 : decode cX1_value 76 = .ok (.imul, 1) := by decide +kernel
theorem dX1_value_77 : decode cX1_value 77 = .ok (.iload 16, 2) := by decide +kernel
theorem dX1_value_79 : decode cX1_value 79 = .ok (.iload 17, 2) := by decide +kernel
theorem dX1_value_81 : decode cX1_value 81 = .ok (.invokestatic 60, 3) := by decide +kernel
theorem dX1_value_84 : decode cX1_value 84 = .ok (.iadd, 1) := by decide +kernel
theorem dX1_value_85 : decode cX1_value 85 = .ok (.iaload, 1) := by decide +kernel
theorem dX1_value_86 : decode cX1_value 86 = .ok (.i2l, 1) := by decide +kernel
theorem dX1_value_87 : decode cX1_value 87 = .ok (.lstore 18, 2) := by decide +kernel
theorem dX1_value_89 : decode cX1_value 89 = .ok (.lload 18, 2) := by decide +kernel
theorem dX1_value_91 : decode cX1_value 91 = .ok (.lconst 0, 1) := by decide +kernel
theorem dX1_value_92 : decode cX1_value 92 = .ok (.lcmp, 1) := by decide +kernel
theorem dX1_value_93 : decode cX1_value 93 = .ok (.ifCond .ne 6, 3) := by decide +kernel
theorem dX1_value_96 : decode cX1_value 96 = .ok (.goto 82, 3) := by decide +kernel
theorem dX1_value_99 : decode cX1_value 99 = .ok (.iload 17, 2) := by decide +kernel
theorem dX1_value_101 : decode cX1_value 101 = .ok (.ifCond .ge 10, 3) := by decide +kernel
theorem dX1_value_104 : decode cX1_value 104 = .ok (.lload 8, 2) := by decide +kernel
theorem dX1_value_106 : decode cX1_value 106 = .ok (.lconst 0, 1) := by decide +kernel
theorem dX1_value_107 : decode cX1_value 107 = .ok (.lcmp, 1) := by decide +kernel
theorem dX1_value_108 : decode cX1_value 108 = .ok (.ifCond .eq 18, 3) := by decide +kernel
theorem dX1_value_111 : decode cX1_value 111 = .ok (.iload 16, 2) := by decide +kernel
theorem dX1_value_113 : decode cX1_value 113 = .ok (.invokestatic 78, 3) := by decide +kernel
theorem dX1_value_116 : decode cX1_value 116 = .ok (.ifCond .ge 12, 3) := by decide +kernel
theorem dX1_value_119 : decode cX1_value 119 = .ok (.lload 12, 2) := by decide +kernel
theorem dX1_value_121 : decode cX1_value 121 = .ok (.lconst 0, 1) := by decide +kernel
theorem dX1_value_122 : decode cX1_value 122 = .ok (.lcmp, 1) := by decide +kernel
theorem dX1_value_123 : decode cX1_value 123 = .ok (.ifCond .ne 5, 3) := by decide +kernel
theorem dX1_value_126 : decode cX1_value 126 = .ok (.iconst (-1), 1) := by decide +kernel
theorem dX1_value_127 : decode cX1_value 127 = .ok (.ireturn, 1) := by decide +kernel
theorem dX1_value_128 : decode cX1_value 128 = .ok (.lload 14, 2) := by decide +kernel
theorem dX1_value_130 : decode cX1_value 130 = .ok (.lload 18, 2) := by decide +kernel
theorem dX1_value_132 : decode cX1_value 132 = .ok (.lload 8, 2) := by decide +kernel
theorem dX1_value_134 : decode cX1_value 134 = .ok (.iload 17, 2) := by decide +kernel
theorem dX1_value_136 : decode cX1_value 136 = .ok (.invokestatic 105, 3) := by decide +kernel
theorem dX1_value_139 : decode cX1_value 139 = .ok (.lmul, 1) := by decide +kernel
theorem dX1_value_140 : decode cX1_value 140 = .ok (.ldc2_w 33, 3) := by decide +kernel
theorem dX1_value_143 : decode cX1_value 143 = .ok (.lrem, 1) := by decide +kernel
theorem dX1_value_144 : decode cX1_value 144 = .ok (.iload 16, 2) := by decide +kernel
theorem dX1_value_146 : decode cX1_value 146 = .ok (.iconst 4, 1) := by decide +kernel
theorem dX1_value_147 : decode cX1_value 147 = .ok (.if_icmp .ge 13, 3) := by decide +kernel
theorem dX1_value_150 : decode cX1_value 150 = .ok (.lload 10, 2) := by decide +kernel
theorem dX1_value_152 : decode cX1_value 152 = .ok (.iload 16, 2) := by decide +kernel
theorem dX1_value_154 : decode cX1_value 154 = .ok (.invokestatic 105, 3) := by decide +kernel
theorem dX1_value_157 : decode cX1_value 157 = .ok (.goto 13, 3) := by decide +kernel
theorem dX1_value_160 : decode cX1_value 160 = .ok (.lload 12, 2) := by decide +kernel
theorem dX1_value_162 : decode cX1_value 162 = .ok (.iload 16, 2) := by decide +kernel
theorem dX1_value_164 : decode cX1_value 164 = .ok (.invokestatic 78, 3) := by decide +kernel
theorem dX1_value_167 : decode cX1_value 167 = .ok (.invokestatic 105, 3) := by decide +kernel
theorem dX1_value_170 : decode cX1_value 170 = .ok (.lmul, 1) := by decide +kernel
theorem dX1_value_171 : decode cX1_value 171 = .ok (.ladd, 1) := by decide +kernel
theorem dX1_value_172 : decode cX1_value 172 = .ok (.ldc2_w 33, 3) := by decide +kernel
theorem dX1_value_175 : decode cX1_value 175 = .ok (.lrem, 1) := by decide +kernel
theorem dX1_value_176 : decode cX1_value 176 = .ok (.lstore 14, 2) := by decide +kernel
theorem dX1_value_178 : decode cX1_value 178 = .ok (.iinc 17 1, 3) := by decide +kernel
theorem dX1_value_181 : decode cX1_value 181 = .ok (.goto (-118), 3) := by decide +kernel
theorem dX1_value_184 : decode cX1_value 184 = .ok (.iinc 16 1, 3) := by decide +kernel
theorem dX1_value_187 : decode cX1_value 187 = .ok (.goto (-135), 3) := by decide +kernel
theorem dX1_value_190 : decode cX1_value 190 = .ok (.lload 14, 2) := by decide +kernel
theorem dX1_value_192 : decode cX1_value 192 = .ok (.l2i, 1) := by decide +kernel
theorem dX1_value_193 : decode cX1_value 193 = .ok (.ireturn, 1) := by decide +kernel
theorem dX1_same_0 : decode cX1_same 0 = .ok (.aload_n 0, 1) := by decide +kernel
theorem dX1_same_1 : decode cX1_same 1 = .ok (.aload_n 0, 1) := by decide +kernel
theorem dX1_same_2 : decode cX1_same 2 = .ok (.iload_n 1, 1) := by decide +kernel
theorem dX1_same_3 : decode cX1_same 3 = .ok (.invokevirtual 46, 3) := by decide +kernel
theorem dX1_same_6 : decode cX1_same 6 = .ok (.ifCond .eq 15, 3) := by decide +kernel
theorem dX1_same_9 : decode cX1_same 9 = .ok (.aload_n 0, 1) := by decide +kernel
theorem dX1_same_10 : decode cX1_same 10 = .ok (.iload_n 2, 1) := by decide +kernel
theorem dX1_same_11 : decode cX1_same 11 = .ok (.invokevirtual 46, 3) := by decide +kernel
theorem dX1_same_14 : decode cX1_same 14 = .ok (.ifCond .eq 7, 3) := by decide +kernel
theorem dX1_same_17 : decode cX1_same 17 = .ok (.iconst 0, 1) := by decide +kernel
theorem dX1_same_18 : decode cX1_same 18 = .ok (.goto 4, 3) := by decide +kernel
theorem dX1_same_21 : decode cX1_same 21 = .ok (.iconst 1, 1) := by decide +kernel
theorem dX1_same_22 : decode cX1_same 22 = .ok (.putfield 29, 3) := by decide +kernel
theorem dX1_same_25 : decode cX1_same 25 = .ok (.aload_n 0, 1) := by decide +kernel
theorem dX1_same_26 : decode cX1_same 26 = .ok (.getfield 29, 3) := by decide +kernel
theorem dX1_same_29 : decode cX1_same 29 = .ok (.ifCond .le 5, 3) := by decide +kernel
theorem dX1_same_32 : decode cX1_same 32 = .ok (.iconst 0, 1) := by decide +kernel
theorem dX1_same_33 : decode cX1_same 33 = .ok (.ireturn, 1) := by decide +kernel
theorem dX1_same_34 : decode cX1_same 34 = .ok (.iconst 0, 1) := by decide +kernel
theorem dX1_same_35 : decode cX1_same 35 = .ok (.istore_n 3, 1) := by decide +kernel
theorem dX1_same_36 : decode cX1_same 36 = .ok (.iload_n 3, 1) := by decide +kernel
theorem dX1_same_37 : decode cX1_same 37 = .ok (.bipush 72, 2) := by decide +kernel
theorem dX1_same_39 : decode cX1_same 39 = .ok (.if_icmp .ge 36, 3) := by decide +kernel
theorem dX1_same_42 : decode cX1_same 42 = .ok (.aload_n 0, 1) := by decide +kernel
theorem dX1_same_43 : decode cX1_same 43 = .ok (.getfield 7, 3) := by decide +kernel
theorem dX1_same_46 : decode cX1_same 46 = .ok (.bipush 72, 2) := by decide +kernel
theorem dX1_same_48 : decode cX1_same 48 = .ok (.iload_n 1, 1) := by decide +kernel
theorem dX1_same_49 : decode cX1_same 49 = .ok (.imul, 1) := by decide +kernel
theorem dX1_same_50 : decode cX1_same 50 = .ok (.iload_n 3, 1) := by decide +kernel
theorem dX1_same_51 : decode cX1_same 51 = .ok (.iadd, 1) := by decide +kernel
theorem dX1_same_52 : decode cX1_same 52 = .ok (.iaload, 1) := by decide +kernel
theorem dX1_same_53 : decode cX1_same 53 = .ok (.aload_n 0, 1) := by decide +kernel
theorem dX1_same_54 : decode cX1_same 54 = .ok (.getfield 7, 3) := by decide +kernel
theorem dX1_same_57 : decode cX1_same 57 = .ok (.bipush 72, 2) := by decide +kernel
theorem dX1_same_59 : decode cX1_same 59 = .ok (.iload_n 2, 1) := by decide +kernel
theorem dX1_same_60 : decode cX1_same 60 = .ok (.imul, 1) := by decide +kernel
theorem dX1_same_61 : decode cX1_same 61 = .ok (.iload_n 3, 1) := by decide +kernel
theorem dX1_same_62 : decode cX1_same 62 = .ok (.iadd, 1) := by decide +kernel
theorem dX1_same_63 : decode cX1_same 63 = .ok (.iaload, 1) := by decide +kernel
theorem dX1_same_64 : decode cX1_same 64 = .ok (.if_icmp .eq 5, 3) := by decide +kernel
theorem dX1_same_67 : decode cX1_same 67 = .ok (.iconst 0, 1) := by decide +kernel
theorem dX1_same_68 : decode cX1_same 68 = .ok (.ireturn, 1) := by decide +kernel
theorem dX1_same_69 : decode cX1_same 69 = .ok (.iinc 3 1, 3) := by decide +kernel
theorem dX1_same_72 : decode cX1_same 72 = .ok (.goto (-36), 3) := by decide +kernel
theorem dX1_same_75 : decode cX1_same 75 = .ok (.iconst 1, 1) := by decide +kernel
theorem dX1_same_76 : decode cX1_same 76 = .ok (.ireturn, 1) := by decide +kernel
theorem dX1_count_0 : decode cX1_count 0 = .ok (.aload_n 0, 1) := by decide +kernel
theorem dX1_count_1 : decode cX1_count 1 = .ok (.iconst 0, 1) := by decide +kernel
theorem dX1_count_2 : decode cX1_count 2 = .ok (.putfield 29, 3) := by decide +kernel
theorem dX1_count_5 : decode cX1_count 5 = .ok (.aload_n 0, 1) := by decide +kernel
theorem dX1_count_6 : decode cX1_count 6 = .ok (.getfield 39, 3) := by decide +kernel
theorem dX1_count_9 : decode cX1_count 9 = .ok (.ireturn, 1) := by decide +kernel
theorem dL_term_0 : decode cL_term 0 = .ok (.aload 5, 2) := by decide +kernel
theorem dL_term_2 : decode cL_term 2 = .ok (.iconst 0, 1) := by decide +kernel
theorem dL_term_3 : decode cL_term 3 = .ok (.aload_n 0, 1) := by decide +kernel
theorem dL_term_4 : decode cL_term 4 = .ok (.iload_n 1, 1) := by decide +kernel
theorem dL_term_5 : decode cL_term 5 = .ok (.iload_n 2, 1) := by decide +kernel
theorem dL_term_6 : decode cL_term 6 = .ok (.lload_n 3, 1) := by decide +kernel
theorem dL_term_7 : decode cL_term 7 = .ok (.invokevirtual 7, 3) := by decide +kernel
theorem dL_term_10 : decode cL_term 10 = .ok (.i2l, 1) := by decide +kernel
theorem dL_term_11 : decode cL_term 11 = .ok (.lastore, 1) := by decide +kernel
theorem dL_term_12 : decode cL_term 12 = .ok (.goto 11, 3) := by decide +kernel
theorem dL_term_15 : decode cL_term 15 = .ok (.astore 6, 2) := by decide +kernel
theorem dL_term_17 : decode cL_term 17 = .ok (.iconst 1, 1) := by decide +kernel
theorem dL_term_18 : decode cL_term 18 = .ok (.ireturn, 1) := by decide +kernel
theorem dL_term_19 : decode cL_term 19 = .ok (.astore 6, 2) := by decide +kernel
theorem dL_term_21 : decode cL_term 21 = .ok (.iconst 2, 1) := by decide +kernel
theorem dL_term_22 : decode cL_term 22 = .ok (.ireturn, 1) := by decide +kernel
theorem dL_term_23 : decode cL_term 23 = .ok (.iconst 0, 1) := by decide +kernel
theorem dL_term_24 : decode cL_term 24 = .ok (.ireturn, 1) := by decide +kernel
theorem dL_add_0 : decode cL_add 0 = .ok (.aload_n 3, 1) := by decide +kernel
theorem dL_add_1 : decode cL_add 1 = .ok (.iconst 0, 1) := by decide +kernel
theorem dL_add_2 : decode cL_add 2 = .ok (.aload_n 0, 1) := by decide +kernel
theorem dL_add_3 : decode cL_add 3 = .ok (.iload_n 1, 1) := by decide +kernel
theorem dL_add_4 : decode cL_add 4 = .ok (.iload_n 2, 1) := by decide +kernel
theorem dL_add_5 : decode cL_add 5 = .ok (.invokevirtual 17, 3) := by decide +kernel
theorem dL_add_8 : decode cL_add 8 = .ok (.i2l, 1) := by decide +kernel
theorem dL_add_9 : decode cL_add 9 = .ok (.lastore, 1) := by decide +kernel
theorem dL_add_10 : decode cL_add 10 = .ok (.goto 11, 3) := by decide +kernel
theorem dL_add_13 : decode cL_add 13 = .ok (.astore 4, 2) := by decide +kernel
theorem dL_add_15 : decode cL_add 15 = .ok (.iconst 1, 1) := by decide +kernel
theorem dL_add_16 : decode cL_add 16 = .ok (.ireturn, 1) := by decide +kernel
theorem dL_add_17 : decode cL_add 17 = .ok (.astore 4, 2) := by decide +kernel
theorem dL_add_19 : decode cL_add 19 = .ok (.iconst 2, 1) := by decide +kernel
theorem dL_add_20 : decode cL_add 20 = .ok (.ireturn, 1) := by decide +kernel
theorem dL_add_21 : decode cL_add 21 = .ok (.iconst 0, 1) := by decide +kernel
theorem dL_add_22 : decode cL_add 22 = .ok (.ireturn, 1) := by decide +kernel
theorem dL_less_0 : decode cL_less 0 = .ok (.aload 5, 2) := by decide +kernel
theorem dL_less_2 : decode cL_less 2 = .ok (.iconst 0, 1) := by decide +kernel
theorem dL_less_3 : decode cL_less 3 = .ok (.aload_n 0, 1) := by decide +kernel
theorem dL_less_4 : decode cL_less 4 = .ok (.iload_n 1, 1) := by decide +kernel
theorem dL_less_5 : decode cL_less 5 = .ok (.iload_n 2, 1) := by decide +kernel
theorem dL_less_6 : decode cL_less 6 = .ok (.lload_n 3, 1) := by decide +kernel
theorem dL_less_7 : decode cL_less 7 = .ok (.invokevirtual 23, 3) := by decide +kernel
theorem dL_less_10 : decode cL_less 10 = .ok (.i2l, 1) := by decide +kernel
theorem dL_less_11 : decode cL_less 11 = .ok (.lastore, 1) := by decide +kernel
theorem dL_less_12 : decode cL_less 12 = .ok (.goto 11, 3) := by decide +kernel
theorem dL_less_15 : decode cL_less 15 = .ok (.astore 6, 2) := by decide +kernel
theorem dL_less_17 : decode cL_less 17 = .ok (.iconst 1, 1) := by decide +kernel
theorem dL_less_18 : decode cL_less 18 = .ok (.ireturn, 1) := by decide +kernel
theorem dL_less_19 : decode cL_less 19 = .ok (.astore 6, 2) := by decide +kernel
theorem dL_less_21 : decode cL_less 21 = .ok (.iconst 2, 1) := by decide +kernel
theorem dL_less_22 : decode cL_less 22 = .ok (.ireturn, 1) := by decide +kernel
theorem dL_less_23 : decode cL_less 23 = .ok (.iconst 0, 1) := by decide +kernel
theorem dL_less_24 : decode cL_less 24 = .ok (.ireturn, 1) := by decide +kernel
theorem dL_times_0 : decode cL_times 0 = .ok (.aload_n 3, 1) := by decide +kernel
theorem dL_times_1 : decode cL_times 1 = .ok (.iconst 0, 1) := by decide +kernel
theorem dL_times_2 : decode cL_times 2 = .ok (.aload_n 0, 1) := by decide +kernel
theorem dL_times_3 : decode cL_times 3 = .ok (.iload_n 1, 1) := by decide +kernel
theorem dL_times_4 : decode cL_times 4 = .ok (.iload_n 2, 1) := by decide +kernel
theorem dL_times_5 : decode cL_times 5 = .ok (.invokevirtual 26, 3) := by decide +kernel
theorem dL_times_8 : decode cL_times 8 = .ok (.i2l, 1) := by decide +kernel
theorem dL_times_9 : decode cL_times 9 = .ok (.lastore, 1) := by decide +kernel
theorem dL_times_10 : decode cL_times 10 = .ok (.goto 11, 3) := by decide +kernel
theorem dL_times_13 : decode cL_times 13 = .ok (.astore 4, 2) := by decide +kernel
theorem dL_times_15 : decode cL_times 15 = .ok (.iconst 1, 1) := by decide +kernel
theorem dL_times_16 : decode cL_times 16 = .ok (.ireturn, 1) := by decide +kernel
theorem dL_times_17 : decode cL_times 17 = .ok (.astore 4, 2) := by decide +kernel
theorem dL_times_19 : decode cL_times 19 = .ok (.iconst 2, 1) := by decide +kernel
theorem dL_times_20 : decode cL_times 20 = .ok (.ireturn, 1) := by decide +kernel
theorem dL_times_21 : decode cL_times 21 = .ok (.iconst 0, 1) := by decide +kernel
theorem dL_times_22 : decode cL_times 22 = .ok (.ireturn, 1) := by decide +kernel
theorem dL_derive_0 : decode cL_derive 0 = .ok (.aload_n 2, 1) := by decide +kernel
theorem dL_derive_1 : decode cL_derive 1 = .ok (.iconst 0, 1) := by decide +kernel
theorem dL_derive_2 : decode cL_derive 2 = .ok (.aload_n 0, 1) := by decide +kernel
theorem dL_derive_3 : decode cL_derive 3 = .ok (.iload_n 1, 1) := by decide +kernel
theorem dL_derive_4 : decode cL_derive 4 = .ok (.invokevirtual 29, 3) := by decide +kernel
theorem dL_derive_7 : decode cL_derive 7 = .ok (.i2l, 1) := by decide +kernel
theorem dL_derive_8 : decode cL_derive 8 = .ok (.lastore, 1) := by decide +kernel
theorem dL_derive_9 : decode cL_derive 9 = .ok (.goto 9, 3) := by decide +kernel
theorem dL_derive_12 : decode cL_derive 12 = .ok (.astore_n 3, 1) := by decide +kernel
theorem dL_derive_13 : decode cL_derive 13 = .ok (.iconst 1, 1) := by decide +kernel
theorem dL_derive_14 : decode cL_derive 14 = .ok (.ireturn, 1) := by decide +kernel
theorem dL_derive_15 : decode cL_derive 15 = .ok (.astore_n 3, 1) := by decide +kernel
theorem dL_derive_16 : decode cL_derive 16 = .ok (.iconst 2, 1) := by decide +kernel
theorem dL_derive_17 : decode cL_derive 17 = .ok (.ireturn, 1) := by decide +kernel
theorem dL_derive_18 : decode cL_derive 18 = .ok (.iconst 0, 1) := by decide +kernel
theorem dL_derive_19 : decode cL_derive 19 = .ok (.ireturn, 1) := by decide +kernel
theorem dL_integrate_0 : decode cL_integrate 0 = .ok (.aload_n 2, 1) := by decide +kernel
theorem dL_integrate_1 : decode cL_integrate 1 = .ok (.iconst 0, 1) := by decide +kernel
theorem dL_integrate_2 : decode cL_integrate 2 = .ok (.aload_n 0, 1) := by decide +kernel
theorem dL_integrate_3 : decode cL_integrate 3 = .ok (.iload_n 1, 1) := by decide +kernel
theorem dL_integrate_4 : decode cL_integrate 4 = .ok (.invokevirtual 33, 3) := by decide +kernel
theorem dL_integrate_7 : decode cL_integrate 7 = .ok (.i2l, 1) := by decide +kernel
theorem dL_integrate_8 : decode cL_integrate 8 = .ok (.lastore, 1) := by decide +kernel
theorem dL_integrate_9 : decode cL_integrate 9 = .ok (.goto 9, 3) := by decide +kernel
theorem dL_integrate_12 : decode cL_integrate 12 = .ok (.astore_n 3, 1) := by decide +kernel
theorem dL_integrate_13 : decode cL_integrate 13 = .ok (.iconst 1, 1) := by decide +kernel
theorem dL_integrate_14 : decode cL_integrate 14 = .ok (.ireturn, 1) := by decide +kernel
theorem dL_integrate_15 : decode cL_integrate 15 = .ok (.astore_n 3, 1) := by decide +kernel
theorem dL_integrate_16 : decode cL_integrate 16 = .ok (.iconst 2, 1) := by decide +kernel
theorem dL_integrate_17 : decode cL_integrate 17 = .ok (.ireturn, 1) := by decide +kernel
