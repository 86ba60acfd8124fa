theorem dX1_times_135 : decode cX1_times 135 = .ok (.iload 5, 2) := by decide +kernel
theorem dX1_times_137 : decode cX1_times 137 = .ok (.iconst 4, 1) := by decide +kernel
theorem dX1_times_138 : decode cX1_times 138 = .ok (.if_icmp .ge 17, 3) := by decide +kernel
theorem dX1_times_141 : decode cX1_times 141 = .ok (.iload 6, 2) := by decide +kernel
theorem dX1_times_143 : decode cX1_times 143 = .ok (.iconst 4, 1) := by decide +kernel
theorem dX1_times_144 : decode cX1_times 144 = .ok (.if_icmp .ge 11, 3) := by decide +kernel
theorem dX1_times_147 : decode cX1_times 147 = .ok (.iload 5, 2) := by decide +kernel
theorem dX1_times_149 : decode cX1_times 149 = .ok (.iload 6, 2) := by decide +kernel
theorem dX1_times_151 : decode cX1_times 151 = .ok (.iadd, 1) := by decide +kernel
theorem dX1_times_152 : decode cX1_times 152 = .ok (.goto 17, 3) := by decide +kernel
theorem dX1_times_155 : decode cX1_times 155 = .ok (.bipush 11, 2) := by decide +kernel
theorem dX1_times_157 : decode cX1_times 157 = .ok (.iload 5, 2) := by decide +kernel
theorem dX1_times_159 : decode cX1_times 159 = .ok (.invokestatic 78, 3) := by decide +kernel
theorem dX1_times_162 : decode cX1_times 162 = .ok (.iadd, 1) := by decide +kernel
theorem dX1_times_163 : decode cX1_times 163 = .ok (.iload 6, 2) := by decide +kernel
theorem dX1_times_165 : decode cX1_times 165 = .ok (.invokestatic 78, 3) := by decide +kernel
theorem dX1_times_168 : decode cX1_times 168 = .ok (.iadd, 1) := by decide +kernel
theorem dX1_times_169 : decode cX1_times 169 = .ok (.istore 7, 2) := by decide +kernel
theorem dX1_times_171 : decode cX1_times 171 = .ok (.bipush 19, 2) := by decide +kernel
theorem dX1_times_173 : decode cX1_times 173 = .ok (.iload 7, 2) := by decide +kernel
theorem dX1_times_175 : decode cX1_times 175 = .ok (.imul, 1) := by decide +kernel
theorem dX1_times_176 : decode cX1_times 176 = .ok (.iload_n 3, 1) := by decide +kernel
theorem dX1_times_177 : decode cX1_times 177 = .ok (.bipush 9, 2) := by decide +kernel
theorem dX1_times_179 : decode cX1_times 179 = .ok (.irem, 1) := by decide +kernel
theorem dX1_times_180 : decode cX1_times 180 = .ok (.iadd, 1) := by decide +kernel
theorem dX1_times_181 : decode cX1_times 181 = .ok (.iload 4, 2) := by decide +kernel
theorem dX1_times_183 : decode cX1_times 183 = .ok (.bipush 9, 2) := by decide +kernel
theorem dX1_times_185 : decode cX1_times 185 = .ok (.irem, 1) := by decide +kernel
theorem dX1_times_186 : decode cX1_times 186 = .ok (.iadd, 1) := by decide +kernel
theorem dX1_times_187 : decode cX1_times 187 = .ok (.iconst 1, 1) := by decide +kernel
theorem dX1_times_188 : decode cX1_times 188 = .ok (.iadd, 1) := by decide +kernel
theorem dX1_times_189 : decode cX1_times 189 = .ok (.istore 8, 2) := by decide +kernel
theorem dX1_times_191 : decode cX1_times 191 = .ok (.aload_n 0, 1) := by decide +kernel
theorem dX1_times_192 : decode cX1_times 192 = .ok (.getfield 23, 3) := by decide +kernel
theorem dX1_times_195 : decode cX1_times 195 = .ok (.iload 8, 2) := by decide +kernel
theorem dX1_times_197 : decode cX1_times 197 = .ok (.aload_n 0, 1) := by decide +kernel
theorem dX1_times_198 : decode cX1_times 198 = .ok (.getfield 23, 3) := by decide +kernel
theorem dX1_times_201 : decode cX1_times 201 = .ok (.iload 8, 2) := by decide +kernel
theorem dX1_times_203 : decode cX1_times 203 = .ok (.laload, 1) := by decide +kernel
theorem dX1_times_204 : decode cX1_times 204 = .ok (.aload_n 0, 1) := by decide +kernel
theorem dX1_times_205 : decode cX1_times 205 = .ok (.getfield 17, 3) := by decide +kernel
theorem dX1_times_208 : decode cX1_times 208 = .ok (.iload_n 3, 1) := by decide +kernel
theorem dX1_times_209 : decode cX1_times 209 = .ok (.laload, 1) := by decide +kernel
theorem dX1_times_210 : decode cX1_times 210 = .ok (.aload_n 0, 1) := by decide +kernel
theorem dX1_times_211 : decode cX1_times 211 = .ok (.getfield 20, 3) := by decide +kernel
theorem dX1_times_214 : decode cX1_times 214 = .ok (.iload 4, 2) := by decide +kernel
theorem dX1_times_216 : decode cX1_times 216 = .ok (.laload, 1) := by decide +kernel
theorem dX1_times_217 : decode cX1_times 217 = .ok (.lmul, 1) := by decide +kernel
theorem dX1_times_218 : decode cX1_times 218 = .ok (.ladd, 1) := by decide +kernel
theorem dX1_times_219 : decode cX1_times 219 = .ok (.ldc2_w 33, 3) := by decide +kernel
theorem dX1_times_222 : decode cX1_times 222 = .ok (.lrem, 1) := by decide +kernel
theorem dX1_times_223 : decode cX1_times 223 = .ok (.lastore, 1) := by decide +kernel
theorem dX1_times_224 : decode cX1_times 224 = .ok (.iinc 4 1, 3) := by decide +kernel
theorem dX1_times_227 : decode cX1_times 227 = .ok (.goto (-127), 3) := by decide +kernel
theorem dX1_times_230 : decode cX1_times 230 = .ok (.iinc 3 1, 3) := by decide +kernel
theorem dX1_times_233 : decode cX1_times 233 = .ok (.goto (-156), 3) := by decide +kernel
theorem dX1_times_236 : decode cX1_times 236 = .ok (.aload_n 0, 1) := by decide +kernel
theorem dX1_times_237 : decode cX1_times 237 = .ok (.invokevirtual 95, 3) := by decide +kernel
theorem dX1_times_240 : decode cX1_times 240 = .ok (.ireturn, 1) := by decide +kernel
theorem dX1_derive_0 : decode cX1_derive 0 = .ok (.aload_n 0, 1) := by decide +kernel
theorem dX1_derive_1 : decode cX1_derive 1 = .ok (.iload_n 1, 1) := by decide +kernel
theorem dX1_derive_2 : decode cX1_derive 2 = .ok (.iload_n 1, 1) := by decide +kernel
theorem dX1_derive_3 : decode cX1_derive 3 = .ok (.invokevirtual 74, 3) := by decide +kernel
theorem dX1_derive_6 : decode cX1_derive 6 = .ok (.ifCond .ne 5, 3) := by decide +kernel
theorem dX1_derive_9 : decode cX1_derive 9 = .ok (.iconst 0, 1) := by decide +kernel
theorem dX1_derive_10 : decode cX1_derive 10 = .ok (.ireturn, 1) := by decide +kernel
theorem dX1_derive_11 : decode cX1_derive 11 = .ok (.aload_n 0, 1) := by decide +kernel
theorem dX1_derive_12 : decode cX1_derive 12 = .ok (.invokevirtual 92, 3) := by decide +kernel
theorem dX1_derive_15 : decode cX1_derive 15 = .ok (.iconst 0, 1) := by decide +kernel
theorem dX1_derive_16 : decode cX1_derive 16 = .ok (.istore_n 2, 1) := by decide +kernel
theorem dX1_derive_17 : decode cX1_derive 17 = .ok (.iload_n 2, 1) := by decide +kernel
theorem dX1_derive_18 : decode cX1_derive 18 = .ok (.bipush 8, 2) := by decide +kernel
theorem dX1_derive_20 : decode cX1_derive 20 = .ok (.if_icmp .ge 140, 3) := by decide +kernel
theorem dX1_derive_23 : decode cX1_derive 23 = .ok (.bipush (-4), 2) := by decide +kernel
theorem dX1_derive_25 : decode cX1_derive 25 = .ok (.istore_n 3, 1) := by decide +kernel
theorem dX1_derive_26 : decode cX1_derive 26 = .ok (.iload_n 3, 1) := by decide +kernel
theorem dX1_derive_27 : decode cX1_derive 27 = .ok (.iconst 4, 1) := by decide +kernel
theorem dX1_derive_28 : decode cX1_derive 28 = .ok (.if_icmp .gt 126, 3) := by decide +kernel
theorem dX1_derive_31 : decode cX1_derive 31 = .ok (.aload_n 0, 1) := by decide +kernel
theorem dX1_derive_32 : decode cX1_derive 32 = .ok (.getfield 17, 3) := by decide +kernel
theorem dX1_derive_35 : decode cX1_derive 35 = .ok (.iload_n 2, 1) := by decide +kernel
theorem dX1_derive_36 : decode cX1_derive 36 = .ok (.iload_n 3, 1) := by decide +kernel
theorem dX1_derive_37 : decode cX1_derive 37 = .ok (.invokestatic 60, 3) := by decide +kernel
theorem dX1_derive_40 : decode cX1_derive 40 = .ok (.laload, 1) := by decide +kernel
theorem dX1_derive_41 : decode cX1_derive 41 = .ok (.lstore 4, 2) := by decide +kernel
theorem dX1_derive_43 : decode cX1_derive 43 = .ok (.bipush 19, 2) := by decide +kernel
theorem dX1_derive_45 : decode cX1_derive 45 = .ok (.iload_n 2, 1) := by decide +kernel
theorem dX1_derive_46 : decode cX1_derive 46 = .ok (.invokestatic 85, 3) := by decide +kernel
theorem dX1_derive_49 : decode cX1_derive 49 = .ok (.imul, 1) := by decide +kernel
theorem dX1_derive_50 : decode cX1_derive 50 = .ok (.iload_n 3, 1) := by decide +kernel
theorem dX1_derive_51 : decode cX1_derive 51 = .ok (.iadd, 1) := by decide +kernel
theorem dX1_derive_52 : decode cX1_derive 52 = .ok (.bipush 9, 2) := by decide +kernel
theorem dX1_derive_54 : decode cX1_derive 54 = .ok (.iadd, 1) := by decide +kernel
theorem dX1_derive_55 : decode cX1_derive 55 = .ok (.istore 6, 2) := by decide +kernel
theorem dX1_derive_57 : decode cX1_derive 57 = .ok (.aload_n 0, 1) := by decide +kernel
theorem dX1_derive_58 : decode cX1_derive 58 = .ok (.getfield 23, 3) := by decide +kernel
theorem dX1_derive_61 : decode cX1_derive 61 = .ok (.iload 6, 2) := by decide +kernel
theorem dX1_derive_63 : decode cX1_derive 63 = .ok (.iconst 1, 1) := by decide +kernel
theorem dX1_derive_64 : decode cX1_derive 64 = .ok (.isub, 1) := by decide +kernel
theorem dX1_derive_65 : decode cX1_derive 65 = .ok (.aload_n 0, 1) := by decide +kernel
theorem dX1_derive_66 : decode cX1_derive 66 = .ok (.getfield 23, 3) := by decide +kernel
theorem dX1_derive_69 : decode cX1_derive 69 = .ok (.iload 6, 2) := by decide +kernel
theorem dX1_derive_71 : decode cX1_derive 71 = .ok (.iconst 1, 1) := by decide +kernel
theorem dX1_derive_72 : decode cX1_derive 72 = .ok (.isub, 1) := by decide +kernel
theorem dX1_derive_73 : decode cX1_derive 73 = .ok (.laload, 1) := by decide +kernel
theorem dX1_derive_74 : decode cX1_derive 74 = .ok (.lload 4, 2) := by decide +kernel
theorem dX1_derive_76 : decode cX1_derive 76 = .ok (.iload_n 3, 1) := by decide +kernel
theorem dX1_derive_77 : decode cX1_derive 77 = .ok (.i2l, 1) := by decide +kernel
theorem dX1_derive_78 : decode cX1_derive 78 = .ok (.lmul, 1) := by decide +kernel
theorem dX1_derive_79 : decode cX1_derive 79 = .ok (.ladd, 1) := by decide +kernel
theorem dX1_derive_80 : decode cX1_derive 80 = .ok (.invokestatic 35, 3) := by decide +kernel
theorem dX1_derive_83 : decode cX1_derive 83 = .ok (.lastore, 1) := by decide +kernel
theorem dX1_derive_84 : decode cX1_derive 84 = .ok (.aload_n 0, 1) := by decide +kernel
theorem dX1_derive_85 : decode cX1_derive 85 = .ok (.getfield 23, 3) := by decide +kernel
theorem dX1_derive_88 : decode cX1_derive 88 = .ok (.iload 6, 2) := by decide +kernel
theorem dX1_derive_90 : decode cX1_derive 90 = .ok (.aload_n 0, 1) := by decide +kernel
theorem dX1_derive_91 : decode cX1_derive 91 = .ok (.getfield 23, 3) := by decide +kernel
theorem dX1_derive_94 : decode cX1_derive 94 = .ok (.iload 6, 2) := by decide +kernel
theorem dX1_derive_96 : decode cX1_derive 96 = .ok (.laload, 1) := by decide +kernel
theorem dX1_derive_97 : decode cX1_derive 97 = .ok (.lload 4, 2) := by decide +kernel
theorem dX1_derive_99 : decode cX1_derive 99 = .ok (.iload_n 2, 1) := by decide +kernel
theorem dX1_derive_100 : decode cX1_derive 100 = .ok (.invokestatic 78, 3) := by decide +kernel
theorem dX1_derive_103 : decode cX1_derive 103 = .ok (.i2l, 1) := by decide +kernel
theorem dX1_derive_104 : decode cX1_derive 104 = .ok (.lmul, 1) := by decide +kernel
theorem dX1_derive_105 : decode cX1_derive 105 = .ok (.ladd, 1) := by decide +kernel
theorem dX1_derive_106 : decode cX1_derive 106 = .ok (.invokestatic 35, 3) := by decide +kernel
theorem dX1_derive_109 : decode cX1_derive 109 = .ok (.lastore, 1) := by decide +kernel
theorem dX1_derive_110 : decode cX1_derive 110 = .ok (.iload_n 2, 1) := by decide +kernel
theorem dX1_derive_111 : decode cX1_derive 111 = .ok (.ifCond .le 37, 3) := by decide +kernel
theorem dX1_derive_114 : decode cX1_derive 114 = .ok (.iload_n 2, 1) := by decide +kernel
theorem dX1_derive_115 : decode cX1_derive 115 = .ok (.iconst 4, 1) := by decide +kernel
theorem dX1_derive_116 : decode cX1_derive 116 = .ok (.if_icmp .ge 32, 3) := by decide +kernel
theorem dX1_derive_119 : decode cX1_derive 119 = .ok (.aload_n 0, 1) := by decide +kernel
theorem dX1_derive_120 : decode cX1_derive 120 = .ok (.getfield 23, 3) := by decide +kernel
theorem dX1_derive_123 : decode cX1_derive 123 = .ok (.iload 6, 2) := by decide +kernel
theorem dX1_derive_125 : decode cX1_derive 125 = .ok (.bipush 20, 2) := by decide +kernel
theorem dX1_derive_127 : decode cX1_derive 127 = .ok (.isub, 1) := by decide +kernel
theorem dX1_derive_128 : decode cX1_derive 128 = .ok (.aload_n 0, 1) := by decide +kernel
theorem dX1_derive_129 : decode cX1_derive 129 = .ok (.getfield 23, 3) := by decide +kernel
theorem dX1_derive_132 : decode cX1_derive 132 = .ok (.iload 6, 2) := by decide +kernel
theorem dX1_derive_134 : decode cX1_derive 134 = .ok (.bipush 20, 2) := by decide +kernel
theorem dX1_derive_136 : decode cX1_derive 136 = .ok (.isub, 1) := by decide +kernel
theorem dX1_derive_137 : decode cX1_derive 137 = .ok (.laload, 1) := by decide +kernel
theorem dX1_derive_138 : decode cX1_derive 138 = .ok (.lload 4, 2) := by decide +kernel
theorem dX1_derive_140 : decode cX1_derive 140 = .ok (.iload_n 2, 1) := by decide +kernel
theorem dX1_derive_141 : decode cX1_derive 141 = .ok (.i2l, 1) := by decide +kernel
theorem dX1_derive_142 : decode cX1_derive 142 = .ok (.lmul, 1) := by decide +kernel
theorem dX1_derive_143 : decode cX1_derive 143 = .ok (.ladd, 1) := by decide +kernel
theorem dX1_derive_144 : decode cX1_derive 144 = .ok (.invokestatic 35, 3) := by decide +kernel
theorem dX1_derive_147 : decode cX1_derive 147 = .ok (.lastore, 1) := by decide +kernel
theorem dX1_derive_148 : decode cX1_derive 148 = .ok (.iinc 3 1, 3) := by decide +kernel
theorem dX1_derive_151 : decode cX1_derive 151 = .ok (.goto (-125), 3) := by decide +kernel
theorem dX1_derive_154 : decode cX1_derive 154 = .ok (.iinc 2 1, 3) := by decide +kernel
theorem dX1_derive_157 : decode cX1_derive 157 = .ok (.goto (-140), 3) := by decide +kernel
theorem dX1_derive_160 : decode cX1_derive 160 = .ok (.aload_n 0, 1) := by decide +kernel
theorem dX1_derive_161 : decode cX1_derive 161 = .ok (.invokevirtual 95, 3) := by decide +kernel
theorem dX1_derive_164 : decode cX1_derive 164 = .ok (.ireturn, 1) := by decide +kernel
theorem dX1_restOf_0 : decode cX1_restOf 0 = .ok (.iload_n 1, 1) := by decide +kernel
theorem dX1_restOf_1 : decode cX1_restOf 1 = .ok (.invokestatic 78, 3) := by decide +kernel
theorem dX1_restOf_4 : decode cX1_restOf 4 = .ok (.istore_n 2, 1) := by decide +kernel
theorem dX1_restOf_5 : decode cX1_restOf 5 = .ok (.iconst 0, 1) := by decide +kernel
theorem dX1_restOf_6 : decode cX1_restOf 6 = .ok (.istore_n 3, 1) := by decide +kernel
theorem dX1_restOf_7 : decode cX1_restOf 7 = .ok (.iload_n 3, 1) := by decide +kernel
theorem dX1_restOf_8 : decode cX1_restOf 8 = .ok (.bipush 10, 2) := by decide +kernel
theorem dX1_restOf_10 : decode cX1_restOf 10 = .ok (.if_icmp .ge 16, 3) := by decide +kernel
theorem dX1_restOf_13 : decode cX1_restOf 13 = .ok (.aload_n 0, 1) := by decide +kernel
theorem dX1_restOf_14 : decode cX1_restOf 14 = .ok (.getfield 26, 3) := by decide +kernel
theorem dX1_restOf_17 : decode cX1_restOf 17 = .ok (.iload_n 3, 1) := by decide +kernel
theorem dX1_restOf_18 : decode cX1_restOf 18 = .ok (.lconst 0, 1) := by decide +kernel
theorem dX1_restOf_19 : decode cX1_restOf 19 = .ok (.lastore, 1) := by decide +kernel
theorem dX1_restOf_20 : decode cX1_restOf 20 = .ok (.iinc 3 1, 3) := by decide +kernel
theorem dX1_restOf_23 : decode cX1_restOf 23 = .ok (.goto (-16), 3) := by decide +kernel
theorem dX1_restOf_26 : decode cX1_restOf 26 = .ok (.bipush (-4), 2) := by decide +kernel
theorem dX1_restOf_28 : decode cX1_restOf 28 = .ok (.istore_n 3, 1) := by decide +kernel
theorem dX1_restOf_29 : decode cX1_restOf 29 = .ok (.iload_n 3, 1) := by decide +kernel
theorem dX1_restOf_30 : decode cX1_restOf 30 = .ok (.iconst (-1), 1) := by decide +kernel
theorem dX1_restOf_31 : decode cX1_restOf 31 = .ok (.if_icmp .ge 68, 3) := by decide +kernel
theorem dX1_restOf_34 : decode cX1_restOf 34 = .ok (.iload_n 3, 1) := by decide +kernel
theorem dX1_restOf_35 : decode cX1_restOf 35 = .ok (.bipush (-4), 2) := by decide +kernel
theorem dX1_restOf_37 : decode cX1_restOf 37 = .ok (.if_icmp .le 14, 3) := by decide +kernel
theorem dX1_restOf_40 : decode cX1_restOf 40 = .ok (.aload_n 0, 1) := by decide +kernel
theorem dX1_restOf_41 : decode cX1_restOf 41 = .ok (.getfield 26, 3) := by decide +kernel
theorem dX1_restOf_44 : decode cX1_restOf 44 = .ok (.iload_n 3, 1) := by decide +kernel
theorem dX1_restOf_45 : decode cX1_restOf 45 = .ok (.iconst 3, 1) := by decide +kernel
theorem dX1_restOf_46 : decode cX1_restOf 46 = .ok (.iadd, 1) := by decide +kernel
theorem dX1_restOf_47 : decode cX1_restOf 47 = .ok (.laload, 1) := by decide +kernel
theorem dX1_restOf_48 : decode cX1_restOf 48 = .ok (.goto 4, 3) := by decide +kernel
theorem dX1_restOf_51 : decode cX1_restOf 51 = .ok (.lconst 0, 1) := by decide +kernel
theorem dX1_restOf_52 : decode cX1_restOf 52 = .ok (.lstore 4, 2) := by decide +kernel
theorem dX1_restOf_54 : decode cX1_restOf 54 = .ok (.aload_n 0, 1) := by decide +kernel
theorem dX1_restOf_55 : decode cX1_restOf 55 = .ok (.getfield 26, 3) := by decide +kernel
theorem dX1_restOf_58 : decode cX1_restOf 58 = .ok (.iload_n 3, 1) := by decide +kernel
theorem dX1_restOf_59 : decode cX1_restOf 59 = .ok (.iconst 4, 1) := by decide +kernel
theorem dX1_restOf_60 : decode cX1_restOf 60 = .ok (.iadd, 1) := by decide +kernel
theorem dX1_restOf_61 : decode cX1_restOf 61 = .ok (.aload_n 0, 1) := by decide +kernel
theorem dX1_restOf_62 : decode cX1_restOf 62 = .ok (.getfield 17, 3) := by decide +kernel
theorem dX1_restOf_65 : decode cX1_restOf 65 = .ok (.iload_n 1, 1) := by decide +kernel
theorem dX1_restOf_66 : decode cX1_restOf 66 = .ok (.iload_n 3, 1) := by decide +kernel
theorem dX1_restOf_67 : decode cX1_restOf 67 = .ok (.invokestatic 60, 3) := by decide +kernel
theorem dX1_restOf_70 : decode cX1_restOf 70 = .ok (.laload, 1) := by decide +kernel
theorem dX1_restOf_71 : decode cX1_restOf 71 = .ok (.iload_n 2, 1) := by decide +kernel
theorem dX1_restOf_72 : decode cX1_restOf 72 = .ok (.i2l, 1) := by decide +kernel
theorem dX1_restOf_73 : decode cX1_restOf 73 = .ok (.lload 4, 2) := by decide +kernel
theorem dX1_restOf_75 : decode cX1_restOf 75 = .ok (.lmul, 1) := by decide +kernel
theorem dX1_restOf_76 : decode cX1_restOf 76 = .ok (.lsub, 1) := by decide +kernel
theorem dX1_restOf_77 : decode cX1_restOf 77 = .ok (.invokestatic 35, 3) := by decide +kernel
theorem dX1_restOf_80 : decode cX1_restOf 80 = .ok (.iload_n 3, 1) := by decide +kernel
theorem dX1_restOf_81 : decode cX1_restOf 81 = .ok (.iconst 1, 1) := by decide +kernel
theorem dX1_restOf_82 : decode cX1_restOf 82 = .ok (.iadd, 1) := by decide +kernel
theorem dX1_restOf_83 : decode cX1_restOf 83 = .ok (.i2l, 1) := by decide +kernel
theorem dX1_restOf_84 : decode cX1_restOf 84 = .ok (.invokestatic 98, 3) := by decide +kernel
theorem dX1_restOf_87 : decode cX1_restOf 87 = .ok (.lmul, 1) := by decide +kernel
theorem dX1_restOf_88 : decode cX1_restOf 88 = .ok (.ldc2_w 33, 3) := by decide +kernel
theorem dX1_restOf_91 : decode cX1_restOf 91 = .ok (.lrem, 1) := by decide +kernel
theorem dX1_restOf_92 : decode cX1_restOf 92 = .ok (.lastore, 1) := by decide +kernel
theorem dX1_restOf_93 : decode cX1_restOf 93 = .ok (.iinc 3 1, 3) := by decide +kernel
theorem dX1_restOf_96 : decode cX1_restOf 96 = .ok (.goto (-67), 3) := by decide +kernel
theorem dX1_restOf_99 : decode cX1_restOf 99 = .ok (.aload_n 0, 1) := by decide +kernel
theorem dX1_restOf_100 : decode cX1_restOf 100 = .ok (.getfield 17, 3) := by decide +kernel
theorem dX1_restOf_103 : decode cX1_restOf 103 = .ok (.iload_n 1, 1) := by decide +kernel
theorem dX1_restOf_104 : decode cX1_restOf 104 = .ok (.iconst (-1), 1) := by decide +kernel
theorem dX1_restOf_105 : decode cX1_restOf 105 = .ok (.invokestatic 60, 3) := by decide +kernel
theorem dX1_restOf_108 : decode cX1_restOf 108 = .ok (.laload, 1) := by decide +kernel
theorem dX1_restOf_109 : decode cX1_restOf 109 = .ok (.iload_n 2, 1) := by decide +kernel
theorem dX1_restOf_110 : decode cX1_restOf 110 = .ok (.i2l, 1) := by decide +kernel
theorem dX1_restOf_111 : decode cX1_restOf 111 = .ok (.aload_n 0, 1) := by decide +kernel
theorem dX1_restOf_112 : decode cX1_restOf 112 = .ok (.getfield 26, 3) := by decide +kernel
theorem dX1_restOf_115 : decode cX1_restOf 115 = .ok (.iconst 2, 1) := by decide +kernel
theorem dX1_restOf_116 : decode cX1_restOf 116 = .ok (.laload, 1) := by decide +kernel
theorem dX1_restOf_117 : decode cX1_restOf 117 = .ok (.lmul, 1) := by decide +kernel
theorem dX1_restOf_118 : decode cX1_restOf 118 = .ok (.lsub, 1) := by decide +kernel
theorem dX1_restOf_119 : decode cX1_restOf 119 = .ok (.invokestatic 35, 3) := by decide +kernel
theorem dX1_restOf_122 : decode cX1_restOf 122 = .ok (.lstore_n 3, 1) := by decide +kernel
theorem dX1_restOf_123 : decode cX1_restOf 123 = .ok (.iconst 4, 1) := by decide +kernel
theorem dX1_restOf_124 : decode cX1_restOf 124 = .ok (.istore 5, 2) := by decide +kernel
theorem dX1_restOf_126 : decode cX1_restOf 126 = .ok (.iload 5, 2) := by decide +kernel
theorem dX1_restOf_128 : decode cX1_restOf 128 = .ok (.ifCond .lt 68, 3) := by decide +kernel
theorem dX1_restOf_131 : decode cX1_restOf 131 = .ok (.aload_n 0, 1) := by decide +kernel
theorem dX1_restOf_132 : decode cX1_restOf 132 = .ok (.getfield 26, 3) := by decide +kernel
theorem dX1_restOf_135 : decode cX1_restOf 135 = .ok (.iload 5, 2) := by decide +kernel
theorem dX1_restOf_137 : decode cX1_restOf 137 = .ok (.iconst 3, 1) := by decide +kernel
theorem dX1_restOf_138 : decode cX1_restOf 138 = .ok (.iadd, 1) := by decide +kernel
theorem dX1_restOf_139 : decode cX1_restOf 139 = .ok (.aload_n 0, 1) := by decide +kernel
theorem dX1_restOf_140 : decode cX1_restOf 140 = .ok (.getfield 17, 3) := by decide +kernel
theorem dX1_restOf_143 : decode cX1_restOf 143 = .ok (.iload_n 1, 1) := by decide +kernel
theorem dX1_restOf_144 : decode cX1_restOf 144 = .ok (.iload 5, 2) := by decide +kernel
theorem dX1_restOf_146 : decode cX1_restOf 146 = .ok (.invokestatic 60, 3) := by decide +kernel
theorem dX1_restOf_149 : decode cX1_restOf 149 = .ok (.laload, 1) := by decide +kernel
theorem dX1_restOf_150 : decode cX1_restOf 150 = .ok (.iload 5, 2) := by decide +kernel
theorem dX1_restOf_152 : decode cX1_restOf 152 = .ok (.iconst 1, 1) := by decide +kernel
theorem dX1_restOf_153 : decode cX1_restOf 153 = .ok (.iadd, 1) := by decide +kernel
theorem dX1_restOf_154 : decode cX1_restOf 154 = .ok (.i2l, 1) := by decide +kernel
theorem dX1_restOf_155 : decode cX1_restOf 155 = .ok (.iload 5, 2) := by decide +kernel
theorem dX1_restOf_157 : decode cX1_restOf 157 = .ok (.iconst 4, 1) := by decide +kernel
theorem dX1_restOf_158 : decode cX1_restOf 158 = .ok (.if_icmp .ge 15, 3) := by decide +kernel
theorem dX1_restOf_161 : decode cX1_restOf 161 = .ok (.aload_n 0, 1) := by decide +kernel
theorem dX1_restOf_162 : decode cX1_restOf 162 = .ok (.getfield 26, 3) := by decide +kernel
theorem dX1_restOf_165 : decode cX1_restOf 165 = .ok (.iload 5, 2) := by decide +kernel
theorem dX1_restOf_167 : decode cX1_restOf 167 = .ok (.iconst 4, 1) := by decide +kernel
theorem dX1_restOf_168 : decode cX1_restOf 168 = .ok (.iadd, 1) := by decide +kernel
theorem dX1_restOf_169 : decode cX1_restOf 169 = .ok (.laload, 1) := by decide +kernel
theorem dX1_restOf_170 : decode cX1_restOf 170 = .ok (.goto 4, 3) := by decide +kernel
theorem dX1_restOf_173 : decode cX1_restOf 173 = .ok (.lconst 0, 1) := by decide +kernel
theorem dX1_restOf_174 : decode cX1_restOf 174 = .ok (.lmul, 1) := by decide +kernel
theorem dX1_restOf_175 : decode cX1_restOf 175 = .ok (.lsub, 1) := by decide +kernel
theorem dX1_restOf_176 : decode cX1_restOf 176 = .ok (.invokestatic 35, 3) := by decide +kernel
theorem dX1_restOf_179 : decode cX1_restOf 179 = .ok (.iload_n 2, 1) := by decide +kernel
theorem dX1_restOf_180 : decode cX1_restOf 180 = .ok (.i2l, 1) := by decide +kernel
theorem dX1_restOf_181 : decode cX1_restOf 181 = .ok (.invokestatic 98, 3) := by decide +kernel
theorem dX1_restOf_184 : decode cX1_restOf 184 = .ok (.lmul, 1) := by decide +kernel
theorem dX1_restOf_185 : decode cX1_restOf 185 = .ok (.ldc2_w 33, 3) := by decide +kernel
theorem dX1_restOf_188 : decode cX1_restOf 188 = .ok (.lrem, 1) := by decide +kernel
theorem dX1_restOf_189 : decode cX1_restOf 189 = .ok (.lastore, 1) := by decide +kernel
theorem dX1_restOf_190 : decode cX1_restOf 190 = .ok (.iinc 5 (-1), 3) := by decide +kernel
theorem dX1_restOf_193 : decode cX1_restOf 193 = .ok (.goto (-67), 3) := by decide +kernel
theorem dX1_restOf_196 : decode cX1_restOf 196 = .ok (.lload_n 3, 1) := by decide +kernel
theorem dX1_restOf_197 : decode cX1_restOf 197 = .ok (.lreturn, 1) := by decide +kernel
theorem dX1_rest_0 : decode cX1_rest 0 = .ok (.aload_n 0, 1) := by decide +kernel
theorem dX1_rest_1 : decode cX1_rest 1 = .ok (.aload_n 0, 1) := by decide +kernel
theorem dX1_rest_2 : decode cX1_rest 2 = .ok (.iload_n 1, 1) := by decide +kernel
theorem dX1_rest_3 : decode cX1_rest 3 = .ok (.invokevirtual 46, 3) := by decide +kernel
theorem dX1_rest_6 : decode cX1_rest 6 = .ok (.ifCond .ne 7, 3) := by decide +kernel
theorem dX1_rest_9 : decode cX1_rest 9 = .ok (.iconst 1, 1) := by decide +kernel
theorem dX1_rest_10 : decode cX1_rest 10 = .ok (.goto 20, 3) := by decide +kernel
theorem dX1_rest_13 : decode cX1_rest 13 = .ok (.iload_n 2, 1) := by decide +kernel
theorem dX1_rest_14 : decode cX1_rest 14 = .ok (.i2l, 1) := by decide +kernel
theorem dX1_rest_15 : decode cX1_rest 15 = .ok (.lconst 0, 1) := by decide +kernel
theorem dX1_rest_16 : decode cX1_rest 16 = .ok (.ldc2_w 54, 3) := by decide +kernel
theorem dX1_rest_19 : decode cX1_rest 19 = .ok (.invokestatic 42, 3) := by decide +kernel
theorem dX1_rest_22 : decode cX1_rest 22 = .ok (.ifCond .eq 7, 3) := by decide +kernel
theorem dX1_rest_25 : decode cX1_rest 25 = .ok (.iconst 0, 1) := by decide +kernel
theorem dX1_rest_26 : decode cX1_rest 26 = .ok (.goto 4, 3) := by decide +kernel
theorem dX1_rest_29 : decode cX1_rest 29 = .ok (.iconst 2, 1) := by decide +kernel
theorem dX1_rest_30 : decode cX1_rest 30 = .ok (.putfield 29, 3) := by decide +kernel
theorem dX1_rest_33 : decode cX1_rest 33 = .ok (.aload_n 0, 1) := by decide +kernel
theorem dX1_rest_34 : decode cX1_rest 34 = .ok (.getfield 29, 3) := by decide +kernel
theorem dX1_rest_37 : decode cX1_rest 37 = .ok (.ifCond .gt 8, 3) := by decide +kernel
theorem dX1_rest_40 : decode cX1_rest 40 = .ok (.iload_n 2, 1) := by decide +kernel
theorem dX1_rest_41 : decode cX1_rest 41 = .ok (.iconst 4, 1) := by decide +kernel
theorem dX1_rest_42 : decode cX1_rest 42 = .ok (.if_icmp .ge 5, 3) := by decide +kernel
theorem dX1_rest_45 : decode cX1_rest 45 = .ok (.iconst 0, 1) := by decide +kernel
theorem dX1_rest_46 : decode cX1_rest 46 = .ok (.ireturn, 1) := by decide +kernel
theorem dX1_rest_47 : decode cX1_rest 47 = .ok (.aload_n 0, 1) := by decide +kernel
theorem dX1_rest_48 : decode cX1_rest 48 = .ok (.aload_n 0, 1) := by decide +kernel
theorem dX1_rest_49 : decode cX1_rest 49 = .ok (.getfield 17, 3) := by decide +kernel
theorem dX1_rest_52 : decode cX1_rest 52 = .ok (.iload_n 1, 1) := by decide +kernel
theorem dX1_rest_53 : decode cX1_rest 53 = .ok (.invokevirtual 50, 3) := by decide +kernel
theorem dX1_rest_56 : decode cX1_rest 56 = .ok (.aload_n 0, 1) := by decide +kernel
theorem dX1_rest_57 : decode cX1_rest 57 = .ok (.iload_n 2, 1) := by decide +kernel
theorem dX1_rest_58 : decode cX1_rest 58 = .ok (.invokevirtual 101, 3) := by decide +kernel
theorem dX1_rest_61 : decode cX1_rest 61 = .ok (.l2i, 1) := by decide +kernel
theorem dX1_rest_62 : decode cX1_rest 62 = .ok (.ireturn, 1) := by decide +kernel
theorem dX1_integrate_0 : decode cX1_integrate 0 = .ok (.aload_n 0, 1) := by decide +kernel
theorem dX1_integrate_1 : decode cX1_integrate 1 = .ok (.iload_n 1, 1) := by decide +kernel
theorem dX1_integrate_2 : decode cX1_integrate 2 = .ok (.iload_n 1, 1) := by decide +kernel
theorem dX1_integrate_3 : decode cX1_integrate 3 = .ok (.invokevirtual 74, 3) := by decide +kernel
theorem dX1_integrate_6 : decode cX1_integrate 6 = .ok (.ifCond .ne 5, 3) := by decide +kernel
theorem dX1_integrate_9 : decode cX1_integrate 9 = .ok (.iconst 0, 1) := by decide +kernel
theorem dX1_integrate_10 : decode cX1_integrate 10 = .ok (.ireturn, 1) := by decide +kernel
theorem dX1_integrate_11 : decode cX1_integrate 11 = .ok (.iconst 0, 1) := by decide +kernel
theorem dX1_integrate_12 : decode cX1_integrate 12 = .ok (.istore_n 2, 1) := by decide +kernel
theorem dX1_integrate_13 : decode cX1_integrate 13 = .ok (.iload_n 2, 1) := by decide +kernel
theorem dX1_integrate_14 : decode cX1_integrate 14 = .ok (.bipush 72, 2) := by decide +kernel
theorem dX1_integrate_16 : decode cX1_integrate 16 = .ok (.if_icmp .ge 16, 3) := by decide +kernel
theorem dX1_integrate_19 : decode cX1_integrate 19 = .ok (.aload_n 0, 1) := by decide +kernel
theorem dX1_integrate_20 : decode cX1_integrate 20 = .ok (.getfield 13, 3) := by decide +kernel
theorem dX1_integrate_23 : decode cX1_integrate 23 = .ok (.iload_n 2, 1) := by decide +kernel
theorem dX1_integrate_24 : decode cX1_integrate 24 = .ok (.lconst 0, 1) := by decide +kernel
theorem dX1_integrate_25 : decode cX1_integrate 25 = .ok (.lastore, 1) := by decide +kernel
theorem dX1_integrate_26 : decode cX1_integrate 26 = .ok (.iinc 2 1, 3) := by decide +kernel
theorem dX1_integrate_29 : decode cX1_integrate 29 = .ok (.goto (-16), 3) := by decide +kernel
theorem dX1_integrate_32 : decode cX1_integrate 32 = .ok (.iconst 4, 1) := by decide +kernel
theorem dX1_integrate_33 : decode cX1_integrate 33 = .ok (.istore_n 2, 1) := by decide +kernel
theorem dX1_integrate_34 : decode cX1_integrate 34 = .ok (.iload_n 2, 1) := by decide +kernel
theorem dX1_integrate_35 : decode cX1_integrate 35 = .ok (.bipush 8, 2) := by decide +kernel
theorem dX1_integrate_37 : decode cX1_integrate 37 = .ok (.if_icmp .ge 53, 3) := by decide +kernel
theorem dX1_integrate_40 : decode cX1_integrate 40 = .ok (.aload_n 0, 1) := by decide +kernel
theorem dX1_integrate_41 : decode cX1_integrate 41 = .ok (.iload_n 2, 1) := by decide +kernel
theorem dX1_integrate_42 : decode cX1_integrate 42 = .ok (.invokevirtual 101, 3) := by decide +kernel
theorem dX1_integrate_45 : decode cX1_integrate 45 = .ok (.lconst 0, 1) := by decide +kernel
theorem dX1_integrate_46 : decode cX1_integrate 46 = .ok (.lcmp, 1) := by decide +kernel
theorem dX1_integrate_47 : decode cX1_integrate 47 = .ok (.ifCond .eq 5, 3) := by decide +kernel
theorem dX1_integrate_50 : decode cX1_integrate 50 = .ok (.iconst (-1), 1) := by decide +kernel
theorem dX1_integrate_51 : decode cX1_integrate 51 = .ok (.ireturn, 1) := by decide +kernel
theorem dX1_integrate_52 : decode cX1_integrate 52 = .ok (.bipush (-3), 2) := by decide +kernel
theorem dX1_integrate_54 : decode cX1_integrate 54 = .ok (.istore_n 3, 1) := by decide +kernel
theorem dX1_integrate_55 : decode cX1_integrate 55 = .ok (.iload_n 3, 1) := by decide +kernel
theorem dX1_integrate_56 : decode cX1_integrate 56 = .ok (.iconst 4, 1) := by decide +kernel
theorem dX1_integrate_57 : decode cX1_integrate 57 = .ok (.if_icmp .gt 27, 3) := by decide +kernel
theorem dX1_integrate_60 : decode cX1_integrate 60 = .ok (.aload_n 0, 1) := by decide +kernel
theorem dX1_integrate_61 : decode cX1_integrate 61 = .ok (.getfield 13, 3) := by decide +kernel
theorem dX1_integrate_64 : decode cX1_integrate 64 = .ok (.iload_n 2, 1) := by decide +kernel
theorem dX1_integrate_65 : decode cX1_integrate 65 = .ok (.iload_n 3, 1) := by decide +kernel
theorem dX1_integrate_66 : decode cX1_integrate 66 = .ok (.invokestatic 60, 3) := by decide +kernel
theorem dX1_integrate_69 : decode cX1_integrate 69 = .ok (.aload_n 0, 1) := by decide +kernel
theorem dX1_integrate_70 : decode cX1_integrate 70 = .ok (.getfield 26, 3) := by decide +kernel
theorem dX1_integrate_73 : decode cX1_integrate 73 = .ok (.iload_n 3, 1) := by decide +kernel
theorem dX1_integrate_74 : decode cX1_integrate 74 = .ok (.iconst 3, 1) := by decide +kernel
theorem dX1_integrate_75 : decode cX1_integrate 75 = .ok (.iadd, 1) := by decide +kernel
theorem dX1_integrate_76 : decode cX1_integrate 76 = .ok (.laload, 1) := by decide +kernel
theorem dX1_integrate_77 : decode cX1_integrate 77 = .ok (.lastore, 1) := by decide +kernel
theorem dX1_integrate_78 : decode cX1_integrate 78 = .ok (.iinc 3 1, 3) := by decide +kernel
theorem dX1_integrate_81 : decode cX1_integrate 81 = .ok (.goto (-26), 3) := by decide +kernel
theorem dX1_integrate_84 : decode cX1_integrate 84 = .ok (.iinc 2 1, 3) := by decide +kernel
theorem dX1_integrate_87 : decode cX1_integrate 87 = .ok (.goto (-53), 3) := by decide +kernel
theorem dX1_integrate_90 : decode cX1_integrate 90 = .ok (.iconst 0, 1) := by decide +kernel
theorem dX1_integrate_91 : decode cX1_integrate 91 = .ok (.istore_n 2, 1) := by decide +kernel
theorem dX1_integrate_92 : decode cX1_integrate 92 = .ok (.iload_n 2, 1) := by decide +kernel
theorem dX1_integrate_93 : decode cX1_integrate 93 = .ok (.iconst 4, 1) := by decide +kernel
theorem dX1_integrate_94 : decode cX1_integrate 94 = .ok (.if_icmp .ge 30, 3) := by decide +kernel
theorem dX1_integrate_97 : decode cX1_integrate 97 = .ok (.aload_n 0, 1) := by decide +kernel
theorem dX1_integrate_98 : decode cX1_integrate 98 = .ok (.getfield 17, 3) := by decide +kernel
theorem dX1_integrate_101 : decode cX1_integrate 101 = .ok (.iload_n 2, 1) := by decide +kernel
theorem dX1_integrate_102 : decode cX1_integrate 102 = .ok (.iconst 4, 1) := by decide +kernel
theorem dX1_integrate_103 : decode cX1_integrate 103 = .ok (.invokestatic 60, 3) := by decide +kernel
theorem dX1_integrate_106 : decode cX1_integrate 106 = .ok (.laload, 1) := by decide +kernel
theorem dX1_integrate_107 : decode cX1_integrate 107 = .ok (.lconst 0, 1) := by decide +kernel
theorem dX1_integrate_108 : decode cX1_integrate 108 = .ok (.lcmp, 1) := by decide +kernel
theorem dX1_integrate_109 : decode cX1_integrate 109 = .ok (.ifCond .eq 9, 3) := by decide +kernel
theorem dX1_integrate_112 : decode cX1_integrate 112 = .ok (.aload_n 0, 1) := by decide +kernel
theorem dX1_integrate_113 : decode cX1_integrate 113 = .ok (.iconst 2, 1) := by decide +kernel
theorem dX1_integrate_114 : decode cX1_integrate 114 = .ok (.invokevirtual 82, 3) := by decide +kernel
theorem dX1_integrate_117 : decode cX1_integrate 117 = .ok (.ireturn, 1) := by decide +kernel
theorem dX1_integrate_118 : decode cX1_integrate 118 = .ok (.iinc 2 1, 3) := by decide +kernel
theorem dX1_integrate_121 : decode cX1_integrate 121 = .ok (.goto (-29), 3) := by decide +kernel
theorem dX1_integrate_124 : decode cX1_integrate 124 = .ok (.aload_n 0, 1) := by decide +kernel
theorem dX1_integrate_125 : decode cX1_integrate 125 = .ok (.getfield 17, 3) := by decide +kernel
theorem dX1_integrate_128 : decode cX1_integrate 128 = .ok (.iconst 3, 1) := by decide +kernel
theorem dX1_integrate_129 : decode cX1_integrate 129 = .ok (.iconst (-1), 1) := by decide +kernel
theorem dX1_integrate_130 : decode cX1_integrate 130 = .ok (.invokestatic 60, 3) := by decide +kernel
theorem dX1_integrate_133 : decode cX1_integrate 133 = .ok (.laload, 1) := by decide +kernel
theorem dX1_integrate_134 : decode cX1_integrate 134 = .ok (.lconst 0, 1) := by decide +kernel
theorem dX1_integrate_135 : decode cX1_integrate 135 = .ok (.lcmp, 1) := by decide +kernel
theorem dX1_integrate_136 : decode cX1_integrate 136 = .ok (.ifCond .eq 9, 3) := by decide +kernel
theorem dX1_integrate_139 : decode cX1_integrate 139 = .ok (.aload_n 0, 1) := by decide +kernel
theorem dX1_integrate_140 : decode cX1_integrate 140 = .ok (.iconst 2, 1) := by decide +kernel
theorem dX1_integrate_141 : decode cX1_integrate 141 = .ok (.invokevirtual 82, 3) := by decide +kernel
theorem dX1_integrate_144 : decode cX1_integrate 144 = .ok (.ireturn, 1) := by decide +kernel
theorem dX1_integrate_145 : decode cX1_integrate 145 = .ok (.bipush (-4), 2) := by decide +kernel
theorem dX1_integrate_147 : decode cX1_integrate 147 = .ok (.istore_n 2, 1) := by decide +kernel
theorem dX1_integrate_148 : decode cX1_integrate 148 = .ok (.iload_n 2, 1) := by decide +kernel
theorem dX1_integrate_149 : decode cX1_integrate 149 = .ok (.iconst 4, 1) := by decide +kernel
theorem dX1_integrate_150 : decode cX1_integrate 150 = .ok (.if_icmp .ge 96, 3) := by decide +kernel
theorem dX1_integrate_153 : decode cX1_integrate 153 = .ok (.iconst 3, 1) := by decide +kernel
theorem dX1_integrate_154 : decode cX1_integrate 154 = .ok (.istore_n 3, 1) := by decide +kernel
theorem dX1_integrate_155 : decode cX1_integrate 155 = .ok (.iload_n 3, 1) := by decide +kernel
theorem dX1_integrate_156 : decode cX1_integrate 156 = .ok (.ifCond .lt 84, 3) := by decide +kernel
theorem dX1_integrate_159 : decode cX1_integrate 159 = .ok (.iload_n 2, 1) := by decide +kernel
theorem dX1_integrate_160 : decode cX1_integrate 160 = .ok (.iconst (-1), 1) := by decide +kernel
theorem dX1_integrate_161 : decode cX1_integrate 161 = .ok (.if_icmp .eq 79, 3) := by decide +kernel
theorem dX1_integrate_164 : decode cX1_integrate 164 = .ok (.aload_n 0, 1) := by decide +kernel
theorem dX1_integrate_165 : decode cX1_integrate 165 = .ok (.getfield 17, 3) := by decide +kernel
theorem dX1_integrate_168 : decode cX1_integrate 168 = .ok (.iload_n 3, 1) := by decide +kernel
theorem dX1_integrate_169 : decode cX1_integrate 169 = .ok (.iload_n 2, 1) := by decide +kernel
theorem dX1_integrate_170 : decode cX1_integrate 170 = .ok (.invokestatic 60, 3) := by decide +kernel
theorem dX1_integrate_173 : decode cX1_integrate 173 = .ok (.laload, 1) := by decide +kernel
theorem dX1_integrate_174 : decode cX1_integrate 174 = .ok (.iload_n 3, 1) := by decide +kernel
theorem dX1_integrate_175 : decode cX1_integrate 175 = .ok (.iconst 3, 1) := by decide +kernel
theorem dX1_integrate_176 : decode cX1_integrate 176 = .ok (.if_icmp .ge 25, 3) := by decide +kernel
theorem dX1_integrate_179 : decode cX1_integrate 179 = .ok (.iload_n 3, 1) := by decide +kernel
theorem dX1_integrate_180 : decode cX1_integrate 180 = .ok (.iconst 1, 1) := by decide +kernel
theorem dX1_integrate_181 : decode cX1_integrate 181 = .ok (.iadd, 1) := by decide +kernel
theorem dX1_integrate_182 : decode cX1_integrate 182 = .ok (.i2l, 1) := by decide +kernel
theorem dX1_integrate_183 : decode cX1_integrate 183 = .ok (.aload_n 0, 1) := by decide +kernel
theorem dX1_integrate_184 : decode cX1_integrate 184 = .ok (.getfield 13, 3) := by decide +kernel
theorem dX1_integrate_187 : decode cX1_integrate 187 = .ok (.iload_n 3, 1) := by decide +kernel
theorem dX1_integrate_188 : decode cX1_integrate 188 = .ok (.iconst 1, 1) := by decide +kernel
theorem dX1_integrate_189 : decode cX1_integrate 189 = .ok (.iadd, 1) := by decide +kernel
theorem dX1_integrate_190 : decode cX1_integrate 190 = .ok (.iload_n 2, 1) := by decide +kernel
theorem dX1_integrate_191 : decode cX1_integrate 191 = .ok (.iconst 1, 1) := by decide +kernel
theorem dX1_integrate_192 : decode cX1_integrate 192 = .ok (.iadd, 1) := by decide +kernel
theorem dX1_integrate_193 : decode cX1_integrate 193 = .ok (.invokestatic 60, 3) := by decide +kernel
theorem dX1_integrate_196 : decode cX1_integrate 196 = .ok (.laload, 1) := by decide +kernel
theorem dX1_integrate_197 : decode cX1_integrate 197 = .ok (.lmul, 1) := by decide +kernel
theorem dX1_integrate_198 : decode cX1_integrate 198 = .ok (.goto 4, 3) := by decide +kernel
theorem dX1_integrate_201 : decode cX1_integrate 201 = .ok (.lconst 0, 1) := by decide +kernel
theorem dX1_integrate_202 : decode cX1_integrate 202 = .ok (.lsub, 1) := by decide +kernel
theorem dX1_integrate_203 : decode cX1_integrate 203 = .ok (.lstore 4, 2) := by decide +kernel
theorem dX1_integrate_205 : decode cX1_integrate 205 = .ok (.aload_n 0, 1) := by decide +kernel
theorem dX1_integrate_206 : decode cX1_integrate 206 = .ok (.getfield 13, 3) := by decide +kernel
theorem dX1_integrate_209 : decode cX1_integrate 209 = .ok (.iload_n 3, 1) := by decide +kernel
theorem dX1_integrate_210 : decode cX1_integrate 210 = .ok (.iload_n 2, 1) := by decide +kernel
theorem dX1_integrate_211 : decode cX1_integrate 211 = .ok (.iconst 1, 1) := by decide +kernel
theorem dX1_integrate_212 : decode cX1_integrate 212 = .ok (.iadd, 1) := by decide +kernel
theorem dX1_integrate_213 : decode cX1_integrate 213 = .ok (.invokestatic 60, 3) := by decide +kernel
theorem dX1_integrate_216 : decode cX1_integrate 216 = .ok (.lload 4, 2) := by decide +kernel
theorem dX1_integrate_218 : decode cX1_integrate 218 = .ok (.invokestatic 35, 3) := by decide +kernel
theorem dX1_integrate_221 : decode cX1_integrate 221 = .ok (.iload_n 2, 1) := by decide +kernel
theorem dX1_integrate_222 : decode cX1_integrate 222 = .ok (.iconst 1, 1) := by decide +kernel
theorem dX1_integrate_223 : decode cX1_integrate 223 = .ok (.iadd, 1) := by decide +kernel
