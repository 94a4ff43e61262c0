theorem dL_thingsHold_0 : decode cL_thingsHold 0 = .ok (.ldc2_w 123, 3) := by decide +kernel
theorem dL_thingsHold_3 : decode cL_thingsHold 3 = .ok (.lstore 4, 2) := by decide +kernel
theorem dL_thingsHold_5 : decode cL_thingsHold 5 = .ok (.aload_n 0, 1) := by decide +kernel
theorem dL_thingsHold_6 : decode cL_thingsHold 6 = .ok (.iload_n 2, 1) := by decide +kernel
theorem dL_thingsHold_7 : decode cL_thingsHold 7 = .ok (.iconst 0, 1) := by decide +kernel
theorem dL_thingsHold_8 : decode cL_thingsHold 8 = .ok (.invokestatic 125, 3) := by decide +kernel
theorem dL_thingsHold_11 : decode cL_thingsHold 11 = .ok (.ldc2_w 17, 3) := by decide +kernel
theorem dL_thingsHold_14 : decode cL_thingsHold 14 = .ok (.lcmp, 1) := by decide +kernel
theorem dL_thingsHold_15 : decode cL_thingsHold 15 = .ok (.ifCond .ne 7, 3) := by decide +kernel
theorem dL_thingsHold_18 : decode cL_thingsHold 18 = .ok (.iconst 1, 1) := by decide +kernel
theorem dL_thingsHold_19 : decode cL_thingsHold 19 = .ok (.goto 4, 3) := by decide +kernel
theorem dL_thingsHold_22 : decode cL_thingsHold 22 = .ok (.iconst 0, 1) := by decide +kernel
theorem dL_thingsHold_23 : decode cL_thingsHold 23 = .ok (.istore 6, 2) := by decide +kernel
theorem dL_thingsHold_25 : decode cL_thingsHold 25 = .ok (.iconst 0, 1) := by decide +kernel
theorem dL_thingsHold_26 : decode cL_thingsHold 26 = .ok (.istore 7, 2) := by decide +kernel
theorem dL_thingsHold_28 : decode cL_thingsHold 28 = .ok (.iload 7, 2) := by decide +kernel
theorem dL_thingsHold_30 : decode cL_thingsHold 30 = .ok (.iload_n 2, 1) := by decide +kernel
theorem dL_thingsHold_31 : decode cL_thingsHold 31 = .ok (.if_icmp .ge 168, 3) := by decide +kernel
theorem dL_thingsHold_34 : decode cL_thingsHold 34 = .ok (.iload 6, 2) := by decide +kernel
theorem dL_thingsHold_36 : decode cL_thingsHold 36 = .ok (.ifCond .eq 163, 3) := by decide +kernel
theorem dL_thingsHold_39 : decode cL_thingsHold 39 = .ok (.aload_n 0, 1) := by decide +kernel
theorem dL_thingsHold_40 : decode cL_thingsHold 40 = .ok (.iload 7, 2) := by decide +kernel
theorem dL_thingsHold_42 : decode cL_thingsHold 42 = .ok (.iconst 5, 1) := by decide +kernel
theorem dL_thingsHold_43 : decode cL_thingsHold 43 = .ok (.invokestatic 125, 3) := by decide +kernel
theorem dL_thingsHold_46 : decode cL_thingsHold 46 = .ok (.lstore 8, 2) := by decide +kernel
theorem dL_thingsHold_48 : decode cL_thingsHold 48 = .ok (.aload_n 0, 1) := by decide +kernel
theorem dL_thingsHold_49 : decode cL_thingsHold 49 = .ok (.iload 7, 2) := by decide +kernel
theorem dL_thingsHold_51 : decode cL_thingsHold 51 = .ok (.iconst 3, 1) := by decide +kernel
theorem dL_thingsHold_52 : decode cL_thingsHold 52 = .ok (.invokestatic 125, 3) := by decide +kernel
theorem dL_thingsHold_55 : decode cL_thingsHold 55 = .ok (.lconst 1, 1) := by decide +kernel
theorem dL_thingsHold_56 : decode cL_thingsHold 56 = .ok (.lcmp, 1) := by decide +kernel
theorem dL_thingsHold_57 : decode cL_thingsHold 57 = .ok (.ifCond .ne 7, 3) := by decide +kernel
theorem dL_thingsHold_60 : decode cL_thingsHold 60 = .ok (.iconst 1, 1) := by decide +kernel
theorem dL_thingsHold_61 : decode cL_thingsHold 61 = .ok (.goto 4, 3) := by decide +kernel
theorem dL_thingsHold_64 : decode cL_thingsHold 64 = .ok (.iconst 0, 1) := by decide +kernel
theorem dL_thingsHold_65 : decode cL_thingsHold 65 = .ok (.istore 10, 2) := by decide +kernel
theorem dL_thingsHold_67 : decode cL_thingsHold 67 = .ok (.lload 4, 2) := by decide +kernel
theorem dL_thingsHold_69 : decode cL_thingsHold 69 = .ok (.iload 10, 2) := by decide +kernel
theorem dL_thingsHold_71 : decode cL_thingsHold 71 = .ok (.ifCond .eq 11, 3) := by decide +kernel
theorem dL_thingsHold_74 : decode cL_thingsHold 74 = .ok (.aload_n 1, 1) := by decide +kernel
theorem dL_thingsHold_75 : decode cL_thingsHold 75 = .ok (.iload 7, 2) := by decide +kernel
theorem dL_thingsHold_77 : decode cL_thingsHold 77 = .ok (.iaload, 1) := by decide +kernel
theorem dL_thingsHold_78 : decode cL_thingsHold 78 = .ok (.i2l, 1) := by decide +kernel
theorem dL_thingsHold_79 : decode cL_thingsHold 79 = .ok (.goto 4, 3) := by decide +kernel
theorem dL_thingsHold_82 : decode cL_thingsHold 82 = .ok (.lconst 0, 1) := by decide +kernel
theorem dL_thingsHold_83 : decode cL_thingsHold 83 = .ok (.lsub, 1) := by decide +kernel
theorem dL_thingsHold_84 : decode cL_thingsHold 84 = .ok (.lstore 4, 2) := by decide +kernel
theorem dL_thingsHold_86 : decode cL_thingsHold 86 = .ok (.iload 10, 2) := by decide +kernel
theorem dL_thingsHold_88 : decode cL_thingsHold 88 = .ok (.lload 8, 2) := by decide +kernel
theorem dL_thingsHold_90 : decode cL_thingsHold 90 = .ok (.lconst 0, 1) := by decide +kernel
theorem dL_thingsHold_91 : decode cL_thingsHold 91 = .ok (.lcmp, 1) := by decide +kernel
theorem dL_thingsHold_92 : decode cL_thingsHold 92 = .ok (.ifCond .lt 7, 3) := by decide +kernel
theorem dL_thingsHold_95 : decode cL_thingsHold 95 = .ok (.iconst 1, 1) := by decide +kernel
theorem dL_thingsHold_96 : decode cL_thingsHold 96 = .ok (.goto 4, 3) := by decide +kernel
theorem dL_thingsHold_99 : decode cL_thingsHold 99 = .ok (.iconst 0, 1) := by decide +kernel
theorem dL_thingsHold_100 : decode cL_thingsHold 100 = .ok (.if_icmp .ne 90, 3) := by decide +kernel
theorem dL_thingsHold_103 : decode cL_thingsHold 103 = .ok (.aload_n 0, 1) := by decide +kernel
theorem dL_thingsHold_104 : decode cL_thingsHold 104 = .ok (.iload 7, 2) := by decide +kernel
theorem dL_thingsHold_106 : decode cL_thingsHold 106 = .ok (.iconst 4, 1) := by decide +kernel
theorem dL_thingsHold_107 : decode cL_thingsHold 107 = .ok (.invokestatic 125, 3) := by decide +kernel
theorem dL_thingsHold_110 : decode cL_thingsHold 110 = .ok (.lconst 0, 1) := by decide +kernel
theorem dL_thingsHold_111 : decode cL_thingsHold 111 = .ok (.lcmp, 1) := by decide +kernel
theorem dL_thingsHold_112 : decode cL_thingsHold 112 = .ok (.ifCond .lt 7, 3) := by decide +kernel
theorem dL_thingsHold_115 : decode cL_thingsHold 115 = .ok (.iconst 1, 1) := by decide +kernel
theorem dL_thingsHold_116 : decode cL_thingsHold 116 = .ok (.goto 4, 3) := by decide +kernel
theorem dL_thingsHold_119 : decode cL_thingsHold 119 = .ok (.iconst 0, 1) := by decide +kernel
theorem dL_thingsHold_120 : decode cL_thingsHold 120 = .ok (.iload 10, 2) := by decide +kernel
theorem dL_thingsHold_122 : decode cL_thingsHold 122 = .ok (.if_icmp .ne 68, 3) := by decide +kernel
theorem dL_thingsHold_125 : decode cL_thingsHold 125 = .ok (.aload_n 0, 1) := by decide +kernel
theorem dL_thingsHold_126 : decode cL_thingsHold 126 = .ok (.iload 7, 2) := by decide +kernel
theorem dL_thingsHold_128 : decode cL_thingsHold 128 = .ok (.iconst 2, 1) := by decide +kernel
theorem dL_thingsHold_129 : decode cL_thingsHold 129 = .ok (.invokestatic 125, 3) := by decide +kernel
theorem dL_thingsHold_132 : decode cL_thingsHold 132 = .ok (.lconst 0, 1) := by decide +kernel
theorem dL_thingsHold_133 : decode cL_thingsHold 133 = .ok (.lcmp, 1) := by decide +kernel
theorem dL_thingsHold_134 : decode cL_thingsHold 134 = .ok (.ifCond .lt 56, 3) := by decide +kernel
theorem dL_thingsHold_137 : decode cL_thingsHold 137 = .ok (.aload_n 0, 1) := by decide +kernel
theorem dL_thingsHold_138 : decode cL_thingsHold 138 = .ok (.iload 7, 2) := by decide +kernel
theorem dL_thingsHold_140 : decode cL_thingsHold 140 = .ok (.iconst 2, 1) := by decide +kernel
theorem dL_thingsHold_141 : decode cL_thingsHold 141 = .ok (.invokestatic 125, 3) := by decide +kernel
theorem dL_thingsHold_144 : decode cL_thingsHold 144 = .ok (.ldc2_w 130, 3) := by decide +kernel
theorem dL_thingsHold_147 : decode cL_thingsHold 147 = .ok (.lcmp, 1) := by decide +kernel
theorem dL_thingsHold_148 : decode cL_thingsHold 148 = .ok (.ifCond .gt 42, 3) := by decide +kernel
theorem dL_thingsHold_151 : decode cL_thingsHold 151 = .ok (.lload 8, 2) := by decide +kernel
theorem dL_thingsHold_153 : decode cL_thingsHold 153 = .ok (.lconst 0, 1) := by decide +kernel
theorem dL_thingsHold_154 : decode cL_thingsHold 154 = .ok (.lcmp, 1) := by decide +kernel
theorem dL_thingsHold_155 : decode cL_thingsHold 155 = .ok (.ifCond .lt 31, 3) := by decide +kernel
theorem dL_thingsHold_158 : decode cL_thingsHold 158 = .ok (.aload_n 0, 1) := by decide +kernel
theorem dL_thingsHold_159 : decode cL_thingsHold 159 = .ok (.lload 8, 2) := by decide +kernel
theorem dL_thingsHold_161 : decode cL_thingsHold 161 = .ok (.l2i, 1) := by decide +kernel
theorem dL_thingsHold_162 : decode cL_thingsHold 162 = .ok (.iconst 0, 1) := by decide +kernel
theorem dL_thingsHold_163 : decode cL_thingsHold 163 = .ok (.invokestatic 132, 3) := by decide +kernel
theorem dL_thingsHold_166 : decode cL_thingsHold 166 = .ok (.lconst 0, 1) := by decide +kernel
theorem dL_thingsHold_167 : decode cL_thingsHold 167 = .ok (.lcmp, 1) := by decide +kernel
theorem dL_thingsHold_168 : decode cL_thingsHold 168 = .ok (.ifCond .ne 22, 3) := by decide +kernel
theorem dL_thingsHold_171 : decode cL_thingsHold 171 = .ok (.aload_n 0, 1) := by decide +kernel
theorem dL_thingsHold_172 : decode cL_thingsHold 172 = .ok (.lload 8, 2) := by decide +kernel
theorem dL_thingsHold_174 : decode cL_thingsHold 174 = .ok (.l2i, 1) := by decide +kernel
theorem dL_thingsHold_175 : decode cL_thingsHold 175 = .ok (.iconst 1, 1) := by decide +kernel
theorem dL_thingsHold_176 : decode cL_thingsHold 176 = .ok (.invokestatic 132, 3) := by decide +kernel
theorem dL_thingsHold_179 : decode cL_thingsHold 179 = .ok (.iload 7, 2) := by decide +kernel
theorem dL_thingsHold_181 : decode cL_thingsHold 181 = .ok (.i2l, 1) := by decide +kernel
theorem dL_thingsHold_182 : decode cL_thingsHold 182 = .ok (.lcmp, 1) := by decide +kernel
theorem dL_thingsHold_183 : decode cL_thingsHold 183 = .ok (.ifCond .ne 7, 3) := by decide +kernel
theorem dL_thingsHold_186 : decode cL_thingsHold 186 = .ok (.iconst 1, 1) := by decide +kernel
theorem dL_thingsHold_187 : decode cL_thingsHold 187 = .ok (.goto 4, 3) := by decide +kernel
theorem dL_thingsHold_190 : decode cL_thingsHold 190 = .ok (.iconst 0, 1) := by decide +kernel
theorem dL_thingsHold_191 : decode cL_thingsHold 191 = .ok (.istore 6, 2) := by decide +kernel
theorem dL_thingsHold_193 : decode cL_thingsHold 193 = .ok (.iinc 7 1, 3) := by decide +kernel
theorem dL_thingsHold_196 : decode cL_thingsHold 196 = .ok (.goto (-168), 3) := by decide +kernel
theorem dL_thingsHold_199 : decode cL_thingsHold 199 = .ok (.iconst 0, 1) := by decide +kernel
theorem dL_thingsHold_200 : decode cL_thingsHold 200 = .ok (.istore 7, 2) := by decide +kernel
theorem dL_thingsHold_202 : decode cL_thingsHold 202 = .ok (.iload 7, 2) := by decide +kernel
theorem dL_thingsHold_204 : decode cL_thingsHold 204 = .ok (.bipush 12, 2) := by decide +kernel
theorem dL_thingsHold_206 : decode cL_thingsHold 206 = .ok (.if_icmp .ge 31, 3) := by decide +kernel
theorem dL_thingsHold_209 : decode cL_thingsHold 209 = .ok (.iload 6, 2) := by decide +kernel
theorem dL_thingsHold_211 : decode cL_thingsHold 211 = .ok (.ifCond .eq 26, 3) := by decide +kernel
theorem dL_thingsHold_214 : decode cL_thingsHold 214 = .ok (.lload 4, 2) := by decide +kernel
theorem dL_thingsHold_216 : decode cL_thingsHold 216 = .ok (.aload_n 0, 1) := by decide +kernel
theorem dL_thingsHold_217 : decode cL_thingsHold 217 = .ok (.iload 7, 2) := by decide +kernel
theorem dL_thingsHold_219 : decode cL_thingsHold 219 = .ok (.iconst 4, 1) := by decide +kernel
theorem dL_thingsHold_220 : decode cL_thingsHold 220 = .ok (.idiv, 1) := by decide +kernel
theorem dL_thingsHold_221 : decode cL_thingsHold 221 = .ok (.iload 7, 2) := by decide +kernel
theorem dL_thingsHold_223 : decode cL_thingsHold 223 = .ok (.iconst 4, 1) := by decide +kernel
theorem dL_thingsHold_224 : decode cL_thingsHold 224 = .ok (.irem, 1) := by decide +kernel
theorem dL_thingsHold_225 : decode cL_thingsHold 225 = .ok (.invokestatic 134, 3) := by decide +kernel
theorem dL_thingsHold_228 : decode cL_thingsHold 228 = .ok (.lsub, 1) := by decide +kernel
theorem dL_thingsHold_229 : decode cL_thingsHold 229 = .ok (.lstore 4, 2) := by decide +kernel
theorem dL_thingsHold_231 : decode cL_thingsHold 231 = .ok (.iinc 7 1, 3) := by decide +kernel
theorem dL_thingsHold_234 : decode cL_thingsHold 234 = .ok (.goto (-32), 3) := by decide +kernel
theorem dL_thingsHold_237 : decode cL_thingsHold 237 = .ok (.iload 6, 2) := by decide +kernel
theorem dL_thingsHold_239 : decode cL_thingsHold 239 = .ok (.ifCond .eq 14, 3) := by decide +kernel
theorem dL_thingsHold_242 : decode cL_thingsHold 242 = .ok (.lload 4, 2) := by decide +kernel
theorem dL_thingsHold_244 : decode cL_thingsHold 244 = .ok (.lconst 0, 1) := by decide +kernel
theorem dL_thingsHold_245 : decode cL_thingsHold 245 = .ok (.lcmp, 1) := by decide +kernel
theorem dL_thingsHold_246 : decode cL_thingsHold 246 = .ok (.ifCond .ne 7, 3) := by decide +kernel
theorem dL_thingsHold_249 : decode cL_thingsHold 249 = .ok (.iconst 1, 1) := by decide +kernel
theorem dL_thingsHold_250 : decode cL_thingsHold 250 = .ok (.goto 4, 3) := by decide +kernel
theorem dL_thingsHold_253 : decode cL_thingsHold 253 = .ok (.iconst 0, 1) := by decide +kernel
theorem dL_thingsHold_254 : decode cL_thingsHold 254 = .ok (.ireturn, 1) := by decide +kernel
theorem dL_moneyHolds_0 : decode cL_moneyHolds 0 = .ok (.lconst 0, 1) := by decide +kernel
theorem dL_moneyHolds_1 : decode cL_moneyHolds 1 = .ok (.lstore_n 2, 1) := by decide +kernel
theorem dL_moneyHolds_2 : decode cL_moneyHolds 2 = .ok (.aload_n 0, 1) := by decide +kernel
theorem dL_moneyHolds_3 : decode cL_moneyHolds 3 = .ok (.iload_n 1, 1) := by decide +kernel
theorem dL_moneyHolds_4 : decode cL_moneyHolds 4 = .ok (.iconst 0, 1) := by decide +kernel
theorem dL_moneyHolds_5 : decode cL_moneyHolds 5 = .ok (.invokestatic 132, 3) := by decide +kernel
theorem dL_moneyHolds_8 : decode cL_moneyHolds 8 = .ok (.ldc2_w 17, 3) := by decide +kernel
theorem dL_moneyHolds_11 : decode cL_moneyHolds 11 = .ok (.lcmp, 1) := by decide +kernel
theorem dL_moneyHolds_12 : decode cL_moneyHolds 12 = .ok (.ifCond .ne 7, 3) := by decide +kernel
theorem dL_moneyHolds_15 : decode cL_moneyHolds 15 = .ok (.iconst 1, 1) := by decide +kernel
theorem dL_moneyHolds_16 : decode cL_moneyHolds 16 = .ok (.goto 4, 3) := by decide +kernel
theorem dL_moneyHolds_19 : decode cL_moneyHolds 19 = .ok (.iconst 0, 1) := by decide +kernel
theorem dL_moneyHolds_20 : decode cL_moneyHolds 20 = .ok (.istore 4, 2) := by decide +kernel
theorem dL_moneyHolds_22 : decode cL_moneyHolds 22 = .ok (.iconst 0, 1) := by decide +kernel
theorem dL_moneyHolds_23 : decode cL_moneyHolds 23 = .ok (.istore 5, 2) := by decide +kernel
theorem dL_moneyHolds_25 : decode cL_moneyHolds 25 = .ok (.iload 5, 2) := by decide +kernel
theorem dL_moneyHolds_27 : decode cL_moneyHolds 27 = .ok (.iload_n 1, 1) := by decide +kernel
theorem dL_moneyHolds_28 : decode cL_moneyHolds 28 = .ok (.if_icmp .ge 171, 3) := by decide +kernel
theorem dL_moneyHolds_31 : decode cL_moneyHolds 31 = .ok (.iload 4, 2) := by decide +kernel
theorem dL_moneyHolds_33 : decode cL_moneyHolds 33 = .ok (.ifCond .eq 166, 3) := by decide +kernel
theorem dL_moneyHolds_36 : decode cL_moneyHolds 36 = .ok (.aload_n 0, 1) := by decide +kernel
theorem dL_moneyHolds_37 : decode cL_moneyHolds 37 = .ok (.iload 5, 2) := by decide +kernel
theorem dL_moneyHolds_39 : decode cL_moneyHolds 39 = .ok (.iconst 0, 1) := by decide +kernel
theorem dL_moneyHolds_40 : decode cL_moneyHolds 40 = .ok (.invokestatic 132, 3) := by decide +kernel
theorem dL_moneyHolds_43 : decode cL_moneyHolds 43 = .ok (.lstore 6, 2) := by decide +kernel
theorem dL_moneyHolds_45 : decode cL_moneyHolds 45 = .ok (.lload_n 2, 1) := by decide +kernel
theorem dL_moneyHolds_46 : decode cL_moneyHolds 46 = .ok (.aload_n 0, 1) := by decide +kernel
theorem dL_moneyHolds_47 : decode cL_moneyHolds 47 = .ok (.iload 5, 2) := by decide +kernel
theorem dL_moneyHolds_49 : decode cL_moneyHolds 49 = .ok (.bipush 7, 2) := by decide +kernel
theorem dL_moneyHolds_51 : decode cL_moneyHolds 51 = .ok (.invokestatic 132, 3) := by decide +kernel
theorem dL_moneyHolds_54 : decode cL_moneyHolds 54 = .ok (.ladd, 1) := by decide +kernel
theorem dL_moneyHolds_55 : decode cL_moneyHolds 55 = .ok (.lstore_n 2, 1) := by decide +kernel
theorem dL_moneyHolds_56 : decode cL_moneyHolds 56 = .ok (.aload_n 0, 1) := by decide +kernel
theorem dL_moneyHolds_57 : decode cL_moneyHolds 57 = .ok (.iload 5, 2) := by decide +kernel
theorem dL_moneyHolds_59 : decode cL_moneyHolds 59 = .ok (.iconst 3, 1) := by decide +kernel
theorem dL_moneyHolds_60 : decode cL_moneyHolds 60 = .ok (.invokestatic 132, 3) := by decide +kernel
theorem dL_moneyHolds_63 : decode cL_moneyHolds 63 = .ok (.aload_n 0, 1) := by decide +kernel
theorem dL_moneyHolds_64 : decode cL_moneyHolds 64 = .ok (.iload 5, 2) := by decide +kernel
theorem dL_moneyHolds_66 : decode cL_moneyHolds 66 = .ok (.invokestatic 136, 3) := by decide +kernel
theorem dL_moneyHolds_69 : decode cL_moneyHolds 69 = .ok (.lcmp, 1) := by decide +kernel
theorem dL_moneyHolds_70 : decode cL_moneyHolds 70 = .ok (.ifCond .ne 120, 3) := by decide +kernel
theorem dL_moneyHolds_73 : decode cL_moneyHolds 73 = .ok (.aload_n 0, 1) := by decide +kernel
theorem dL_moneyHolds_74 : decode cL_moneyHolds 74 = .ok (.iload 5, 2) := by decide +kernel
theorem dL_moneyHolds_76 : decode cL_moneyHolds 76 = .ok (.iconst 3, 1) := by decide +kernel
theorem dL_moneyHolds_77 : decode cL_moneyHolds 77 = .ok (.invokestatic 132, 3) := by decide +kernel
theorem dL_moneyHolds_80 : decode cL_moneyHolds 80 = .ok (.lconst 0, 1) := by decide +kernel
theorem dL_moneyHolds_81 : decode cL_moneyHolds 81 = .ok (.lcmp, 1) := by decide +kernel
theorem dL_moneyHolds_82 : decode cL_moneyHolds 82 = .ok (.ifCond .lt 108, 3) := by decide +kernel
theorem dL_moneyHolds_85 : decode cL_moneyHolds 85 = .ok (.lload 6, 2) := by decide +kernel
theorem dL_moneyHolds_87 : decode cL_moneyHolds 87 = .ok (.lconst 0, 1) := by decide +kernel
theorem dL_moneyHolds_88 : decode cL_moneyHolds 88 = .ok (.lcmp, 1) := by decide +kernel
theorem dL_moneyHolds_89 : decode cL_moneyHolds 89 = .ok (.ifCond .eq 15, 3) := by decide +kernel
theorem dL_moneyHolds_92 : decode cL_moneyHolds 92 = .ok (.aload_n 0, 1) := by decide +kernel
theorem dL_moneyHolds_93 : decode cL_moneyHolds 93 = .ok (.iload 5, 2) := by decide +kernel
theorem dL_moneyHolds_95 : decode cL_moneyHolds 95 = .ok (.iconst 3, 1) := by decide +kernel
theorem dL_moneyHolds_96 : decode cL_moneyHolds 96 = .ok (.invokestatic 132, 3) := by decide +kernel
theorem dL_moneyHolds_99 : decode cL_moneyHolds 99 = .ok (.lconst 0, 1) := by decide +kernel
theorem dL_moneyHolds_100 : decode cL_moneyHolds 100 = .ok (.lcmp, 1) := by decide +kernel
theorem dL_moneyHolds_101 : decode cL_moneyHolds 101 = .ok (.ifCond .ne 89, 3) := by decide +kernel
theorem dL_moneyHolds_104 : decode cL_moneyHolds 104 = .ok (.lload 6, 2) := by decide +kernel
theorem dL_moneyHolds_106 : decode cL_moneyHolds 106 = .ok (.ldc2_w 139, 3) := by decide +kernel
theorem dL_moneyHolds_109 : decode cL_moneyHolds 109 = .ok (.lcmp, 1) := by decide +kernel
theorem dL_moneyHolds_110 : decode cL_moneyHolds 110 = .ok (.ifCond .eq 16, 3) := by decide +kernel
theorem dL_moneyHolds_113 : decode cL_moneyHolds 113 = .ok (.aload_n 0, 1) := by decide +kernel
theorem dL_moneyHolds_114 : decode cL_moneyHolds 114 = .ok (.iload 5, 2) := by decide +kernel
theorem dL_moneyHolds_116 : decode cL_moneyHolds 116 = .ok (.bipush 7, 2) := by decide +kernel
theorem dL_moneyHolds_118 : decode cL_moneyHolds 118 = .ok (.invokestatic 132, 3) := by decide +kernel
theorem dL_moneyHolds_121 : decode cL_moneyHolds 121 = .ok (.lconst 0, 1) := by decide +kernel
theorem dL_moneyHolds_122 : decode cL_moneyHolds 122 = .ok (.lcmp, 1) := by decide +kernel
theorem dL_moneyHolds_123 : decode cL_moneyHolds 123 = .ok (.ifCond .ne 67, 3) := by decide +kernel
theorem dL_moneyHolds_126 : decode cL_moneyHolds 126 = .ok (.aload_n 0, 1) := by decide +kernel
theorem dL_moneyHolds_127 : decode cL_moneyHolds 127 = .ok (.iload 5, 2) := by decide +kernel
theorem dL_moneyHolds_129 : decode cL_moneyHolds 129 = .ok (.bipush 8, 2) := by decide +kernel
theorem dL_moneyHolds_131 : decode cL_moneyHolds 131 = .ok (.invokestatic 132, 3) := by decide +kernel
theorem dL_moneyHolds_134 : decode cL_moneyHolds 134 = .ok (.lconst 0, 1) := by decide +kernel
theorem dL_moneyHolds_135 : decode cL_moneyHolds 135 = .ok (.lcmp, 1) := by decide +kernel
theorem dL_moneyHolds_136 : decode cL_moneyHolds 136 = .ok (.ifCond .lt 54, 3) := by decide +kernel
theorem dL_moneyHolds_139 : decode cL_moneyHolds 139 = .ok (.aload_n 0, 1) := by decide +kernel
theorem dL_moneyHolds_140 : decode cL_moneyHolds 140 = .ok (.iload 5, 2) := by decide +kernel
theorem dL_moneyHolds_142 : decode cL_moneyHolds 142 = .ok (.bipush 8, 2) := by decide +kernel
theorem dL_moneyHolds_144 : decode cL_moneyHolds 144 = .ok (.invokestatic 132, 3) := by decide +kernel
theorem dL_moneyHolds_147 : decode cL_moneyHolds 147 = .ok (.ldc2_w 141, 3) := by decide +kernel
theorem dL_moneyHolds_150 : decode cL_moneyHolds 150 = .ok (.lcmp, 1) := by decide +kernel
theorem dL_moneyHolds_151 : decode cL_moneyHolds 151 = .ok (.ifCond .gt 39, 3) := by decide +kernel
theorem dL_moneyHolds_154 : decode cL_moneyHolds 154 = .ok (.aload_n 0, 1) := by decide +kernel
theorem dL_moneyHolds_155 : decode cL_moneyHolds 155 = .ok (.iload 5, 2) := by decide +kernel
theorem dL_moneyHolds_157 : decode cL_moneyHolds 157 = .ok (.iconst 2, 1) := by decide +kernel
theorem dL_moneyHolds_158 : decode cL_moneyHolds 158 = .ok (.invokestatic 132, 3) := by decide +kernel
theorem dL_moneyHolds_161 : decode cL_moneyHolds 161 = .ok (.lconst 1, 1) := by decide +kernel
theorem dL_moneyHolds_162 : decode cL_moneyHolds 162 = .ok (.lcmp, 1) := by decide +kernel
theorem dL_moneyHolds_163 : decode cL_moneyHolds 163 = .ok (.ifCond .lt 27, 3) := by decide +kernel
theorem dL_moneyHolds_166 : decode cL_moneyHolds 166 = .ok (.lload 6, 2) := by decide +kernel
theorem dL_moneyHolds_168 : decode cL_moneyHolds 168 = .ok (.lconst 0, 1) := by decide +kernel
theorem dL_moneyHolds_169 : decode cL_moneyHolds 169 = .ok (.lcmp, 1) := by decide +kernel
theorem dL_moneyHolds_170 : decode cL_moneyHolds 170 = .ok (.ifCond .eq 16, 3) := by decide +kernel
theorem dL_moneyHolds_173 : decode cL_moneyHolds 173 = .ok (.aload_n 0, 1) := by decide +kernel
theorem dL_moneyHolds_174 : decode cL_moneyHolds 174 = .ok (.iload 5, 2) := by decide +kernel
theorem dL_moneyHolds_176 : decode cL_moneyHolds 176 = .ok (.bipush 8, 2) := by decide +kernel
theorem dL_moneyHolds_178 : decode cL_moneyHolds 178 = .ok (.invokestatic 132, 3) := by decide +kernel
theorem dL_moneyHolds_181 : decode cL_moneyHolds 181 = .ok (.lconst 1, 1) := by decide +kernel
theorem dL_moneyHolds_182 : decode cL_moneyHolds 182 = .ok (.lcmp, 1) := by decide +kernel
theorem dL_moneyHolds_183 : decode cL_moneyHolds 183 = .ok (.ifCond .gt 7, 3) := by decide +kernel
theorem dL_moneyHolds_186 : decode cL_moneyHolds 186 = .ok (.iconst 1, 1) := by decide +kernel
theorem dL_moneyHolds_187 : decode cL_moneyHolds 187 = .ok (.goto 4, 3) := by decide +kernel
theorem dL_moneyHolds_190 : decode cL_moneyHolds 190 = .ok (.iconst 0, 1) := by decide +kernel
theorem dL_moneyHolds_191 : decode cL_moneyHolds 191 = .ok (.istore 4, 2) := by decide +kernel
theorem dL_moneyHolds_193 : decode cL_moneyHolds 193 = .ok (.iinc 5 1, 3) := by decide +kernel
theorem dL_moneyHolds_196 : decode cL_moneyHolds 196 = .ok (.goto (-171), 3) := by decide +kernel
theorem dL_moneyHolds_199 : decode cL_moneyHolds 199 = .ok (.iload 4, 2) := by decide +kernel
theorem dL_moneyHolds_201 : decode cL_moneyHolds 201 = .ok (.ifCond .eq 71, 3) := by decide +kernel
theorem dL_moneyHolds_204 : decode cL_moneyHolds 204 = .ok (.lload_n 2, 1) := by decide +kernel
theorem dL_moneyHolds_205 : decode cL_moneyHolds 205 = .ok (.aload_n 0, 1) := by decide +kernel
theorem dL_moneyHolds_206 : decode cL_moneyHolds 206 = .ok (.iconst 1, 1) := by decide +kernel
theorem dL_moneyHolds_207 : decode cL_moneyHolds 207 = .ok (.invokestatic 143, 3) := by decide +kernel
theorem dL_moneyHolds_210 : decode cL_moneyHolds 210 = .ok (.lcmp, 1) := by decide +kernel
theorem dL_moneyHolds_211 : decode cL_moneyHolds 211 = .ok (.ifCond .ne 61, 3) := by decide +kernel
theorem dL_moneyHolds_214 : decode cL_moneyHolds 214 = .ok (.aload_n 0, 1) := by decide +kernel
theorem dL_moneyHolds_215 : decode cL_moneyHolds 215 = .ok (.iconst 0, 1) := by decide +kernel
theorem dL_moneyHolds_216 : decode cL_moneyHolds 216 = .ok (.invokestatic 143, 3) := by decide +kernel
theorem dL_moneyHolds_219 : decode cL_moneyHolds 219 = .ok (.aload_n 0, 1) := by decide +kernel
theorem dL_moneyHolds_220 : decode cL_moneyHolds 220 = .ok (.invokevirtual 145, 3) := by decide +kernel
theorem dL_moneyHolds_223 : decode cL_moneyHolds 223 = .ok (.i2l, 1) := by decide +kernel
theorem dL_moneyHolds_224 : decode cL_moneyHolds 224 = .ok (.lcmp, 1) := by decide +kernel
theorem dL_moneyHolds_225 : decode cL_moneyHolds 225 = .ok (.ifCond .ne 47, 3) := by decide +kernel
theorem dL_moneyHolds_228 : decode cL_moneyHolds 228 = .ok (.aload_n 0, 1) := by decide +kernel
theorem dL_moneyHolds_229 : decode cL_moneyHolds 229 = .ok (.iconst 2, 1) := by decide +kernel
theorem dL_moneyHolds_230 : decode cL_moneyHolds 230 = .ok (.invokestatic 143, 3) := by decide +kernel
theorem dL_moneyHolds_233 : decode cL_moneyHolds 233 = .ok (.aload_n 0, 1) := by decide +kernel
theorem dL_moneyHolds_234 : decode cL_moneyHolds 234 = .ok (.iconst 0, 1) := by decide +kernel
theorem dL_moneyHolds_235 : decode cL_moneyHolds 235 = .ok (.invokestatic 143, 3) := by decide +kernel
theorem dL_moneyHolds_238 : decode cL_moneyHolds 238 = .ok (.aload_n 0, 1) := by decide +kernel
theorem dL_moneyHolds_239 : decode cL_moneyHolds 239 = .ok (.iconst 1, 1) := by decide +kernel
theorem dL_moneyHolds_240 : decode cL_moneyHolds 240 = .ok (.invokestatic 143, 3) := by decide +kernel
theorem dL_moneyHolds_243 : decode cL_moneyHolds 243 = .ok (.lsub, 1) := by decide +kernel
theorem dL_moneyHolds_244 : decode cL_moneyHolds 244 = .ok (.lcmp, 1) := by decide +kernel
theorem dL_moneyHolds_245 : decode cL_moneyHolds 245 = .ok (.ifCond .ne 27, 3) := by decide +kernel
theorem dL_moneyHolds_248 : decode cL_moneyHolds 248 = .ok (.aload_n 0, 1) := by decide +kernel
theorem dL_moneyHolds_249 : decode cL_moneyHolds 249 = .ok (.iconst 2, 1) := by decide +kernel
theorem dL_moneyHolds_250 : decode cL_moneyHolds 250 = .ok (.invokestatic 143, 3) := by decide +kernel
theorem dL_moneyHolds_253 : decode cL_moneyHolds 253 = .ok (.lconst 0, 1) := by decide +kernel
theorem dL_moneyHolds_254 : decode cL_moneyHolds 254 = .ok (.lcmp, 1) := by decide +kernel
theorem dL_moneyHolds_255 : decode cL_moneyHolds 255 = .ok (.ifCond .lt 17, 3) := by decide +kernel
theorem dL_moneyHolds_258 : decode cL_moneyHolds 258 = .ok (.aload_n 0, 1) := by decide +kernel
theorem dL_moneyHolds_259 : decode cL_moneyHolds 259 = .ok (.iconst 3, 1) := by decide +kernel
theorem dL_moneyHolds_260 : decode cL_moneyHolds 260 = .ok (.invokestatic 143, 3) := by decide +kernel
theorem dL_moneyHolds_263 : decode cL_moneyHolds 263 = .ok (.lconst 0, 1) := by decide +kernel
theorem dL_moneyHolds_264 : decode cL_moneyHolds 264 = .ok (.lcmp, 1) := by decide +kernel
theorem dL_moneyHolds_265 : decode cL_moneyHolds 265 = .ok (.ifCond .lt 7, 3) := by decide +kernel
theorem dL_moneyHolds_268 : decode cL_moneyHolds 268 = .ok (.iconst 1, 1) := by decide +kernel
theorem dL_moneyHolds_269 : decode cL_moneyHolds 269 = .ok (.goto 4, 3) := by decide +kernel
theorem dL_moneyHolds_272 : decode cL_moneyHolds 272 = .ok (.iconst 0, 1) := by decide +kernel
theorem dL_moneyHolds_273 : decode cL_moneyHolds 273 = .ok (.ireturn, 1) := by decide +kernel
theorem dL_refuses_0 : decode cL_refuses 0 = .ok (.aload_n 0, 1) := by decide +kernel
theorem dL_refuses_1 : decode cL_refuses 1 = .ok (.invokevirtual 149, 3) := by decide +kernel
theorem dL_refuses_4 : decode cL_refuses 4 = .ok (.istore_n 1, 1) := by decide +kernel
theorem dL_refuses_5 : decode cL_refuses 5 = .ok (.aload_n 0, 1) := by decide +kernel
theorem dL_refuses_6 : decode cL_refuses 6 = .ok (.iconst 0, 1) := by decide +kernel
theorem dL_refuses_7 : decode cL_refuses 7 = .ok (.invokestatic 143, 3) := by decide +kernel
theorem dL_refuses_10 : decode cL_refuses 10 = .ok (.lstore_n 2, 1) := by decide +kernel
theorem dL_refuses_11 : decode cL_refuses 11 = .ok (.aload_n 0, 1) := by decide +kernel
theorem dL_refuses_12 : decode cL_refuses 12 = .ok (.iconst 4, 1) := by decide +kernel
theorem dL_refuses_13 : decode cL_refuses 13 = .ok (.iconst 1, 1) := by decide +kernel
theorem dL_refuses_14 : decode cL_refuses 14 = .ok (.bipush 10, 2) := by decide +kernel
theorem dL_refuses_16 : decode cL_refuses 16 = .ok (.invokestatic 152, 3) := by decide +kernel
theorem dL_refuses_19 : decode cL_refuses 19 = .ok (.ldc2_w 17, 3) := by decide +kernel
theorem dL_refuses_22 : decode cL_refuses 22 = .ok (.lcmp, 1) := by decide +kernel
theorem dL_refuses_23 : decode cL_refuses 23 = .ok (.ifCond .ne 280, 3) := by decide +kernel
theorem dL_refuses_26 : decode cL_refuses 26 = .ok (.aload_n 0, 1) := by decide +kernel
theorem dL_refuses_27 : decode cL_refuses 27 = .ok (.iconst 0, 1) := by decide +kernel
theorem dL_refuses_28 : decode cL_refuses 28 = .ok (.bipush 51, 2) := by decide +kernel
theorem dL_refuses_30 : decode cL_refuses 30 = .ok (.bipush 10, 2) := by decide +kernel
theorem dL_refuses_32 : decode cL_refuses 32 = .ok (.invokestatic 152, 3) := by decide +kernel
theorem dL_refuses_35 : decode cL_refuses 35 = .ok (.ldc2_w 21, 3) := by decide +kernel
theorem dL_refuses_38 : decode cL_refuses 38 = .ok (.lcmp, 1) := by decide +kernel
theorem dL_refuses_39 : decode cL_refuses 39 = .ok (.ifCond .ne 264, 3) := by decide +kernel
theorem dL_refuses_42 : decode cL_refuses 42 = .ok (.aload_n 0, 1) := by decide +kernel
theorem dL_refuses_43 : decode cL_refuses 43 = .ok (.iconst 0, 1) := by decide +kernel
theorem dL_refuses_44 : decode cL_refuses 44 = .ok (.iconst 1, 1) := by decide +kernel
theorem dL_refuses_45 : decode cL_refuses 45 = .ok (.bipush 9, 2) := by decide +kernel
theorem dL_refuses_47 : decode cL_refuses 47 = .ok (.invokestatic 152, 3) := by decide +kernel
theorem dL_refuses_50 : decode cL_refuses 50 = .ok (.ldc2_w 21, 3) := by decide +kernel
theorem dL_refuses_53 : decode cL_refuses 53 = .ok (.lcmp, 1) := by decide +kernel
theorem dL_refuses_54 : decode cL_refuses 54 = .ok (.ifCond .ne 249, 3) := by decide +kernel
theorem dL_refuses_57 : decode cL_refuses 57 = .ok (.aload_n 0, 1) := by decide +kernel
theorem dL_refuses_58 : decode cL_refuses 58 = .ok (.iconst (-1), 1) := by decide +kernel
theorem dL_refuses_59 : decode cL_refuses 59 = .ok (.iconst 0, 1) := by decide +kernel
theorem dL_refuses_60 : decode cL_refuses 60 = .ok (.invokestatic 155, 3) := by decide +kernel
theorem dL_refuses_63 : decode cL_refuses 63 = .ok (.ldc2_w 17, 3) := by decide +kernel
theorem dL_refuses_66 : decode cL_refuses 66 = .ok (.lcmp, 1) := by decide +kernel
theorem dL_refuses_67 : decode cL_refuses 67 = .ok (.ifCond .ne 236, 3) := by decide +kernel
theorem dL_refuses_70 : decode cL_refuses 70 = .ok (.aload_n 0, 1) := by decide +kernel
theorem dL_refuses_71 : decode cL_refuses 71 = .ok (.iconst 0, 1) := by decide +kernel
theorem dL_refuses_72 : decode cL_refuses 72 = .ok (.sipush 201, 3) := by decide +kernel
theorem dL_refuses_75 : decode cL_refuses 75 = .ok (.invokestatic 155, 3) := by decide +kernel
theorem dL_refuses_78 : decode cL_refuses 78 = .ok (.ldc2_w 21, 3) := by decide +kernel
theorem dL_refuses_81 : decode cL_refuses 81 = .ok (.lcmp, 1) := by decide +kernel
theorem dL_refuses_82 : decode cL_refuses 82 = .ok (.ifCond .ne 221, 3) := by decide +kernel
theorem dL_refuses_85 : decode cL_refuses 85 = .ok (.aload_n 0, 1) := by decide +kernel
theorem dL_refuses_86 : decode cL_refuses 86 = .ok (.iconst 4, 1) := by decide +kernel
theorem dL_refuses_87 : decode cL_refuses 87 = .ok (.iconst 0, 1) := by decide +kernel
theorem dL_refuses_88 : decode cL_refuses 88 = .ok (.invokestatic 157, 3) := by decide +kernel
theorem dL_refuses_91 : decode cL_refuses 91 = .ok (.ldc2_w 17, 3) := by decide +kernel
theorem dL_refuses_94 : decode cL_refuses 94 = .ok (.lcmp, 1) := by decide +kernel
theorem dL_refuses_95 : decode cL_refuses 95 = .ok (.ifCond .ne 208, 3) := by decide +kernel
theorem dL_refuses_98 : decode cL_refuses 98 = .ok (.aload_n 0, 1) := by decide +kernel
theorem dL_refuses_99 : decode cL_refuses 99 = .ok (.iconst 0, 1) := by decide +kernel
theorem dL_refuses_100 : decode cL_refuses 100 = .ok (.bipush 21, 2) := by decide +kernel
theorem dL_refuses_102 : decode cL_refuses 102 = .ok (.invokestatic 157, 3) := by decide +kernel
theorem dL_refuses_105 : decode cL_refuses 105 = .ok (.ldc2_w 21, 3) := by decide +kernel
theorem dL_refuses_108 : decode cL_refuses 108 = .ok (.lcmp, 1) := by decide +kernel
theorem dL_refuses_109 : decode cL_refuses 109 = .ok (.ifCond .ne 194, 3) := by decide +kernel
theorem dL_refuses_112 : decode cL_refuses 112 = .ok (.aload_n 0, 1) := by decide +kernel
theorem dL_refuses_113 : decode cL_refuses 113 = .ok (.bipush 10, 2) := by decide +kernel
theorem dL_refuses_115 : decode cL_refuses 115 = .ok (.iconst 0, 1) := by decide +kernel
theorem dL_refuses_116 : decode cL_refuses 116 = .ok (.invokestatic 159, 3) := by decide +kernel
theorem dL_refuses_119 : decode cL_refuses 119 = .ok (.ldc2_w 17, 3) := by decide +kernel
theorem dL_refuses_122 : decode cL_refuses 122 = .ok (.lcmp, 1) := by decide +kernel
theorem dL_refuses_123 : decode cL_refuses 123 = .ok (.ifCond .ne 180, 3) := by decide +kernel
theorem dL_refuses_126 : decode cL_refuses 126 = .ok (.aload_n 0, 1) := by decide +kernel
theorem dL_refuses_127 : decode cL_refuses 127 = .ok (.iconst 0, 1) := by decide +kernel
theorem dL_refuses_128 : decode cL_refuses 128 = .ok (.iconst 3, 1) := by decide +kernel
theorem dL_refuses_129 : decode cL_refuses 129 = .ok (.invokestatic 159, 3) := by decide +kernel
theorem dL_refuses_132 : decode cL_refuses 132 = .ok (.ldc2_w 17, 3) := by decide +kernel
theorem dL_refuses_135 : decode cL_refuses 135 = .ok (.lcmp, 1) := by decide +kernel
theorem dL_refuses_136 : decode cL_refuses 136 = .ok (.ifCond .ne 167, 3) := by decide +kernel
theorem dL_refuses_139 : decode cL_refuses 139 = .ok (.aload_n 0, 1) := by decide +kernel
theorem dL_refuses_140 : decode cL_refuses 140 = .ok (.iconst 3, 1) := by decide +kernel
theorem dL_refuses_141 : decode cL_refuses 141 = .ok (.bipush 50, 2) := by decide +kernel
theorem dL_refuses_143 : decode cL_refuses 143 = .ok (.iconst 0, 1) := by decide +kernel
theorem dL_refuses_144 : decode cL_refuses 144 = .ok (.invokestatic 161, 3) := by decide +kernel
theorem dL_refuses_147 : decode cL_refuses 147 = .ok (.ldc2_w 17, 3) := by decide +kernel
theorem dL_refuses_150 : decode cL_refuses 150 = .ok (.lcmp, 1) := by decide +kernel
theorem dL_refuses_151 : decode cL_refuses 151 = .ok (.ifCond .ne 152, 3) := by decide +kernel
theorem dL_refuses_154 : decode cL_refuses 154 = .ok (.aload_n 0, 1) := by decide +kernel
theorem dL_refuses_155 : decode cL_refuses 155 = .ok (.iconst 0, 1) := by decide +kernel
theorem dL_refuses_156 : decode cL_refuses 156 = .ok (.bipush 9, 2) := by decide +kernel
theorem dL_refuses_158 : decode cL_refuses 158 = .ok (.iconst 0, 1) := by decide +kernel
theorem dL_refuses_159 : decode cL_refuses 159 = .ok (.invokestatic 161, 3) := by decide +kernel
theorem dL_refuses_162 : decode cL_refuses 162 = .ok (.ldc2_w 21, 3) := by decide +kernel
theorem dL_refuses_165 : decode cL_refuses 165 = .ok (.lcmp, 1) := by decide +kernel
theorem dL_refuses_166 : decode cL_refuses 166 = .ok (.ifCond .ne 137, 3) := by decide +kernel
theorem dL_refuses_169 : decode cL_refuses 169 = .ok (.aload_n 0, 1) := by decide +kernel
theorem dL_refuses_170 : decode cL_refuses 170 = .ok (.iconst 3, 1) := by decide +kernel
theorem dL_refuses_171 : decode cL_refuses 171 = .ok (.iconst 0, 1) := by decide +kernel
theorem dL_refuses_172 : decode cL_refuses 172 = .ok (.invokestatic 163, 3) := by decide +kernel
theorem dL_refuses_175 : decode cL_refuses 175 = .ok (.ldc2_w 17, 3) := by decide +kernel
theorem dL_refuses_178 : decode cL_refuses 178 = .ok (.lcmp, 1) := by decide +kernel
theorem dL_refuses_179 : decode cL_refuses 179 = .ok (.ifCond .ne 124, 3) := by decide +kernel
theorem dL_refuses_182 : decode cL_refuses 182 = .ok (.aload_n 0, 1) := by decide +kernel
theorem dL_refuses_183 : decode cL_refuses 183 = .ok (.iconst 0, 1) := by decide +kernel
theorem dL_refuses_184 : decode cL_refuses 184 = .ok (.bipush 101, 2) := by decide +kernel
theorem dL_refuses_186 : decode cL_refuses 186 = .ok (.invokestatic 163, 3) := by decide +kernel
theorem dL_refuses_189 : decode cL_refuses 189 = .ok (.ldc2_w 21, 3) := by decide +kernel
theorem dL_refuses_192 : decode cL_refuses 192 = .ok (.lcmp, 1) := by decide +kernel
theorem dL_refuses_193 : decode cL_refuses 193 = .ok (.ifCond .ne 110, 3) := by decide +kernel
theorem dL_refuses_196 : decode cL_refuses 196 = .ok (.aload_n 0, 1) := by decide +kernel
theorem dL_refuses_197 : decode cL_refuses 197 = .ok (.bipush 13, 2) := by decide +kernel
theorem dL_refuses_199 : decode cL_refuses 199 = .ok (.invokestatic 165, 3) := by decide +kernel
theorem dL_refuses_202 : decode cL_refuses 202 = .ok (.ldc2_w 21, 3) := by decide +kernel
theorem dL_refuses_205 : decode cL_refuses 205 = .ok (.lcmp, 1) := by decide +kernel
theorem dL_refuses_206 : decode cL_refuses 206 = .ok (.ifCond .ne 97, 3) := by decide +kernel
theorem dL_refuses_209 : decode cL_refuses 209 = .ok (.aload_n 0, 1) := by decide +kernel
theorem dL_refuses_210 : decode cL_refuses 210 = .ok (.iconst 5, 1) := by decide +kernel
theorem dL_refuses_211 : decode cL_refuses 211 = .ok (.iconst 4, 1) := by decide +kernel
theorem dL_refuses_212 : decode cL_refuses 212 = .ok (.invokestatic 167, 3) := by decide +kernel
theorem dL_refuses_215 : decode cL_refuses 215 = .ok (.ldc2_w 21, 3) := by decide +kernel
theorem dL_refuses_218 : decode cL_refuses 218 = .ok (.lcmp, 1) := by decide +kernel
theorem dL_refuses_219 : decode cL_refuses 219 = .ok (.ifCond .ne 84, 3) := by decide +kernel
theorem dL_refuses_222 : decode cL_refuses 222 = .ok (.aload_n 0, 1) := by decide +kernel
theorem dL_refuses_223 : decode cL_refuses 223 = .ok (.iconst 0, 1) := by decide +kernel
theorem dL_refuses_224 : decode cL_refuses 224 = .ok (.bipush 40, 2) := by decide +kernel
theorem dL_refuses_226 : decode cL_refuses 226 = .ok (.iconst 0, 1) := by decide +kernel
theorem dL_refuses_227 : decode cL_refuses 227 = .ok (.iconst 0, 1) := by decide +kernel
theorem dL_refuses_228 : decode cL_refuses 228 = .ok (.iconst 1, 1) := by decide +kernel
theorem dL_refuses_229 : decode cL_refuses 229 = .ok (.iconst 1, 1) := by decide +kernel
theorem dL_refuses_230 : decode cL_refuses 230 = .ok (.invokestatic 169, 3) := by decide +kernel
theorem dL_refuses_233 : decode cL_refuses 233 = .ok (.ldc2_w 17, 3) := by decide +kernel
theorem dL_refuses_236 : decode cL_refuses 236 = .ok (.lcmp, 1) := by decide +kernel
theorem dL_refuses_237 : decode cL_refuses 237 = .ok (.ifCond .ne 66, 3) := by decide +kernel
theorem dL_refuses_240 : decode cL_refuses 240 = .ok (.aload_n 0, 1) := by decide +kernel
theorem dL_refuses_241 : decode cL_refuses 241 = .ok (.iconst 0, 1) := by decide +kernel
theorem dL_refuses_242 : decode cL_refuses 242 = .ok (.iconst 0, 1) := by decide +kernel
theorem dL_refuses_243 : decode cL_refuses 243 = .ok (.iconst 0, 1) := by decide +kernel
theorem dL_refuses_244 : decode cL_refuses 244 = .ok (.iconst 0, 1) := by decide +kernel
theorem dL_refuses_245 : decode cL_refuses 245 = .ok (.iconst 0, 1) := by decide +kernel
theorem dL_refuses_246 : decode cL_refuses 246 = .ok (.iconst 1, 1) := by decide +kernel
theorem dL_refuses_247 : decode cL_refuses 247 = .ok (.invokestatic 169, 3) := by decide +kernel
theorem dL_refuses_250 : decode cL_refuses 250 = .ok (.ldc2_w 21, 3) := by decide +kernel
theorem dL_refuses_253 : decode cL_refuses 253 = .ok (.lcmp, 1) := by decide +kernel
theorem dL_refuses_254 : decode cL_refuses 254 = .ok (.ifCond .ne 49, 3) := by decide +kernel
theorem dL_refuses_257 : decode cL_refuses 257 = .ok (.aload_n 0, 1) := by decide +kernel
theorem dL_refuses_258 : decode cL_refuses 258 = .ok (.bipush 40, 2) := by decide +kernel
theorem dL_refuses_260 : decode cL_refuses 260 = .ok (.iconst 0, 1) := by decide +kernel
theorem dL_refuses_261 : decode cL_refuses 261 = .ok (.invokestatic 172, 3) := by decide +kernel
theorem dL_refuses_264 : decode cL_refuses 264 = .ok (.ldc2_w 17, 3) := by decide +kernel
theorem dL_refuses_267 : decode cL_refuses 267 = .ok (.lcmp, 1) := by decide +kernel
theorem dL_refuses_268 : decode cL_refuses 268 = .ok (.ifCond .ne 35, 3) := by decide +kernel
theorem dL_refuses_271 : decode cL_refuses 271 = .ok (.aload_n 0, 1) := by decide +kernel
theorem dL_refuses_272 : decode cL_refuses 272 = .ok (.iconst (-1), 1) := by decide +kernel
theorem dL_refuses_273 : decode cL_refuses 273 = .ok (.iconst 0, 1) := by decide +kernel
theorem dL_refuses_274 : decode cL_refuses 274 = .ok (.iconst 0, 1) := by decide +kernel
theorem dL_refuses_275 : decode cL_refuses 275 = .ok (.invokestatic 174, 3) := by decide +kernel
theorem dL_refuses_278 : decode cL_refuses 278 = .ok (.ldc2_w 17, 3) := by decide +kernel
theorem dL_refuses_281 : decode cL_refuses 281 = .ok (.lcmp, 1) := by decide +kernel
theorem dL_refuses_282 : decode cL_refuses 282 = .ok (.ifCond .ne 21, 3) := by decide +kernel
theorem dL_refuses_285 : decode cL_refuses 285 = .ok (.aload_n 0, 1) := by decide +kernel
theorem dL_refuses_286 : decode cL_refuses 286 = .ok (.bipush 40, 2) := by decide +kernel
theorem dL_refuses_288 : decode cL_refuses 288 = .ok (.iconst 0, 1) := by decide +kernel
theorem dL_refuses_289 : decode cL_refuses 289 = .ok (.invokestatic 176, 3) := by decide +kernel
theorem dL_refuses_292 : decode cL_refuses 292 = .ok (.ldc2_w 17, 3) := by decide +kernel
theorem dL_refuses_295 : decode cL_refuses 295 = .ok (.lcmp, 1) := by decide +kernel
theorem dL_refuses_296 : decode cL_refuses 296 = .ok (.ifCond .ne 7, 3) := by decide +kernel
theorem dL_refuses_299 : decode cL_refuses 299 = .ok (.iconst 1, 1) := by decide +kernel
theorem dL_refuses_300 : decode cL_refuses 300 = .ok (.goto 4, 3) := by decide +kernel
theorem dL_refuses_303 : decode cL_refuses 303 = .ok (.iconst 0, 1) := by decide +kernel
theorem dL_refuses_304 : decode cL_refuses 304 = .ok (.istore 4, 2) := by decide +kernel
theorem dL_refuses_306 : decode cL_refuses 306 = .ok (.iload 4, 2) := by decide +kernel
theorem dL_refuses_308 : decode cL_refuses 308 = .ok (.ifCond .eq 269, 3) := by decide +kernel
theorem dL_refuses_311 : decode cL_refuses 311 = .ok (.aload_n 0, 1) := by decide +kernel
theorem dL_refuses_312 : decode cL_refuses 312 = .ok (.bipush 40, 2) := by decide +kernel
theorem dL_refuses_314 : decode cL_refuses 314 = .ok (.iconst 0, 1) := by decide +kernel
theorem dL_refuses_315 : decode cL_refuses 315 = .ok (.invokestatic 178, 3) := by decide +kernel
theorem dL_refuses_318 : decode cL_refuses 318 = .ok (.ldc2_w 17, 3) := by decide +kernel
theorem dL_refuses_321 : decode cL_refuses 321 = .ok (.lcmp, 1) := by decide +kernel
theorem dL_refuses_322 : decode cL_refuses 322 = .ok (.ifCond .ne 255, 3) := by decide +kernel
theorem dL_refuses_325 : decode cL_refuses 325 = .ok (.aload_n 0, 1) := by decide +kernel
theorem dL_refuses_326 : decode cL_refuses 326 = .ok (.bipush 40, 2) := by decide +kernel
theorem dL_refuses_328 : decode cL_refuses 328 = .ok (.invokestatic 180, 3) := by decide +kernel
theorem dL_refuses_331 : decode cL_refuses 331 = .ok (.ldc2_w 17, 3) := by decide +kernel
theorem dL_refuses_334 : decode cL_refuses 334 = .ok (.lcmp, 1) := by decide +kernel
theorem dL_refuses_335 : decode cL_refuses 335 = .ok (.ifCond .ne 242, 3) := by decide +kernel
theorem dL_refuses_338 : decode cL_refuses 338 = .ok (.aload_n 0, 1) := by decide +kernel
theorem dL_refuses_339 : decode cL_refuses 339 = .ok (.bipush 40, 2) := by decide +kernel
theorem dL_refuses_341 : decode cL_refuses 341 = .ok (.invokestatic 182, 3) := by decide +kernel
theorem dL_refuses_344 : decode cL_refuses 344 = .ok (.ldc2_w 17, 3) := by decide +kernel
theorem dL_refuses_347 : decode cL_refuses 347 = .ok (.lcmp, 1) := by decide +kernel
theorem dL_refuses_348 : decode cL_refuses 348 = .ok (.ifCond .ne 229, 3) := by decide +kernel
theorem dL_refuses_351 : decode cL_refuses 351 = .ok (.aload_n 0, 1) := by decide +kernel
theorem dL_refuses_352 : decode cL_refuses 352 = .ok (.iconst (-1), 1) := by decide +kernel
theorem dL_refuses_353 : decode cL_refuses 353 = .ok (.iconst 1, 1) := by decide +kernel
theorem dL_refuses_354 : decode cL_refuses 354 = .ok (.invokestatic 184, 3) := by decide +kernel
theorem dL_refuses_357 : decode cL_refuses 357 = .ok (.ldc2_w 17, 3) := by decide +kernel
theorem dL_refuses_360 : decode cL_refuses 360 = .ok (.lcmp, 1) := by decide +kernel
theorem dL_refuses_361 : decode cL_refuses 361 = .ok (.ifCond .ne 216, 3) := by decide +kernel
theorem dL_refuses_364 : decode cL_refuses 364 = .ok (.aload_n 0, 1) := by decide +kernel
theorem dL_refuses_365 : decode cL_refuses 365 = .ok (.iconst 0, 1) := by decide +kernel
theorem dL_refuses_366 : decode cL_refuses 366 = .ok (.iconst 3, 1) := by decide +kernel
theorem dL_refuses_367 : decode cL_refuses 367 = .ok (.iconst 0, 1) := by decide +kernel
theorem dL_refuses_368 : decode cL_refuses 368 = .ok (.invokestatic 187, 3) := by decide +kernel
theorem dL_refuses_371 : decode cL_refuses 371 = .ok (.ldc2_w 17, 3) := by decide +kernel
theorem dL_refuses_374 : decode cL_refuses 374 = .ok (.lcmp, 1) := by decide +kernel
theorem dL_refuses_375 : decode cL_refuses 375 = .ok (.ifCond .ne 202, 3) := by decide +kernel
theorem dL_refuses_378 : decode cL_refuses 378 = .ok (.aload_n 0, 1) := by decide +kernel
theorem dL_refuses_379 : decode cL_refuses 379 = .ok (.iconst 0, 1) := by decide +kernel
theorem dL_refuses_380 : decode cL_refuses 380 = .ok (.iconst 0, 1) := by decide +kernel
theorem dL_refuses_381 : decode cL_refuses 381 = .ok (.iconst 4, 1) := by decide +kernel
theorem dL_refuses_382 : decode cL_refuses 382 = .ok (.invokestatic 187, 3) := by decide +kernel
theorem dL_refuses_385 : decode cL_refuses 385 = .ok (.ldc2_w 17, 3) := by decide +kernel
theorem dL_refuses_388 : decode cL_refuses 388 = .ok (.lcmp, 1) := by decide +kernel
theorem dL_refuses_389 : decode cL_refuses 389 = .ok (.ifCond .ne 188, 3) := by decide +kernel
theorem dL_refuses_392 : decode cL_refuses 392 = .ok (.aload_n 0, 1) := by decide +kernel
theorem dL_refuses_393 : decode cL_refuses 393 = .ok (.iconst 3, 1) := by decide +kernel
theorem dL_refuses_394 : decode cL_refuses 394 = .ok (.invokestatic 189, 3) := by decide +kernel
theorem dL_refuses_397 : decode cL_refuses 397 = .ok (.ldc2_w 17, 3) := by decide +kernel
theorem dL_refuses_400 : decode cL_refuses 400 = .ok (.lcmp, 1) := by decide +kernel
theorem dL_refuses_401 : decode cL_refuses 401 = .ok (.ifCond .ne 176, 3) := by decide +kernel
theorem dL_refuses_404 : decode cL_refuses 404 = .ok (.aload_n 0, 1) := by decide +kernel
theorem dL_refuses_405 : decode cL_refuses 405 = .ok (.iconst 0, 1) := by decide +kernel
theorem dL_refuses_406 : decode cL_refuses 406 = .ok (.iconst 3, 1) := by decide +kernel
theorem dL_refuses_407 : decode cL_refuses 407 = .ok (.invokestatic 191, 3) := by decide +kernel
theorem dL_refuses_410 : decode cL_refuses 410 = .ok (.ldc2_w 17, 3) := by decide +kernel
theorem dL_refuses_413 : decode cL_refuses 413 = .ok (.lcmp, 1) := by decide +kernel
theorem dL_refuses_414 : decode cL_refuses 414 = .ok (.ifCond .ne 163, 3) := by decide +kernel
theorem dL_refuses_417 : decode cL_refuses 417 = .ok (.aload_n 0, 1) := by decide +kernel
theorem dL_refuses_418 : decode cL_refuses 418 = .ok (.iconst (-1), 1) := by decide +kernel
theorem dL_refuses_419 : decode cL_refuses 419 = .ok (.invokestatic 193, 3) := by decide +kernel
theorem dL_refuses_422 : decode cL_refuses 422 = .ok (.ldc2_w 17, 3) := by decide +kernel
theorem dL_refuses_425 : decode cL_refuses 425 = .ok (.lcmp, 1) := by decide +kernel
theorem dL_refuses_426 : decode cL_refuses 426 = .ok (.ifCond .ne 151, 3) := by decide +kernel
theorem dL_refuses_429 : decode cL_refuses 429 = .ok (.aload_n 0, 1) := by decide +kernel
theorem dL_refuses_430 : decode cL_refuses 430 = .ok (.iconst 0, 1) := by decide +kernel
theorem dL_refuses_431 : decode cL_refuses 431 = .ok (.invokestatic 195, 3) := by decide +kernel
theorem dL_refuses_434 : decode cL_refuses 434 = .ok (.ldc2_w 21, 3) := by decide +kernel
theorem dL_refuses_437 : decode cL_refuses 437 = .ok (.lcmp, 1) := by decide +kernel
theorem dL_refuses_438 : decode cL_refuses 438 = .ok (.ifCond .ne 139, 3) := by decide +kernel
theorem dL_refuses_441 : decode cL_refuses 441 = .ok (.aload_n 0, 1) := by decide +kernel
theorem dL_refuses_442 : decode cL_refuses 442 = .ok (.sipush 401, 3) := by decide +kernel
theorem dL_refuses_445 : decode cL_refuses 445 = .ok (.invokestatic 195, 3) := by decide +kernel
theorem dL_refuses_448 : decode cL_refuses 448 = .ok (.ldc2_w 21, 3) := by decide +kernel
theorem dL_refuses_451 : decode cL_refuses 451 = .ok (.lcmp, 1) := by decide +kernel
theorem dL_refuses_452 : decode cL_refuses 452 = .ok (.ifCond .ne 125, 3) := by decide +kernel
theorem dL_refuses_455 : decode cL_refuses 455 = .ok (.aload_n 0, 1) := by decide +kernel
theorem dL_refuses_456 : decode cL_refuses 456 = .ok (.bipush 40, 2) := by decide +kernel
theorem dL_refuses_458 : decode cL_refuses 458 = .ok (.iconst 0, 1) := by decide +kernel
theorem dL_refuses_459 : decode cL_refuses 459 = .ok (.invokestatic 197, 3) := by decide +kernel
theorem dL_refuses_462 : decode cL_refuses 462 = .ok (.ldc2_w 17, 3) := by decide +kernel
theorem dL_refuses_465 : decode cL_refuses 465 = .ok (.lcmp, 1) := by decide +kernel
theorem dL_refuses_466 : decode cL_refuses 466 = .ok (.ifCond .ne 111, 3) := by decide +kernel
theorem dL_refuses_469 : decode cL_refuses 469 = .ok (.aload_n 0, 1) := by decide +kernel
theorem dL_refuses_470 : decode cL_refuses 470 = .ok (.bipush 40, 2) := by decide +kernel
theorem dL_refuses_472 : decode cL_refuses 472 = .ok (.iconst 0, 1) := by decide +kernel
theorem dL_refuses_473 : decode cL_refuses 473 = .ok (.invokestatic 199, 3) := by decide +kernel
theorem dL_refuses_476 : decode cL_refuses 476 = .ok (.ldc2_w 17, 3) := by decide +kernel
theorem dL_refuses_479 : decode cL_refuses 479 = .ok (.lcmp, 1) := by decide +kernel
theorem dL_refuses_480 : decode cL_refuses 480 = .ok (.ifCond .ne 97, 3) := by decide +kernel
theorem dL_refuses_483 : decode cL_refuses 483 = .ok (.aload_n 0, 1) := by decide +kernel
theorem dL_refuses_484 : decode cL_refuses 484 = .ok (.iconst 0, 1) := by decide +kernel
theorem dL_refuses_485 : decode cL_refuses 485 = .ok (.invokestatic 201, 3) := by decide +kernel
theorem dL_refuses_488 : decode cL_refuses 488 = .ok (.ldc2_w 21, 3) := by decide +kernel
theorem dL_refuses_491 : decode cL_refuses 491 = .ok (.lcmp, 1) := by decide +kernel
theorem dL_refuses_492 : decode cL_refuses 492 = .ok (.ifCond .ne 85, 3) := by decide +kernel
theorem dL_refuses_495 : decode cL_refuses 495 = .ok (.aload_n 0, 1) := by decide +kernel
theorem dL_refuses_496 : decode cL_refuses 496 = .ok (.ldc 203, 2) := by decide +kernel
theorem dL_refuses_498 : decode cL_refuses 498 = .ok (.invokestatic 204, 3) := by decide +kernel
theorem dL_refuses_501 : decode cL_refuses 501 = .ok (.ldc2_w 21, 3) := by decide +kernel
theorem dL_refuses_504 : decode cL_refuses 504 = .ok (.lcmp, 1) := by decide +kernel
theorem dL_refuses_505 : decode cL_refuses 505 = .ok (.ifCond .ne 72, 3) := by decide +kernel
theorem dL_refuses_508 : decode cL_refuses 508 = .ok (.aload_n 0, 1) := by decide +kernel
theorem dL_refuses_509 : decode cL_refuses 509 = .ok (.ldc 206, 2) := by decide +kernel
theorem dL_refuses_511 : decode cL_refuses 511 = .ok (.invokestatic 204, 3) := by decide +kernel
theorem dL_refuses_514 : decode cL_refuses 514 = .ok (.ldc2_w 25, 3) := by decide +kernel
theorem dL_refuses_517 : decode cL_refuses 517 = .ok (.lcmp, 1) := by decide +kernel
theorem dL_refuses_518 : decode cL_refuses 518 = .ok (.ifCond .lt 59, 3) := by decide +kernel
theorem dL_refuses_521 : decode cL_refuses 521 = .ok (.aload_n 0, 1) := by decide +kernel
theorem dL_refuses_522 : decode cL_refuses 522 = .ok (.iconst 0, 1) := by decide +kernel
theorem dL_refuses_523 : decode cL_refuses 523 = .ok (.bipush 7, 2) := by decide +kernel
theorem dL_refuses_525 : decode cL_refuses 525 = .ok (.invokestatic 125, 3) := by decide +kernel
theorem dL_refuses_528 : decode cL_refuses 528 = .ok (.ldc2_w 21, 3) := by decide +kernel
theorem dL_refuses_531 : decode cL_refuses 531 = .ok (.lcmp, 1) := by decide +kernel
theorem dL_refuses_532 : decode cL_refuses 532 = .ok (.ifCond .ne 45, 3) := by decide +kernel
theorem dL_refuses_535 : decode cL_refuses 535 = .ok (.aload_n 0, 1) := by decide +kernel
theorem dL_refuses_536 : decode cL_refuses 536 = .ok (.iconst 0, 1) := by decide +kernel
theorem dL_refuses_537 : decode cL_refuses 537 = .ok (.iconst 3, 1) := by decide +kernel
theorem dL_refuses_538 : decode cL_refuses 538 = .ok (.invokestatic 207, 3) := by decide +kernel
theorem dL_refuses_541 : decode cL_refuses 541 = .ok (.ldc2_w 21, 3) := by decide +kernel
theorem dL_refuses_544 : decode cL_refuses 544 = .ok (.lcmp, 1) := by decide +kernel
theorem dL_refuses_545 : decode cL_refuses 545 = .ok (.ifCond .ne 32, 3) := by decide +kernel
theorem dL_refuses_548 : decode cL_refuses 548 = .ok (.aload_n 0, 1) := by decide +kernel
theorem dL_refuses_549 : decode cL_refuses 549 = .ok (.iconst 0, 1) := by decide +kernel
theorem dL_refuses_550 : decode cL_refuses 550 = .ok (.iconst 4, 1) := by decide +kernel
theorem dL_refuses_551 : decode cL_refuses 551 = .ok (.invokestatic 134, 3) := by decide +kernel
theorem dL_refuses_554 : decode cL_refuses 554 = .ok (.ldc2_w 17, 3) := by decide +kernel
theorem dL_refuses_557 : decode cL_refuses 557 = .ok (.lcmp, 1) := by decide +kernel
theorem dL_refuses_558 : decode cL_refuses 558 = .ok (.ifCond .ne 19, 3) := by decide +kernel
theorem dL_refuses_561 : decode cL_refuses 561 = .ok (.aload_n 0, 1) := by decide +kernel
theorem dL_refuses_562 : decode cL_refuses 562 = .ok (.iconst 4, 1) := by decide +kernel
theorem dL_refuses_563 : decode cL_refuses 563 = .ok (.invokestatic 143, 3) := by decide +kernel
theorem dL_refuses_566 : decode cL_refuses 566 = .ok (.ldc2_w 21, 3) := by decide +kernel
theorem dL_refuses_569 : decode cL_refuses 569 = .ok (.lcmp, 1) := by decide +kernel
theorem dL_refuses_570 : decode cL_refuses 570 = .ok (.ifCond .ne 7, 3) := by decide +kernel
theorem dL_refuses_573 : decode cL_refuses 573 = .ok (.iconst 1, 1) := by decide +kernel
theorem dL_refuses_574 : decode cL_refuses 574 = .ok (.goto 4, 3) := by decide +kernel
theorem dL_refuses_577 : decode cL_refuses 577 = .ok (.iconst 0, 1) := by decide +kernel
theorem dL_refuses_578 : decode cL_refuses 578 = .ok (.istore 4, 2) := by decide +kernel
theorem dL_refuses_580 : decode cL_refuses 580 = .ok (.iload 4, 2) := by decide +kernel
theorem dL_refuses_582 : decode cL_refuses 582 = .ok (.ifCond .eq 39, 3) := by decide +kernel
theorem dL_refuses_585 : decode cL_refuses 585 = .ok (.aload_n 0, 1) := by decide +kernel
theorem dL_refuses_586 : decode cL_refuses 586 = .ok (.invokevirtual 149, 3) := by decide +kernel
theorem dL_refuses_589 : decode cL_refuses 589 = .ok (.iload_n 1, 1) := by decide +kernel
theorem dL_refuses_590 : decode cL_refuses 590 = .ok (.if_icmp .ne 31, 3) := by decide +kernel
theorem dL_refuses_593 : decode cL_refuses 593 = .ok (.aload_n 0, 1) := by decide +kernel
theorem dL_refuses_594 : decode cL_refuses 594 = .ok (.iconst 0, 1) := by decide +kernel
theorem dL_refuses_595 : decode cL_refuses 595 = .ok (.invokestatic 143, 3) := by decide +kernel
theorem dL_refuses_598 : decode cL_refuses 598 = .ok (.lload_n 2, 1) := by decide +kernel
theorem dL_refuses_599 : decode cL_refuses 599 = .ok (.lcmp, 1) := by decide +kernel
theorem dL_refuses_600 : decode cL_refuses 600 = .ok (.ifCond .eq 17, 3) := by decide +kernel
theorem dL_refuses_603 : decode cL_refuses 603 = .ok (.aload_n 0, 1) := by decide +kernel
theorem dL_refuses_604 : decode cL_refuses 604 = .ok (.iconst 0, 1) := by decide +kernel
theorem dL_refuses_605 : decode cL_refuses 605 = .ok (.invokestatic 143, 3) := by decide +kernel
theorem dL_refuses_608 : decode cL_refuses 608 = .ok (.lload_n 2, 1) := by decide +kernel
theorem dL_refuses_609 : decode cL_refuses 609 = .ok (.ldc2_w 209, 3) := by decide +kernel
theorem dL_refuses_612 : decode cL_refuses 612 = .ok (.lsub, 1) := by decide +kernel
theorem dL_refuses_613 : decode cL_refuses 613 = .ok (.lcmp, 1) := by decide +kernel
theorem dL_refuses_614 : decode cL_refuses 614 = .ok (.ifCond .ne 7, 3) := by decide +kernel
theorem dL_refuses_617 : decode cL_refuses 617 = .ok (.iconst 1, 1) := by decide +kernel
theorem dL_refuses_618 : decode cL_refuses 618 = .ok (.goto 4, 3) := by decide +kernel
theorem dL_refuses_621 : decode cL_refuses 621 = .ok (.iconst 0, 1) := by decide +kernel
theorem dL_refuses_622 : decode cL_refuses 622 = .ok (.ireturn, 1) := by decide +kernel
