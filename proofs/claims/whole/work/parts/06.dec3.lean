theorem dX8_init_0 : decode cX8_init 0 = .ok (.aload_n 0, 1) := by decide +kernel
theorem dX8_init_1 : decode cX8_init 1 = .ok (.invokespecial 3, 3) := by decide +kernel
theorem dX8_init_4 : decode cX8_init 4 = .ok (.aload_n 0, 1) := by decide +kernel
theorem dX8_init_5 : decode cX8_init 5 = .ok (.new 9, 3) := by decide +kernel
theorem dX8_init_8 : decode cX8_init 8 = .ok (.dup, 1) := by decide +kernel
theorem dX8_init_9 : decode cX8_init 9 = .ok (.invokespecial 11, 3) := by decide +kernel
theorem dX8_init_12 : decode cX8_init 12 = .ok (.putfield 12, 3) := by decide +kernel
theorem dX8_init_15 : decode cX8_init 15 = .ok (.aload_n 0, 1) := by decide +kernel
theorem dX8_init_16 : decode cX8_init 16 = .ok (.ldc2_w 18, 3) := by decide +kernel
theorem dX8_init_19 : decode cX8_init 19 = .ok (.putfield 20, 3) := by decide +kernel
theorem dX8_init_22 : decode cX8_init 22 = .ok (.aload_n 0, 1) := by decide +kernel
theorem dX8_init_23 : decode cX8_init 23 = .ok (.fconst 1, 1) := by decide +kernel
theorem dX8_init_24 : decode cX8_init 24 = .ok (.putfield 24, 3) := by decide +kernel
theorem dX8_init_27 : decode cX8_init 27 = .ok (.aload_n 0, 1) := by decide +kernel
theorem dX8_init_28 : decode cX8_init 28 = .ok (.iconst 3, 1) := by decide +kernel
theorem dX8_init_29 : decode cX8_init 29 = .ok (.newarray .double, 2) := by decide +kernel
theorem dX8_init_31 : decode cX8_init 31 = .ok (.putfield 28, 3) := by decide +kernel
theorem dX8_init_34 : decode cX8_init 34 = .ok (.return_, 1) := by decide +kernel
theorem dX8_copy_0 : decode cX8_copy 0 = .ok (.new 13, 3) := by decide +kernel
theorem dX8_copy_3 : decode cX8_copy 3 = .ok (.dup, 1) := by decide +kernel
theorem dX8_copy_4 : decode cX8_copy 4 = .ok (.invokespecial 32, 3) := by decide +kernel
theorem dX8_copy_7 : decode cX8_copy 7 = .ok (.astore_n 1, 1) := by decide +kernel
theorem dX8_copy_8 : decode cX8_copy 8 = .ok (.aload_n 1, 1) := by decide +kernel
theorem dX8_copy_9 : decode cX8_copy 9 = .ok (.getfield 12, 3) := by decide +kernel
theorem dX8_copy_12 : decode cX8_copy 12 = .ok (.aload_n 0, 1) := by decide +kernel
theorem dX8_copy_13 : decode cX8_copy 13 = .ok (.getfield 12, 3) := by decide +kernel
theorem dX8_copy_16 : decode cX8_copy 16 = .ok (.invokevirtual 33, 3) := by decide +kernel
theorem dX8_copy_19 : decode cX8_copy 19 = .ok (.pop, 1) := by decide +kernel
theorem dX8_copy_20 : decode cX8_copy 20 = .ok (.aload_n 1, 1) := by decide +kernel
theorem dX8_copy_21 : decode cX8_copy 21 = .ok (.aload_n 0, 1) := by decide +kernel
theorem dX8_copy_22 : decode cX8_copy 22 = .ok (.getfield 20, 3) := by decide +kernel
theorem dX8_copy_25 : decode cX8_copy 25 = .ok (.putfield 20, 3) := by decide +kernel
theorem dX8_copy_28 : decode cX8_copy 28 = .ok (.aload_n 1, 1) := by decide +kernel
theorem dX8_copy_29 : decode cX8_copy 29 = .ok (.aload_n 0, 1) := by decide +kernel
theorem dX8_copy_30 : decode cX8_copy 30 = .ok (.getfield 24, 3) := by decide +kernel
theorem dX8_copy_33 : decode cX8_copy 33 = .ok (.putfield 24, 3) := by decide +kernel
theorem dX8_copy_36 : decode cX8_copy 36 = .ok (.aload_n 1, 1) := by decide +kernel
theorem dX8_copy_37 : decode cX8_copy 37 = .ok (.aload_n 0, 1) := by decide +kernel
theorem dX8_copy_38 : decode cX8_copy 38 = .ok (.getfield 37, 3) := by decide +kernel
theorem dX8_copy_41 : decode cX8_copy 41 = .ok (.putfield 37, 3) := by decide +kernel
theorem dX8_copy_44 : decode cX8_copy 44 = .ok (.aload_n 1, 1) := by decide +kernel
theorem dX8_copy_45 : decode cX8_copy 45 = .ok (.aload_n 0, 1) := by decide +kernel
theorem dX8_copy_46 : decode cX8_copy 46 = .ok (.getfield 41, 3) := by decide +kernel
theorem dX8_copy_49 : decode cX8_copy 49 = .ok (.putfield 41, 3) := by decide +kernel
theorem dX8_copy_52 : decode cX8_copy 52 = .ok (.aload_n 1, 1) := by decide +kernel
theorem dX8_copy_53 : decode cX8_copy 53 = .ok (.aload_n 0, 1) := by decide +kernel
theorem dX8_copy_54 : decode cX8_copy 54 = .ok (.getfield 44, 3) := by decide +kernel
theorem dX8_copy_57 : decode cX8_copy 57 = .ok (.putfield 44, 3) := by decide +kernel
theorem dX8_copy_60 : decode cX8_copy 60 = .ok (.aload_n 1, 1) := by decide +kernel
theorem dX8_copy_61 : decode cX8_copy 61 = .ok (.aload_n 0, 1) := by decide +kernel
theorem dX8_copy_62 : decode cX8_copy 62 = .ok (.getfield 48, 3) := by decide +kernel
theorem dX8_copy_65 : decode cX8_copy 65 = .ok (.putfield 48, 3) := by decide +kernel
theorem dX8_copy_68 : decode cX8_copy 68 = .ok (.aload_n 1, 1) := by decide +kernel
theorem dX8_copy_69 : decode cX8_copy 69 = .ok (.aload_n 0, 1) := by decide +kernel
theorem dX8_copy_70 : decode cX8_copy 70 = .ok (.getfield 51, 3) := by decide +kernel
theorem dX8_copy_73 : decode cX8_copy 73 = .ok (.putfield 51, 3) := by decide +kernel
theorem dX8_copy_76 : decode cX8_copy 76 = .ok (.aload_n 0, 1) := by decide +kernel
theorem dX8_copy_77 : decode cX8_copy 77 = .ok (.getfield 28, 3) := by decide +kernel
theorem dX8_copy_80 : decode cX8_copy 80 = .ok (.iconst 0, 1) := by decide +kernel
theorem dX8_copy_81 : decode cX8_copy 81 = .ok (.aload_n 1, 1) := by decide +kernel
theorem dX8_copy_82 : decode cX8_copy 82 = .ok (.getfield 28, 3) := by decide +kernel
theorem dX8_copy_85 : decode cX8_copy 85 = .ok (.iconst 0, 1) := by decide +kernel
theorem dX8_copy_86 : decode cX8_copy 86 = .ok (.iconst 3, 1) := by decide +kernel
theorem dX8_copy_87 : decode cX8_copy 87 = .ok (.invokestatic 54, 3) := by decide +kernel
theorem dX8_copy_90 : decode cX8_copy 90 = .ok (.aload_n 1, 1) := by decide +kernel
theorem dX8_copy_91 : decode cX8_copy 91 = .ok (.areturn, 1) := by decide +kernel
theorem dX8_gives_0 : decode cX8_gives 0 = .ok (.aload_n 0, 1) := by decide +kernel
theorem dX8_gives_1 : decode cX8_gives 1 = .ok (.getfield 24, 3) := by decide +kernel
theorem dX8_gives_4 : decode cX8_gives 4 = .ok (.f2d, 1) := by decide +kernel
theorem dX8_gives_5 : decode cX8_gives 5 = .ok (.ldc2_w 60, 3) := by decide +kernel
theorem dX8_gives_8 : decode cX8_gives 8 = .ok (.dmul, 1) := by decide +kernel
theorem dX8_gives_9 : decode cX8_gives 9 = .ok (.aload_n 0, 1) := by decide +kernel
theorem dX8_gives_10 : decode cX8_gives 10 = .ok (.getfield 20, 3) := by decide +kernel
theorem dX8_gives_13 : decode cX8_gives 13 = .ok (.ldc2_w 18, 3) := by decide +kernel
theorem dX8_gives_16 : decode cX8_gives 16 = .ok (.dsub, 1) := by decide +kernel
theorem dX8_gives_17 : decode cX8_gives 17 = .ok (.ldc2_w 62, 3) := by decide +kernel
theorem dX8_gives_20 : decode cX8_gives 20 = .ok (.ddiv, 1) := by decide +kernel
theorem dX8_gives_21 : decode cX8_gives 21 = .ok (.dsub, 1) := by decide +kernel
theorem dX8_gives_22 : decode cX8_gives 22 = .ok (.aload_n 0, 1) := by decide +kernel
theorem dX8_gives_23 : decode cX8_gives 23 = .ok (.getfield 37, 3) := by decide +kernel
theorem dX8_gives_26 : decode cX8_gives 26 = .ok (.ifCond .eq 9, 3) := by decide +kernel
theorem dX8_gives_29 : decode cX8_gives 29 = .ok (.ldc2_w 64, 3) := by decide +kernel
theorem dX8_gives_32 : decode cX8_gives 32 = .ok (.goto 4, 3) := by decide +kernel
theorem dX8_gives_35 : decode cX8_gives 35 = .ok (.dconst 0, 1) := by decide +kernel
theorem dX8_gives_36 : decode cX8_gives 36 = .ok (.dsub, 1) := by decide +kernel
theorem dX8_gives_37 : decode cX8_gives 37 = .ok (.dreturn, 1) := by decide +kernel
theorem dX8_step_0 : decode cX8_step 0 = .ok (.aload_n 0, 1) := by decide +kernel
theorem dX8_step_1 : decode cX8_step 1 = .ok (.getfield 41, 3) := by decide +kernel
theorem dX8_step_4 : decode cX8_step 4 = .ok (.ifCond .eq 92, 3) := by decide +kernel
theorem dX8_step_7 : decode cX8_step 7 = .ok (.aload_n 0, 1) := by decide +kernel
theorem dX8_step_8 : decode cX8_step 8 = .ok (.getfield 20, 3) := by decide +kernel
theorem dX8_step_11 : decode cX8_step 11 = .ok (.aload_n 0, 1) := by decide +kernel
theorem dX8_step_12 : decode cX8_step 12 = .ok (.getfield 12, 3) := by decide +kernel
theorem dX8_step_15 : decode cX8_step 15 = .ok (.aload_n 0, 1) := by decide +kernel
theorem dX8_step_16 : decode cX8_step 16 = .ok (.getfield 44, 3) := by decide +kernel
theorem dX8_step_19 : decode cX8_step 19 = .ok (.invokevirtual 66, 3) := by decide +kernel
theorem dX8_step_22 : decode cX8_step 22 = .ok (.checkcast 70, 3) := by decide +kernel
theorem dX8_step_25 : decode cX8_step 25 = .ok (.iconst 1, 1) := by decide +kernel
theorem dX8_step_26 : decode cX8_step 26 = .ok (.iaload, 1) := by decide +kernel
theorem dX8_step_27 : decode cX8_step 27 = .ok (.i2d, 1) := by decide +kernel
theorem dX8_step_28 : decode cX8_step 28 = .ok (.dcmp .l, 1) := by decide +kernel
theorem dX8_step_29 : decode cX8_step 29 = .ok (.ifCond .ne 67, 3) := by decide +kernel
theorem dX8_step_32 : decode cX8_step 32 = .ok (.aload_n 0, 1) := by decide +kernel
theorem dX8_step_33 : decode cX8_step 33 = .ok (.getfield 48, 3) := by decide +kernel
theorem dX8_step_36 : decode cX8_step 36 = .ok (.aload_n 0, 1) := by decide +kernel
theorem dX8_step_37 : decode cX8_step 37 = .ok (.getfield 12, 3) := by decide +kernel
theorem dX8_step_40 : decode cX8_step 40 = .ok (.aload_n 0, 1) := by decide +kernel
theorem dX8_step_41 : decode cX8_step 41 = .ok (.getfield 44, 3) := by decide +kernel
theorem dX8_step_44 : decode cX8_step 44 = .ok (.invokevirtual 66, 3) := by decide +kernel
theorem dX8_step_47 : decode cX8_step 47 = .ok (.checkcast 70, 3) := by decide +kernel
theorem dX8_step_50 : decode cX8_step 50 = .ok (.iconst 2, 1) := by decide +kernel
theorem dX8_step_51 : decode cX8_step 51 = .ok (.iaload, 1) := by decide +kernel
theorem dX8_step_52 : decode cX8_step 52 = .ok (.if_icmp .ne 44, 3) := by decide +kernel
theorem dX8_step_55 : decode cX8_step 55 = .ok (.aload_n 0, 1) := by decide +kernel
theorem dX8_step_56 : decode cX8_step 56 = .ok (.dup, 1) := by decide +kernel
theorem dX8_step_57 : decode cX8_step 57 = .ok (.getfield 44, 3) := by decide +kernel
theorem dX8_step_60 : decode cX8_step 60 = .ok (.iconst 1, 1) := by decide +kernel
theorem dX8_step_61 : decode cX8_step 61 = .ok (.iadd, 1) := by decide +kernel
theorem dX8_step_62 : decode cX8_step 62 = .ok (.putfield 44, 3) := by decide +kernel
theorem dX8_step_65 : decode cX8_step 65 = .ok (.aload_n 0, 1) := by decide +kernel
theorem dX8_step_66 : decode cX8_step 66 = .ok (.iconst 0, 1) := by decide +kernel
theorem dX8_step_67 : decode cX8_step 67 = .ok (.putfield 48, 3) := by decide +kernel
theorem dX8_step_70 : decode cX8_step 70 = .ok (.aload_n 0, 1) := by decide +kernel
theorem dX8_step_71 : decode cX8_step 71 = .ok (.aload_n 0, 1) := by decide +kernel
theorem dX8_step_72 : decode cX8_step 72 = .ok (.getfield 44, 3) := by decide +kernel
theorem dX8_step_75 : decode cX8_step 75 = .ok (.aload_n 0, 1) := by decide +kernel
theorem dX8_step_76 : decode cX8_step 76 = .ok (.getfield 12, 3) := by decide +kernel
theorem dX8_step_79 : decode cX8_step 79 = .ok (.invokevirtual 72, 3) := by decide +kernel
theorem dX8_step_82 : decode cX8_step 82 = .ok (.if_icmp .ge 7, 3) := by decide +kernel
theorem dX8_step_85 : decode cX8_step 85 = .ok (.iconst 1, 1) := by decide +kernel
theorem dX8_step_86 : decode cX8_step 86 = .ok (.goto 4, 3) := by decide +kernel
theorem dX8_step_89 : decode cX8_step 89 = .ok (.iconst 0, 1) := by decide +kernel
theorem dX8_step_90 : decode cX8_step 90 = .ok (.putfield 41, 3) := by decide +kernel
theorem dX8_step_93 : decode cX8_step 93 = .ok (.goto (-93), 3) := by decide +kernel
theorem dX8_step_96 : decode cX8_step 96 = .ok (.aload_n 0, 1) := by decide +kernel
theorem dX8_step_97 : decode cX8_step 97 = .ok (.getfield 41, 3) := by decide +kernel
theorem dX8_step_100 : decode cX8_step 100 = .ok (.ifCond .eq 73, 3) := by decide +kernel
theorem dX8_step_103 : decode cX8_step 103 = .ok (.aload_n 0, 1) := by decide +kernel
theorem dX8_step_104 : decode cX8_step 104 = .ok (.dup, 1) := by decide +kernel
theorem dX8_step_105 : decode cX8_step 105 = .ok (.getfield 76, 3) := by decide +kernel
theorem dX8_step_108 : decode cX8_step 108 = .ok (.aload_n 0, 1) := by decide +kernel
theorem dX8_step_109 : decode cX8_step 109 = .ok (.getfield 51, 3) := by decide +kernel
theorem dX8_step_112 : decode cX8_step 112 = .ok (.bipush 96, 2) := by decide +kernel
theorem dX8_step_114 : decode cX8_step 114 = .ok (.irem, 1) := by decide +kernel
theorem dX8_step_115 : decode cX8_step 115 = .ok (.bipush 32, 2) := by decide +kernel
theorem dX8_step_117 : decode cX8_step 117 = .ok (.bipush 79, 2) := by decide +kernel
theorem dX8_step_119 : decode cX8_step 119 = .ok (.invokestatic 79, 3) := by decide +kernel
theorem dX8_step_122 : decode cX8_step 122 = .ok (.ifCond .eq 7, 3) := by decide +kernel
theorem dX8_step_125 : decode cX8_step 125 = .ok (.iconst 2, 1) := by decide +kernel
theorem dX8_step_126 : decode cX8_step 126 = .ok (.goto 4, 3) := by decide +kernel
theorem dX8_step_129 : decode cX8_step 129 = .ok (.iconst 1, 1) := by decide +kernel
theorem dX8_step_130 : decode cX8_step 130 = .ok (.iadd, 1) := by decide +kernel
theorem dX8_step_131 : decode cX8_step 131 = .ok (.putfield 76, 3) := by decide +kernel
theorem dX8_step_134 : decode cX8_step 134 = .ok (.aload_n 0, 1) := by decide +kernel
theorem dX8_step_135 : decode cX8_step 135 = .ok (.aload_n 0, 1) := by decide +kernel
theorem dX8_step_136 : decode cX8_step 136 = .ok (.getfield 12, 3) := by decide +kernel
theorem dX8_step_139 : decode cX8_step 139 = .ok (.aload_n 0, 1) := by decide +kernel
theorem dX8_step_140 : decode cX8_step 140 = .ok (.getfield 44, 3) := by decide +kernel
theorem dX8_step_143 : decode cX8_step 143 = .ok (.invokevirtual 66, 3) := by decide +kernel
theorem dX8_step_146 : decode cX8_step 146 = .ok (.checkcast 70, 3) := by decide +kernel
theorem dX8_step_149 : decode cX8_step 149 = .ok (.iconst 0, 1) := by decide +kernel
theorem dX8_step_150 : decode cX8_step 150 = .ok (.iaload, 1) := by decide +kernel
theorem dX8_step_151 : decode cX8_step 151 = .ok (.aload_n 0, 1) := by decide +kernel
theorem dX8_step_152 : decode cX8_step 152 = .ok (.getfield 12, 3) := by decide +kernel
theorem dX8_step_155 : decode cX8_step 155 = .ok (.aload_n 0, 1) := by decide +kernel
theorem dX8_step_156 : decode cX8_step 156 = .ok (.getfield 44, 3) := by decide +kernel
theorem dX8_step_159 : decode cX8_step 159 = .ok (.invokevirtual 66, 3) := by decide +kernel
theorem dX8_step_162 : decode cX8_step 162 = .ok (.checkcast 70, 3) := by decide +kernel
theorem dX8_step_165 : decode cX8_step 165 = .ok (.iconst 1, 1) := by decide +kernel
theorem dX8_step_166 : decode cX8_step 166 = .ok (.iaload, 1) := by decide +kernel
theorem dX8_step_167 : decode cX8_step 167 = .ok (.invokevirtual 83, 3) := by decide +kernel
theorem dX8_step_170 : decode cX8_step 170 = .ok (.goto 37, 3) := by decide +kernel
theorem dX8_step_173 : decode cX8_step 173 = .ok (.aload_n 0, 1) := by decide +kernel
theorem dX8_step_174 : decode cX8_step 174 = .ok (.dup, 1) := by decide +kernel
theorem dX8_step_175 : decode cX8_step 175 = .ok (.getfield 20, 3) := by decide +kernel
theorem dX8_step_178 : decode cX8_step 178 = .ok (.aload_n 0, 1) := by decide +kernel
theorem dX8_step_179 : decode cX8_step 179 = .ok (.getfield 20, 3) := by decide +kernel
theorem dX8_step_182 : decode cX8_step 182 = .ok (.ldc2_w 18, 3) := by decide +kernel
theorem dX8_step_185 : decode cX8_step 185 = .ok (.dsub, 1) := by decide +kernel
theorem dX8_step_186 : decode cX8_step 186 = .ok (.aload_n 0, 1) := by decide +kernel
theorem dX8_step_187 : decode cX8_step 187 = .ok (.getfield 37, 3) := by decide +kernel
theorem dX8_step_190 : decode cX8_step 190 = .ok (.ifCond .eq 9, 3) := by decide +kernel
theorem dX8_step_193 : decode cX8_step 193 = .ok (.ldc2_w 87, 3) := by decide +kernel
theorem dX8_step_196 : decode cX8_step 196 = .ok (.goto 6, 3) := by decide +kernel
theorem dX8_step_199 : decode cX8_step 199 = .ok (.ldc2_w 89, 3) := by decide +kernel
theorem dX8_step_202 : decode cX8_step 202 = .ok (.ddiv, 1) := by decide +kernel
theorem dX8_step_203 : decode cX8_step 203 = .ok (.dsub, 1) := by decide +kernel
theorem dX8_step_204 : decode cX8_step 204 = .ok (.putfield 20, 3) := by decide +kernel
theorem dX8_step_207 : decode cX8_step 207 = .ok (.iconst 0, 1) := by decide +kernel
theorem dX8_step_208 : decode cX8_step 208 = .ok (.istore_n 1, 1) := by decide +kernel
theorem dX8_step_209 : decode cX8_step 209 = .ok (.iload_n 1, 1) := by decide +kernel
theorem dX8_step_210 : decode cX8_step 210 = .ok (.iconst 3, 1) := by decide +kernel
theorem dX8_step_211 : decode cX8_step 211 = .ok (.if_icmp .ge 40, 3) := by decide +kernel
theorem dX8_step_214 : decode cX8_step 214 = .ok (.aload_n 0, 1) := by decide +kernel
theorem dX8_step_215 : decode cX8_step 215 = .ok (.getfield 28, 3) := by decide +kernel
theorem dX8_step_218 : decode cX8_step 218 = .ok (.iload_n 1, 1) := by decide +kernel
theorem dX8_step_219 : decode cX8_step 219 = .ok (.dup2, 1) := by decide +kernel
theorem dX8_step_220 : decode cX8_step 220 = .ok (.daload, 1) := by decide +kernel
theorem dX8_step_221 : decode cX8_step 221 = .ok (.dconst 0, 1) := by decide +kernel
theorem dX8_step_222 : decode cX8_step 222 = .ok (.aload_n 0, 1) := by decide +kernel
theorem dX8_step_223 : decode cX8_step 223 = .ok (.getfield 20, 3) := by decide +kernel
theorem dX8_step_226 : decode cX8_step 226 = .ok (.getstatic 91, 3) := by decide +kernel
theorem dX8_step_229 : decode cX8_step 229 = .ok (.iload_n 1, 1) := by decide +kernel
theorem dX8_step_230 : decode cX8_step 230 = .ok (.daload, 1) := by decide +kernel
theorem dX8_step_231 : decode cX8_step 231 = .ok (.dadd, 1) := by decide +kernel
theorem dX8_step_232 : decode cX8_step 232 = .ok (.ldc2_w 94, 3) := by decide +kernel
theorem dX8_step_235 : decode cX8_step 235 = .ok (.dsub, 1) := by decide +kernel
theorem dX8_step_236 : decode cX8_step 236 = .ok (.invokestatic 96, 3) := by decide +kernel
theorem dX8_step_239 : decode cX8_step 239 = .ok (.ldc2_w 102, 3) := by decide +kernel
theorem dX8_step_242 : decode cX8_step 242 = .ok (.ddiv, 1) := by decide +kernel
theorem dX8_step_243 : decode cX8_step 243 = .ok (.dadd, 1) := by decide +kernel
theorem dX8_step_244 : decode cX8_step 244 = .ok (.dastore, 1) := by decide +kernel
theorem dX8_step_245 : decode cX8_step 245 = .ok (.iinc 1 1, 3) := by decide +kernel
theorem dX8_step_248 : decode cX8_step 248 = .ok (.goto (-39), 3) := by decide +kernel
theorem dX8_step_251 : decode cX8_step 251 = .ok (.aload_n 0, 1) := by decide +kernel
theorem dX8_step_252 : decode cX8_step 252 = .ok (.dup, 1) := by decide +kernel
theorem dX8_step_253 : decode cX8_step 253 = .ok (.getfield 51, 3) := by decide +kernel
theorem dX8_step_256 : decode cX8_step 256 = .ok (.iconst 1, 1) := by decide +kernel
theorem dX8_step_257 : decode cX8_step 257 = .ok (.iadd, 1) := by decide +kernel
theorem dX8_step_258 : decode cX8_step 258 = .ok (.putfield 51, 3) := by decide +kernel
theorem dX8_step_261 : decode cX8_step 261 = .ok (.return_, 1) := by decide +kernel
theorem dX8_lit_0 : decode cX8_lit 0 = .ok (.aload_n 0, 1) := by decide +kernel
theorem dX8_lit_1 : decode cX8_lit 1 = .ok (.getfield 20, 3) := by decide +kernel
theorem dX8_lit_4 : decode cX8_lit 4 = .ok (.iload_n 2, 1) := by decide +kernel
theorem dX8_lit_5 : decode cX8_lit 5 = .ok (.i2d, 1) := by decide +kernel
theorem dX8_lit_6 : decode cX8_lit 6 = .ok (.dcmp .l, 1) := by decide +kernel
theorem dX8_lit_7 : decode cX8_lit 7 = .ok (.ifCond .ne 16, 3) := by decide +kernel
theorem dX8_lit_10 : decode cX8_lit 10 = .ok (.aload_n 0, 1) := by decide +kernel
theorem dX8_lit_11 : decode cX8_lit 11 = .ok (.dup, 1) := by decide +kernel
theorem dX8_lit_12 : decode cX8_lit 12 = .ok (.getfield 48, 3) := by decide +kernel
theorem dX8_lit_15 : decode cX8_lit 15 = .ok (.iconst 1, 1) := by decide +kernel
theorem dX8_lit_16 : decode cX8_lit 16 = .ok (.iadd, 1) := by decide +kernel
theorem dX8_lit_17 : decode cX8_lit 17 = .ok (.putfield 48, 3) := by decide +kernel
theorem dX8_lit_20 : decode cX8_lit 20 = .ok (.goto 97, 3) := by decide +kernel
theorem dX8_lit_23 : decode cX8_lit 23 = .ok (.aload_n 0, 1) := by decide +kernel
theorem dX8_lit_24 : decode cX8_lit 24 = .ok (.getfield 20, 3) := by decide +kernel
theorem dX8_lit_27 : decode cX8_lit 27 = .ok (.iload_n 2, 1) := by decide +kernel
theorem dX8_lit_28 : decode cX8_lit 28 = .ok (.i2d, 1) := by decide +kernel
theorem dX8_lit_29 : decode cX8_lit 29 = .ok (.dcmp .l, 1) := by decide +kernel
theorem dX8_lit_30 : decode cX8_lit 30 = .ok (.ifCond .le 37, 3) := by decide +kernel
theorem dX8_lit_33 : decode cX8_lit 33 = .ok (.aload_n 0, 1) := by decide +kernel
theorem dX8_lit_34 : decode cX8_lit 34 = .ok (.iload_n 2, 1) := by decide +kernel
theorem dX8_lit_35 : decode cX8_lit 35 = .ok (.i2d, 1) := by decide +kernel
theorem dX8_lit_36 : decode cX8_lit 36 = .ok (.aload_n 0, 1) := by decide +kernel
theorem dX8_lit_37 : decode cX8_lit 37 = .ok (.getfield 20, 3) := by decide +kernel
theorem dX8_lit_40 : decode cX8_lit 40 = .ok (.iload_n 1, 1) := by decide +kernel
theorem dX8_lit_41 : decode cX8_lit 41 = .ok (.i2d, 1) := by decide +kernel
theorem dX8_lit_42 : decode cX8_lit 42 = .ok (.aload_n 0, 1) := by decide +kernel
theorem dX8_lit_43 : decode cX8_lit 43 = .ok (.getfield 20, 3) := by decide +kernel
theorem dX8_lit_46 : decode cX8_lit 46 = .ok (.ldc2_w 18, 3) := by decide +kernel
theorem dX8_lit_49 : decode cX8_lit 49 = .ok (.dsub, 1) := by decide +kernel
theorem dX8_lit_50 : decode cX8_lit 50 = .ok (.ldc2_w 89, 3) := by decide +kernel
theorem dX8_lit_53 : decode cX8_lit 53 = .ok (.ddiv, 1) := by decide +kernel
theorem dX8_lit_54 : decode cX8_lit 54 = .ok (.invokestatic 104, 3) := by decide +kernel
theorem dX8_lit_57 : decode cX8_lit 57 = .ok (.dsub, 1) := by decide +kernel
theorem dX8_lit_58 : decode cX8_lit 58 = .ok (.invokestatic 96, 3) := by decide +kernel
theorem dX8_lit_61 : decode cX8_lit 61 = .ok (.putfield 20, 3) := by decide +kernel
theorem dX8_lit_64 : decode cX8_lit 64 = .ok (.goto 53, 3) := by decide +kernel
theorem dX8_lit_67 : decode cX8_lit 67 = .ok (.aload_n 0, 1) := by decide +kernel
theorem dX8_lit_68 : decode cX8_lit 68 = .ok (.invokevirtual 107, 3) := by decide +kernel
theorem dX8_lit_71 : decode cX8_lit 71 = .ok (.dconst 1, 1) := by decide +kernel
theorem dX8_lit_72 : decode cX8_lit 72 = .ok (.dcmp .g, 1) := by decide +kernel
theorem dX8_lit_73 : decode cX8_lit 73 = .ok (.ifCond .ge 21, 3) := by decide +kernel
theorem dX8_lit_76 : decode cX8_lit 76 = .ok (.aload_n 0, 1) := by decide +kernel
theorem dX8_lit_77 : decode cX8_lit 77 = .ok (.iconst 0, 1) := by decide +kernel
theorem dX8_lit_78 : decode cX8_lit 78 = .ok (.putfield 41, 3) := by decide +kernel
theorem dX8_lit_81 : decode cX8_lit 81 = .ok (.aload_n 0, 1) := by decide +kernel
theorem dX8_lit_82 : decode cX8_lit 82 = .ok (.dup, 1) := by decide +kernel
theorem dX8_lit_83 : decode cX8_lit 83 = .ok (.getfield 111, 3) := by decide +kernel
theorem dX8_lit_86 : decode cX8_lit 86 = .ok (.iconst 1, 1) := by decide +kernel
theorem dX8_lit_87 : decode cX8_lit 87 = .ok (.iadd, 1) := by decide +kernel
theorem dX8_lit_88 : decode cX8_lit 88 = .ok (.putfield 111, 3) := by decide +kernel
theorem dX8_lit_91 : decode cX8_lit 91 = .ok (.goto 26, 3) := by decide +kernel
theorem dX8_lit_94 : decode cX8_lit 94 = .ok (.aload_n 0, 1) := by decide +kernel
theorem dX8_lit_95 : decode cX8_lit 95 = .ok (.iload_n 2, 1) := by decide +kernel
theorem dX8_lit_96 : decode cX8_lit 96 = .ok (.i2d, 1) := by decide +kernel
theorem dX8_lit_97 : decode cX8_lit 97 = .ok (.aload_n 0, 1) := by decide +kernel
theorem dX8_lit_98 : decode cX8_lit 98 = .ok (.getfield 20, 3) := by decide +kernel
theorem dX8_lit_101 : decode cX8_lit 101 = .ok (.iload_n 1, 1) := by decide +kernel
theorem dX8_lit_102 : decode cX8_lit 102 = .ok (.i2d, 1) := by decide +kernel
theorem dX8_lit_103 : decode cX8_lit 103 = .ok (.aload_n 0, 1) := by decide +kernel
theorem dX8_lit_104 : decode cX8_lit 104 = .ok (.invokevirtual 107, 3) := by decide +kernel
theorem dX8_lit_107 : decode cX8_lit 107 = .ok (.invokestatic 104, 3) := by decide +kernel
theorem dX8_lit_110 : decode cX8_lit 110 = .ok (.dadd, 1) := by decide +kernel
theorem dX8_lit_111 : decode cX8_lit 111 = .ok (.invokestatic 104, 3) := by decide +kernel
theorem dX8_lit_114 : decode cX8_lit 114 = .ok (.putfield 20, 3) := by decide +kernel
theorem dX8_lit_117 : decode cX8_lit 117 = .ok (.return_, 1) := by decide +kernel
theorem dX8_cone_0 : decode cX8_cone 0 = .ok (.iconst 0, 1) := by decide +kernel
theorem dX8_cone_1 : decode cX8_cone 1 = .ok (.istore_n 2, 1) := by decide +kernel
theorem dX8_cone_2 : decode cX8_cone 2 = .ok (.getstatic 114, 3) := by decide +kernel
theorem dX8_cone_5 : decode cX8_cone 5 = .ok (.astore_n 3, 1) := by decide +kernel
theorem dX8_cone_6 : decode cX8_cone 6 = .ok (.aload_n 3, 1) := by decide +kernel
theorem dX8_cone_7 : decode cX8_cone 7 = .ok (.arraylength, 1) := by decide +kernel
theorem dX8_cone_8 : decode cX8_cone 8 = .ok (.istore 4, 2) := by decide +kernel
theorem dX8_cone_10 : decode cX8_cone 10 = .ok (.iconst 0, 1) := by decide +kernel
theorem dX8_cone_11 : decode cX8_cone 11 = .ok (.istore 5, 2) := by decide +kernel
theorem dX8_cone_13 : decode cX8_cone 13 = .ok (.iload 5, 2) := by decide +kernel
theorem dX8_cone_15 : decode cX8_cone 15 = .ok (.iload 4, 2) := by decide +kernel
theorem dX8_cone_17 : decode cX8_cone 17 = .ok (.if_icmp .ge 39, 3) := by decide +kernel
theorem dX8_cone_20 : decode cX8_cone 20 = .ok (.aload_n 3, 1) := by decide +kernel
theorem dX8_cone_21 : decode cX8_cone 21 = .ok (.iload 5, 2) := by decide +kernel
theorem dX8_cone_23 : decode cX8_cone 23 = .ok (.iaload, 1) := by decide +kernel
theorem dX8_cone_24 : decode cX8_cone 24 = .ok (.istore 6, 2) := by decide +kernel
theorem dX8_cone_26 : decode cX8_cone 26 = .ok (.iload_n 2, 1) := by decide +kernel
theorem dX8_cone_27 : decode cX8_cone 27 = .ok (.aload_n 0, 1) := by decide +kernel
theorem dX8_cone_28 : decode cX8_cone 28 = .ok (.getfield 28, 3) := by decide +kernel
theorem dX8_cone_31 : decode cX8_cone 31 = .ok (.iload_n 1, 1) := by decide +kernel
theorem dX8_cone_32 : decode cX8_cone 32 = .ok (.daload, 1) := by decide +kernel
theorem dX8_cone_33 : decode cX8_cone 33 = .ok (.iload 6, 2) := by decide +kernel
theorem dX8_cone_35 : decode cX8_cone 35 = .ok (.i2d, 1) := by decide +kernel
theorem dX8_cone_36 : decode cX8_cone 36 = .ok (.dcmp .l, 1) := by decide +kernel
theorem dX8_cone_37 : decode cX8_cone 37 = .ok (.ifCond .lt 7, 3) := by decide +kernel
theorem dX8_cone_40 : decode cX8_cone 40 = .ok (.iconst 1, 1) := by decide +kernel
theorem dX8_cone_41 : decode cX8_cone 41 = .ok (.goto 4, 3) := by decide +kernel
theorem dX8_cone_44 : decode cX8_cone 44 = .ok (.iconst 0, 1) := by decide +kernel
theorem dX8_cone_45 : decode cX8_cone 45 = .ok (.invokestatic 117, 3) := by decide +kernel
theorem dX8_cone_48 : decode cX8_cone 48 = .ok (.iadd, 1) := by decide +kernel
theorem dX8_cone_49 : decode cX8_cone 49 = .ok (.istore_n 2, 1) := by decide +kernel
theorem dX8_cone_50 : decode cX8_cone 50 = .ok (.iinc 5 1, 3) := by decide +kernel
theorem dX8_cone_53 : decode cX8_cone 53 = .ok (.goto (-40), 3) := by decide +kernel
theorem dX8_cone_56 : decode cX8_cone 56 = .ok (.iload_n 2, 1) := by decide +kernel
theorem dX8_cone_57 : decode cX8_cone 57 = .ok (.ireturn, 1) := by decide +kernel
theorem dX9_init_0 : decode cX9_init 0 = .ok (.aload_n 0, 1) := by decide +kernel
theorem dX9_init_1 : decode cX9_init 1 = .ok (.invokespecial 3, 3) := by decide +kernel
theorem dX9_init_4 : decode cX9_init 4 = .ok (.aload_n 0, 1) := by decide +kernel
theorem dX9_init_5 : decode cX9_init 5 = .ok (.iconst (-1), 1) := by decide +kernel
theorem dX9_init_6 : decode cX9_init 6 = .ok (.putfield 9, 3) := by decide +kernel
theorem dX9_init_9 : decode cX9_init 9 = .ok (.aload_n 0, 1) := by decide +kernel
theorem dX9_init_10 : decode cX9_init 10 = .ok (.ldc 15, 2) := by decide +kernel
theorem dX9_init_12 : decode cX9_init 12 = .ok (.putfield 16, 3) := by decide +kernel
theorem dX9_init_15 : decode cX9_init 15 = .ok (.aload_n 0, 1) := by decide +kernel
theorem dX9_init_16 : decode cX9_init 16 = .ok (.iconst (-1), 1) := by decide +kernel
theorem dX9_init_17 : decode cX9_init 17 = .ok (.putfield 20, 3) := by decide +kernel
theorem dX9_init_20 : decode cX9_init 20 = .ok (.aload_n 0, 1) := by decide +kernel
theorem dX9_init_21 : decode cX9_init 21 = .ok (.iconst (-1), 1) := by decide +kernel
theorem dX9_init_22 : decode cX9_init 22 = .ok (.putfield 23, 3) := by decide +kernel
theorem dX9_init_25 : decode cX9_init 25 = .ok (.aload_n 0, 1) := by decide +kernel
theorem dX9_init_26 : decode cX9_init 26 = .ok (.iload_n 1, 1) := by decide +kernel
theorem dX9_init_27 : decode cX9_init 27 = .ok (.putfield 26, 3) := by decide +kernel
theorem dX9_init_30 : decode cX9_init 30 = .ok (.aload_n 0, 1) := by decide +kernel
theorem dX9_init_31 : decode cX9_init 31 = .ok (.iload_n 2, 1) := by decide +kernel
theorem dX9_init_32 : decode cX9_init 32 = .ok (.putfield 29, 3) := by decide +kernel
theorem dX9_init_35 : decode cX9_init 35 = .ok (.aload_n 0, 1) := by decide +kernel
theorem dX9_init_36 : decode cX9_init 36 = .ok (.iload_n 3, 1) := by decide +kernel
theorem dX9_init_37 : decode cX9_init 37 = .ok (.putfield 32, 3) := by decide +kernel
theorem dX9_init_40 : decode cX9_init 40 = .ok (.aload_n 0, 1) := by decide +kernel
theorem dX9_init_41 : decode cX9_init 41 = .ok (.iload 4, 2) := by decide +kernel
theorem dX9_init_43 : decode cX9_init 43 = .ok (.putfield 35, 3) := by decide +kernel
theorem dX9_init_46 : decode cX9_init 46 = .ok (.return_, 1) := by decide +kernel
theorem dX9_day_0 : decode cX9_day 0 = .ok (.aload_n 0, 1) := by decide +kernel
theorem dX9_day_1 : decode cX9_day 1 = .ok (.getfield 38, 3) := by decide +kernel
theorem dX9_day_4 : decode cX9_day 4 = .ok (.ifCond .ne 11, 3) := by decide +kernel
theorem dX9_day_7 : decode cX9_day 7 = .ok (.aload_n 0, 1) := by decide +kernel
theorem dX9_day_8 : decode cX9_day 8 = .ok (.getfield 20, 3) := by decide +kernel
theorem dX9_day_11 : decode cX9_day 11 = .ok (.iconst (-1), 1) := by decide +kernel
theorem dX9_day_12 : decode cX9_day 12 = .ok (.if_icmp .eq 4, 3) := by decide +kernel
theorem dX9_day_15 : decode cX9_day 15 = .ok (.return_, 1) := by decide +kernel
theorem dX9_day_16 : decode cX9_day 16 = .ok (.iload_n 1, 1) := by decide +kernel
theorem dX9_day_17 : decode cX9_day 17 = .ok (.i2f, 1) := by decide +kernel
theorem dX9_day_18 : decode cX9_day 18 = .ok (.fconst 2, 1) := by decide +kernel
theorem dX9_day_19 : decode cX9_day 19 = .ok (.fdiv, 1) := by decide +kernel
theorem dX9_day_20 : decode cX9_day 20 = .ok (.aload_n 0, 1) := by decide +kernel
theorem dX9_day_21 : decode cX9_day 21 = .ok (.getfield 35, 3) := by decide +kernel
theorem dX9_day_24 : decode cX9_day 24 = .ok (.i2f, 1) := by decide +kernel
theorem dX9_day_25 : decode cX9_day 25 = .ok (.fdiv, 1) := by decide +kernel
theorem dX9_day_26 : decode cX9_day 26 = .ok (.fstore_n 2, 1) := by decide +kernel
theorem dX9_day_27 : decode cX9_day 27 = .ok (.aload_n 0, 1) := by decide +kernel
theorem dX9_day_28 : decode cX9_day 28 = .ok (.getfield 41, 3) := by decide +kernel
theorem dX9_day_31 : decode cX9_day 31 = .ok (.ifCond .eq 8, 3) := by decide +kernel
theorem dX9_day_34 : decode cX9_day 34 = .ok (.fload_n 2, 1) := by decide +kernel
theorem dX9_day_35 : decode cX9_day 35 = .ok (.ldc 45, 2) := by decide +kernel
theorem dX9_day_37 : decode cX9_day 37 = .ok (.fmul, 1) := by decide +kernel
theorem dX9_day_38 : decode cX9_day 38 = .ok (.fstore_n 2, 1) := by decide +kernel
theorem dX9_day_39 : decode cX9_day 39 = .ok (.aload_n 0, 1) := by decide +kernel
theorem dX9_day_40 : decode cX9_day 40 = .ok (.getfield 16, 3) := by decide +kernel
theorem dX9_day_43 : decode cX9_day 43 = .ok (.fload_n 2, 1) := by decide +kernel
theorem dX9_day_44 : decode cX9_day 44 = .ok (.invokestatic 46, 3) := by decide +kernel
theorem dX9_day_47 : decode cX9_day 47 = .ok (.fstore_n 2, 1) := by decide +kernel
theorem dX9_day_48 : decode cX9_day 48 = .ok (.aload_n 0, 1) := by decide +kernel
theorem dX9_day_49 : decode cX9_day 49 = .ok (.dup, 1) := by decide +kernel
theorem dX9_day_50 : decode cX9_day 50 = .ok (.getfield 16, 3) := by decide +kernel
theorem dX9_day_53 : decode cX9_day 53 = .ok (.fload_n 2, 1) := by decide +kernel
theorem dX9_day_54 : decode cX9_day 54 = .ok (.fsub, 1) := by decide +kernel
theorem dX9_day_55 : decode cX9_day 55 = .ok (.putfield 16, 3) := by decide +kernel
theorem dX9_day_58 : decode cX9_day 58 = .ok (.fload_n 2, 1) := by decide +kernel
theorem dX9_day_59 : decode cX9_day 59 = .ok (.ldc 52, 2) := by decide +kernel
theorem dX9_day_61 : decode cX9_day 61 = .ok (.fcmp .l, 1) := by decide +kernel
theorem dX9_day_62 : decode cX9_day 62 = .ok (.ifCond .le 13, 3) := by decide +kernel
theorem dX9_day_65 : decode cX9_day 65 = .ok (.aload_n 0, 1) := by decide +kernel
theorem dX9_day_66 : decode cX9_day 66 = .ok (.dup, 1) := by decide +kernel
theorem dX9_day_67 : decode cX9_day 67 = .ok (.getfield 53, 3) := by decide +kernel
theorem dX9_day_70 : decode cX9_day 70 = .ok (.iconst 2, 1) := by decide +kernel
theorem dX9_day_71 : decode cX9_day 71 = .ok (.ior, 1) := by decide +kernel
theorem dX9_day_72 : decode cX9_day 72 = .ok (.putfield 53, 3) := by decide +kernel
theorem dX9_day_75 : decode cX9_day 75 = .ok (.aload_n 0, 1) := by decide +kernel
theorem dX9_day_76 : decode cX9_day 76 = .ok (.getfield 16, 3) := by decide +kernel
theorem dX9_day_79 : decode cX9_day 79 = .ok (.ldc 56, 2) := by decide +kernel
theorem dX9_day_81 : decode cX9_day 81 = .ok (.fcmp .g, 1) := by decide +kernel
theorem dX9_day_82 : decode cX9_day 82 = .ok (.ifCond .gt 8, 3) := by decide +kernel
theorem dX9_day_85 : decode cX9_day 85 = .ok (.aload_n 0, 1) := by decide +kernel
theorem dX9_day_86 : decode cX9_day 86 = .ok (.iconst 1, 1) := by decide +kernel
theorem dX9_day_87 : decode cX9_day 87 = .ok (.putfield 38, 3) := by decide +kernel
theorem dX9_day_90 : decode cX9_day 90 = .ok (.return_, 1) := by decide +kernel
theorem dX9_fail_0 : decode cX9_fail 0 = .ok (.aload_n 0, 1) := by decide +kernel
theorem dX9_fail_1 : decode cX9_fail 1 = .ok (.dup, 1) := by decide +kernel
theorem dX9_fail_2 : decode cX9_fail 2 = .ok (.getfield 53, 3) := by decide +kernel
theorem dX9_fail_5 : decode cX9_fail 5 = .ok (.iload_n 1, 1) := by decide +kernel
theorem dX9_fail_6 : decode cX9_fail 6 = .ok (.ior, 1) := by decide +kernel
theorem dX9_fail_7 : decode cX9_fail 7 = .ok (.putfield 53, 3) := by decide +kernel
theorem dX9_fail_10 : decode cX9_fail 10 = .ok (.aload_n 0, 1) := by decide +kernel
theorem dX9_fail_11 : decode cX9_fail 11 = .ok (.iconst 5, 1) := by decide +kernel
theorem dX9_fail_12 : decode cX9_fail 12 = .ok (.putfield 38, 3) := by decide +kernel
theorem dX9_fail_15 : decode cX9_fail 15 = .ok (.return_, 1) := by decide +kernel
theorem dX9_burn_0 : decode cX9_burn 0 = .ok (.aload_n 0, 1) := by decide +kernel
theorem dX9_burn_1 : decode cX9_burn 1 = .ok (.getfield 38, 3) := by decide +kernel
theorem dX9_burn_4 : decode cX9_burn 4 = .ok (.iconst 5, 1) := by decide +kernel
theorem dX9_burn_5 : decode cX9_burn 5 = .ok (.if_icmp .ne 4, 3) := by decide +kernel
theorem dX9_burn_8 : decode cX9_burn 8 = .ok (.return_, 1) := by decide +kernel
theorem dX9_burn_9 : decode cX9_burn 9 = .ok (.aload_n 0, 1) := by decide +kernel
theorem dX9_burn_10 : decode cX9_burn 10 = .ok (.getfield 38, 3) := by decide +kernel
theorem dX9_burn_13 : decode cX9_burn 13 = .ok (.ifCond .ne 17, 3) := by decide +kernel
theorem dX9_burn_16 : decode cX9_burn 16 = .ok (.dload_n 3, 1) := by decide +kernel
theorem dX9_burn_17 : decode cX9_burn 17 = .ok (.ldc2_w 57, 3) := by decide +kernel
theorem dX9_burn_20 : decode cX9_burn 20 = .ok (.dcmp .l, 1) := by decide +kernel
theorem dX9_burn_21 : decode cX9_burn 21 = .ok (.ifCond .le 9, 3) := by decide +kernel
theorem dX9_burn_24 : decode cX9_burn 24 = .ok (.aload_n 0, 1) := by decide +kernel
theorem dX9_burn_25 : decode cX9_burn 25 = .ok (.iconst 1, 1) := by decide +kernel
theorem dX9_burn_26 : decode cX9_burn 26 = .ok (.invokevirtual 59, 3) := by decide +kernel
theorem dX9_burn_29 : decode cX9_burn 29 = .ok (.return_, 1) := by decide +kernel
theorem dX9_burn_30 : decode cX9_burn 30 = .ok (.dload_n 1, 1) := by decide +kernel
theorem dX9_burn_31 : decode cX9_burn 31 = .ok (.ldc2_w 63, 3) := by decide +kernel
theorem dX9_burn_34 : decode cX9_burn 34 = .ok (.dcmp .g, 1) := by decide +kernel
theorem dX9_burn_35 : decode cX9_burn 35 = .ok (.ifCond .ge 11, 3) := by decide +kernel
theorem dX9_burn_38 : decode cX9_burn 38 = .ok (.dload_n 3, 1) := by decide +kernel
theorem dX9_burn_39 : decode cX9_burn 39 = .ok (.ldc2_w 63, 3) := by decide +kernel
theorem dX9_burn_42 : decode cX9_burn 42 = .ok (.dcmp .l, 1) := by decide +kernel
theorem dX9_burn_43 : decode cX9_burn 43 = .ok (.ifCond .ge 19, 3) := by decide +kernel
theorem dX9_burn_46 : decode cX9_burn 46 = .ok (.dload_n 1, 1) := by decide +kernel
theorem dX9_burn_47 : decode cX9_burn 47 = .ok (.ldc2_w 63, 3) := by decide +kernel
theorem dX9_burn_50 : decode cX9_burn 50 = .ok (.dcmp .l, 1) := by decide +kernel
theorem dX9_burn_51 : decode cX9_burn 51 = .ok (.ifCond .le 15, 3) := by decide +kernel
theorem dX9_burn_54 : decode cX9_burn 54 = .ok (.dload_n 3, 1) := by decide +kernel
theorem dX9_burn_55 : decode cX9_burn 55 = .ok (.ldc2_w 63, 3) := by decide +kernel
theorem dX9_burn_58 : decode cX9_burn 58 = .ok (.dcmp .g, 1) := by decide +kernel
theorem dX9_burn_59 : decode cX9_burn 59 = .ok (.ifCond .gt 7, 3) := by decide +kernel
theorem dX9_burn_62 : decode cX9_burn 62 = .ok (.iconst 1, 1) := by decide +kernel
theorem dX9_burn_63 : decode cX9_burn 63 = .ok (.goto 4, 3) := by decide +kernel
theorem dX9_burn_66 : decode cX9_burn 66 = .ok (.iconst 0, 1) := by decide +kernel
theorem dX9_burn_67 : decode cX9_burn 67 = .ok (.istore 6, 2) := by decide +kernel
theorem dX9_burn_69 : decode cX9_burn 69 = .ok (.iload 6, 2) := by decide +kernel
theorem dX9_burn_71 : decode cX9_burn 71 = .ok (.ifCond .eq 32, 3) := by decide +kernel
theorem dX9_burn_74 : decode cX9_burn 74 = .ok (.dload_n 3, 1) := by decide +kernel
theorem dX9_burn_75 : decode cX9_burn 75 = .ok (.dload_n 1, 1) := by decide +kernel
theorem dX9_burn_76 : decode cX9_burn 76 = .ok (.dsub, 1) := by decide +kernel
theorem dX9_burn_77 : decode cX9_burn 77 = .ok (.invokestatic 65, 3) := by decide +kernel
theorem dX9_burn_80 : decode cX9_burn 80 = .ok (.ldc2_w 69, 3) := by decide +kernel
theorem dX9_burn_83 : decode cX9_burn 83 = .ok (.aload_n 0, 1) := by decide +kernel
theorem dX9_burn_84 : decode cX9_burn 84 = .ok (.getfield 35, 3) := by decide +kernel
theorem dX9_burn_87 : decode cX9_burn 87 = .ok (.i2d, 1) := by decide +kernel
theorem dX9_burn_88 : decode cX9_burn 88 = .ok (.ddiv, 1) := by decide +kernel
theorem dX9_burn_89 : decode cX9_burn 89 = .ok (.dcmp .l, 1) := by decide +kernel
theorem dX9_burn_90 : decode cX9_burn 90 = .ok (.ifCond .le 13, 3) := by decide +kernel
theorem dX9_burn_93 : decode cX9_burn 93 = .ok (.aload_n 0, 1) := by decide +kernel
theorem dX9_burn_94 : decode cX9_burn 94 = .ok (.dup, 1) := by decide +kernel
theorem dX9_burn_95 : decode cX9_burn 95 = .ok (.getfield 53, 3) := by decide +kernel
theorem dX9_burn_98 : decode cX9_burn 98 = .ok (.iconst 2, 1) := by decide +kernel
theorem dX9_burn_99 : decode cX9_burn 99 = .ok (.ior, 1) := by decide +kernel
theorem dX9_burn_100 : decode cX9_burn 100 = .ok (.putfield 53, 3) := by decide +kernel
theorem dX9_burn_103 : decode cX9_burn 103 = .ok (.iload 5, 2) := by decide +kernel
theorem dX9_burn_105 : decode cX9_burn 105 = .ok (.iconst 3, 1) := by decide +kernel
theorem dX9_burn_106 : decode cX9_burn 106 = .ok (.if_icmp .lt 21, 3) := by decide +kernel
theorem dX9_burn_109 : decode cX9_burn 109 = .ok (.dload_n 3, 1) := by decide +kernel
theorem dX9_burn_110 : decode cX9_burn 110 = .ok (.ldc2_w 71, 3) := by decide +kernel
theorem dX9_burn_113 : decode cX9_burn 113 = .ok (.dcmp .l, 1) := by decide +kernel
theorem dX9_burn_114 : decode cX9_burn 114 = .ok (.ifCond .lt 13, 3) := by decide +kernel
theorem dX9_burn_117 : decode cX9_burn 117 = .ok (.aload_n 0, 1) := by decide +kernel
theorem dX9_burn_118 : decode cX9_burn 118 = .ok (.dup, 1) := by decide +kernel
theorem dX9_burn_119 : decode cX9_burn 119 = .ok (.getfield 73, 3) := by decide +kernel
theorem dX9_burn_122 : decode cX9_burn 122 = .ok (.iconst 1, 1) := by decide +kernel
theorem dX9_burn_123 : decode cX9_burn 123 = .ok (.iadd, 1) := by decide +kernel
theorem dX9_burn_124 : decode cX9_burn 124 = .ok (.putfield 73, 3) := by decide +kernel
theorem dX9_burn_127 : decode cX9_burn 127 = .ok (.return_, 1) := by decide +kernel
theorem dX10_isIn_0 : decode cX10_isIn 0 = .ok (.iload_n 0, 1) := by decide +kernel
theorem dX10_isIn_1 : decode cX10_isIn 1 = .ok (.iload_n 1, 1) := by decide +kernel
theorem dX10_isIn_2 : decode cX10_isIn 2 = .ok (.if_icmp .lt 12, 3) := by decide +kernel
theorem dX10_isIn_5 : decode cX10_isIn 5 = .ok (.iload_n 0, 1) := by decide +kernel
theorem dX10_isIn_6 : decode cX10_isIn 6 = .ok (.iload_n 2, 1) := by decide +kernel
theorem dX10_isIn_7 : decode cX10_isIn 7 = .ok (.if_icmp .gt 7, 3) := by decide +kernel
theorem dX10_isIn_10 : decode cX10_isIn 10 = .ok (.iconst 1, 1) := by decide +kernel
theorem dX10_isIn_11 : decode cX10_isIn 11 = .ok (.goto 4, 3) := by decide +kernel
theorem dX10_isIn_14 : decode cX10_isIn 14 = .ok (.iconst 0, 1) := by decide +kernel
theorem dX10_isIn_15 : decode cX10_isIn 15 = .ok (.ireturn, 1) := by decide +kernel
theorem dX10_one_0 : decode cX10_one 0 = .ok (.iload_n 0, 1) := by decide +kernel
theorem dX10_one_1 : decode cX10_one 1 = .ok (.ifCond .eq 7, 3) := by decide +kernel
theorem dX10_one_4 : decode cX10_one 4 = .ok (.iconst 1, 1) := by decide +kernel
theorem dX10_one_5 : decode cX10_one 5 = .ok (.goto 4, 3) := by decide +kernel
theorem dX10_one_8 : decode cX10_one 8 = .ok (.iconst 0, 1) := by decide +kernel
theorem dX10_one_9 : decode cX10_one 9 = .ok (.ireturn, 1) := by decide +kernel
theorem dX10_init_0 : decode cX10_init 0 = .ok (.aload_n 0, 1) := by decide +kernel
theorem dX10_init_1 : decode cX10_init 1 = .ok (.invokespecial 1, 3) := by decide +kernel
theorem dX10_init_4 : decode cX10_init 4 = .ok (.aload_n 0, 1) := by decide +kernel
theorem dX10_init_5 : decode cX10_init 5 = .ok (.new 7, 3) := by decide +kernel
theorem dX10_init_8 : decode cX10_init 8 = .ok (.dup, 1) := by decide +kernel
theorem dX10_init_9 : decode cX10_init 9 = .ok (.invokespecial 9, 3) := by decide +kernel
theorem dX10_init_12 : decode cX10_init 12 = .ok (.putfield 10, 3) := by decide +kernel
theorem dX10_init_15 : decode cX10_init 15 = .ok (.aload_n 0, 1) := by decide +kernel
theorem dX10_init_16 : decode cX10_init 16 = .ok (.new 7, 3) := by decide +kernel
theorem dX10_init_19 : decode cX10_init 19 = .ok (.dup, 1) := by decide +kernel
theorem dX10_init_20 : decode cX10_init 20 = .ok (.invokespecial 9, 3) := by decide +kernel
theorem dX10_init_23 : decode cX10_init 23 = .ok (.putfield 16, 3) := by decide +kernel
theorem dX10_init_26 : decode cX10_init 26 = .ok (.aload_n 0, 1) := by decide +kernel
theorem dX10_init_27 : decode cX10_init 27 = .ok (.new 7, 3) := by decide +kernel
theorem dX10_init_30 : decode cX10_init 30 = .ok (.dup, 1) := by decide +kernel
theorem dX10_init_31 : decode cX10_init 31 = .ok (.invokespecial 9, 3) := by decide +kernel
theorem dX10_init_34 : decode cX10_init 34 = .ok (.putfield 19, 3) := by decide +kernel
theorem dX10_init_37 : decode cX10_init 37 = .ok (.aload_n 0, 1) := by decide +kernel
theorem dX10_init_38 : decode cX10_init 38 = .ok (.new 7, 3) := by decide +kernel
theorem dX10_init_41 : decode cX10_init 41 = .ok (.dup, 1) := by decide +kernel
theorem dX10_init_42 : decode cX10_init 42 = .ok (.invokespecial 9, 3) := by decide +kernel
theorem dX10_init_45 : decode cX10_init 45 = .ok (.putfield 22, 3) := by decide +kernel
theorem dX10_init_48 : decode cX10_init 48 = .ok (.aload_n 0, 1) := by decide +kernel
theorem dX10_init_49 : decode cX10_init 49 = .ok (.new 25, 3) := by decide +kernel
theorem dX10_init_52 : decode cX10_init 52 = .ok (.dup, 1) := by decide +kernel
theorem dX10_init_53 : decode cX10_init 53 = .ok (.invokespecial 27, 3) := by decide +kernel
theorem dX10_init_56 : decode cX10_init 56 = .ok (.putfield 28, 3) := by decide +kernel
theorem dX10_init_59 : decode cX10_init 59 = .ok (.return_, 1) := by decide +kernel
theorem dX10_thrown_0 : decode cX10_thrown 0 = .ok (.aload_n 0, 1) := by decide +kernel
theorem dX10_thrown_1 : decode cX10_thrown 1 = .ok (.getfield 32, 3) := by decide +kernel
theorem dX10_thrown_4 : decode cX10_thrown 4 = .ok (.ireturn, 1) := by decide +kernel
theorem dX10_refuse_0 : decode cX10_refuse 0 = .ok (.iload_n 1, 1) := by decide +kernel
theorem dX10_refuse_1 : decode cX10_refuse 1 = .ok (.ifCond .eq 15, 3) := by decide +kernel
theorem dX10_refuse_4 : decode cX10_refuse 4 = .ok (.aload_n 0, 1) := by decide +kernel
theorem dX10_refuse_5 : decode cX10_refuse 5 = .ok (.getfield 32, 3) := by decide +kernel
theorem dX10_refuse_8 : decode cX10_refuse 8 = .ok (.ifCond .ne 8, 3) := by decide +kernel
theorem dX10_refuse_11 : decode cX10_refuse 11 = .ok (.aload_n 0, 1) := by decide +kernel
theorem dX10_refuse_12 : decode cX10_refuse 12 = .ok (.iload_n 2, 1) := by decide +kernel
theorem dX10_refuse_13 : decode cX10_refuse 13 = .ok (.putfield 32, 3) := by decide +kernel
theorem dX10_refuse_16 : decode cX10_refuse 16 = .ok (.aload_n 0, 1) := by decide +kernel
theorem dX10_refuse_17 : decode cX10_refuse 17 = .ok (.getfield 32, 3) := by decide +kernel
theorem dX10_refuse_20 : decode cX10_refuse 20 = .ok (.ifCond .le 7, 3) := by decide +kernel
theorem dX10_refuse_23 : decode cX10_refuse 23 = .ok (.iconst 1, 1) := by decide +kernel
theorem dX10_refuse_24 : decode cX10_refuse 24 = .ok (.goto 4, 3) := by decide +kernel
theorem dX10_refuse_27 : decode cX10_refuse 27 = .ok (.iconst 0, 1) := by decide +kernel
theorem dX10_refuse_28 : decode cX10_refuse 28 = .ok (.ireturn, 1) := by decide +kernel
theorem dX10_start_0 : decode cX10_start 0 = .ok (.aload_n 0, 1) := by decide +kernel
theorem dX10_start_1 : decode cX10_start 1 = .ok (.iconst 0, 1) := by decide +kernel
theorem dX10_start_2 : decode cX10_start 2 = .ok (.putfield 32, 3) := by decide +kernel
theorem dX10_start_5 : decode cX10_start 5 = .ok (.aload_n 0, 1) := by decide +kernel
theorem dX10_start_6 : decode cX10_start 6 = .ok (.iload_n 1, 1) := by decide +kernel
theorem dX10_start_7 : decode cX10_start 7 = .ok (.iload_n 2, 1) := by decide +kernel
theorem dX10_start_8 : decode cX10_start 8 = .ok (.invokevirtual 36, 3) := by decide +kernel
theorem dX10_start_11 : decode cX10_start 11 = .ok (.ireturn, 1) := by decide +kernel
theorem dX10_isNoClay_0 : decode cX10_isNoClay 0 = .ok (.iload_n 1, 1) := by decide +kernel
theorem dX10_isNoClay_1 : decode cX10_isNoClay 1 = .ok (.iconst 0, 1) := by decide +kernel
theorem dX10_isNoClay_2 : decode cX10_isNoClay 2 = .ok (.aload_n 0, 1) := by decide +kernel
theorem dX10_isNoClay_3 : decode cX10_isNoClay 3 = .ok (.getfield 10, 3) := by decide +kernel
theorem dX10_isNoClay_6 : decode cX10_isNoClay 6 = .ok (.invokevirtual 40, 3) := by decide +kernel
theorem dX10_isNoClay_9 : decode cX10_isNoClay 9 = .ok (.iconst 1, 1) := by decide +kernel
theorem dX10_isNoClay_10 : decode cX10_isNoClay 10 = .ok (.isub, 1) := by decide +kernel
theorem dX10_isNoClay_11 : decode cX10_isNoClay 11 = .ok (.invokestatic 44, 3) := by decide +kernel
theorem dX10_isNoClay_14 : decode cX10_isNoClay 14 = .ok (.ifCond .ne 7, 3) := by decide +kernel
theorem dX10_isNoClay_17 : decode cX10_isNoClay 17 = .ok (.iconst 1, 1) := by decide +kernel
theorem dX10_isNoClay_18 : decode cX10_isNoClay 18 = .ok (.goto 4, 3) := by decide +kernel
theorem dX10_isNoClay_21 : decode cX10_isNoClay 21 = .ok (.iconst 0, 1) := by decide +kernel
theorem dX10_isNoClay_22 : decode cX10_isNoClay 22 = .ok (.ireturn, 1) := by decide +kernel
theorem dX10_isNoGlaze_0 : decode cX10_isNoGlaze 0 = .ok (.iload_n 1, 1) := by decide +kernel
theorem dX10_isNoGlaze_1 : decode cX10_isNoGlaze 1 = .ok (.iconst 0, 1) := by decide +kernel
theorem dX10_isNoGlaze_2 : decode cX10_isNoGlaze 2 = .ok (.aload_n 0, 1) := by decide +kernel
theorem dX10_isNoGlaze_3 : decode cX10_isNoGlaze 3 = .ok (.getfield 16, 3) := by decide +kernel
theorem dX10_isNoGlaze_6 : decode cX10_isNoGlaze 6 = .ok (.invokevirtual 40, 3) := by decide +kernel
theorem dX10_isNoGlaze_9 : decode cX10_isNoGlaze 9 = .ok (.iconst 1, 1) := by decide +kernel
theorem dX10_isNoGlaze_10 : decode cX10_isNoGlaze 10 = .ok (.isub, 1) := by decide +kernel
theorem dX10_isNoGlaze_11 : decode cX10_isNoGlaze 11 = .ok (.invokestatic 44, 3) := by decide +kernel
theorem dX10_isNoGlaze_14 : decode cX10_isNoGlaze 14 = .ok (.ifCond .ne 7, 3) := by decide +kernel
theorem dX10_isNoGlaze_17 : decode cX10_isNoGlaze 17 = .ok (.iconst 1, 1) := by decide +kernel
theorem dX10_isNoGlaze_18 : decode cX10_isNoGlaze 18 = .ok (.goto 4, 3) := by decide +kernel
theorem dX10_isNoGlaze_21 : decode cX10_isNoGlaze 21 = .ok (.iconst 0, 1) := by decide +kernel
theorem dX10_isNoGlaze_22 : decode cX10_isNoGlaze 22 = .ok (.ireturn, 1) := by decide +kernel
theorem dX10_isNoPot_0 : decode cX10_isNoPot 0 = .ok (.iload_n 1, 1) := by decide +kernel
theorem dX10_isNoPot_1 : decode cX10_isNoPot 1 = .ok (.iconst 0, 1) := by decide +kernel
theorem dX10_isNoPot_2 : decode cX10_isNoPot 2 = .ok (.aload_n 0, 1) := by decide +kernel
theorem dX10_isNoPot_3 : decode cX10_isNoPot 3 = .ok (.getfield 19, 3) := by decide +kernel
theorem dX10_isNoPot_6 : decode cX10_isNoPot 6 = .ok (.invokevirtual 40, 3) := by decide +kernel
theorem dX10_isNoPot_9 : decode cX10_isNoPot 9 = .ok (.iconst 1, 1) := by decide +kernel
theorem dX10_isNoPot_10 : decode cX10_isNoPot 10 = .ok (.isub, 1) := by decide +kernel
theorem dX10_isNoPot_11 : decode cX10_isNoPot 11 = .ok (.invokestatic 44, 3) := by decide +kernel
theorem dX10_isNoPot_14 : decode cX10_isNoPot 14 = .ok (.ifCond .ne 7, 3) := by decide +kernel
theorem dX10_isNoPot_17 : decode cX10_isNoPot 17 = .ok (.iconst 1, 1) := by decide +kernel
theorem dX10_isNoPot_18 : decode cX10_isNoPot 18 = .ok (.goto 4, 3) := by decide +kernel
theorem dX10_isNoPot_21 : decode cX10_isNoPot 21 = .ok (.iconst 0, 1) := by decide +kernel
theorem dX10_isNoPot_22 : decode cX10_isNoPot 22 = .ok (.ireturn, 1) := by decide +kernel
theorem dX10_isNoShelf_0 : decode cX10_isNoShelf 0 = .ok (.iload_n 0, 1) := by decide +kernel
theorem dX10_isNoShelf_1 : decode cX10_isNoShelf 1 = .ok (.iconst 0, 1) := by decide +kernel
theorem dX10_isNoShelf_2 : decode cX10_isNoShelf 2 = .ok (.iconst 2, 1) := by decide +kernel
theorem dX10_isNoShelf_3 : decode cX10_isNoShelf 3 = .ok (.invokestatic 44, 3) := by decide +kernel
theorem dX10_isNoShelf_6 : decode cX10_isNoShelf 6 = .ok (.ifCond .ne 7, 3) := by decide +kernel
theorem dX10_isNoShelf_9 : decode cX10_isNoShelf 9 = .ok (.iconst 1, 1) := by decide +kernel
theorem dX10_isNoShelf_10 : decode cX10_isNoShelf 10 = .ok (.goto 4, 3) := by decide +kernel
theorem dX10_isNoShelf_13 : decode cX10_isNoShelf 13 = .ok (.iconst 0, 1) := by decide +kernel
theorem dX10_isNoShelf_14 : decode cX10_isNoShelf 14 = .ok (.ireturn, 1) := by decide +kernel
theorem dX10_isHot_0 : decode cX10_isHot 0 = .ok (.aload_n 0, 1) := by decide +kernel
theorem dX10_isHot_1 : decode cX10_isHot 1 = .ok (.getfield 28, 3) := by decide +kernel
theorem dX10_isHot_4 : decode cX10_isHot 4 = .ok (.getfield 48, 3) := by decide +kernel
theorem dX10_isHot_7 : decode cX10_isHot 7 = .ok (.ifCond .ne 17, 3) := by decide +kernel
theorem dX10_isHot_10 : decode cX10_isHot 10 = .ok (.aload_n 0, 1) := by decide +kernel
theorem dX10_isHot_11 : decode cX10_isHot 11 = .ok (.getfield 28, 3) := by decide +kernel
theorem dX10_isHot_14 : decode cX10_isHot 14 = .ok (.getfield 52, 3) := by decide +kernel
theorem dX10_isHot_17 : decode cX10_isHot 17 = .ok (.ldc2_w 56, 3) := by decide +kernel
theorem dX10_isHot_20 : decode cX10_isHot 20 = .ok (.dcmp .l, 1) := by decide +kernel
theorem dX10_isHot_21 : decode cX10_isHot 21 = .ok (.ifCond .lt 7, 3) := by decide +kernel
theorem dX10_isHot_24 : decode cX10_isHot 24 = .ok (.iconst 1, 1) := by decide +kernel
theorem dX10_isHot_25 : decode cX10_isHot 25 = .ok (.goto 4, 3) := by decide +kernel
theorem dX10_isHot_28 : decode cX10_isHot 28 = .ok (.iconst 0, 1) := by decide +kernel
theorem dX10_isHot_29 : decode cX10_isHot 29 = .ok (.ireturn, 1) := by decide +kernel
theorem dX10_melts_0 : decode cX10_melts 0 = .ok (.aload_n 0, 1) := by decide +kernel
theorem dX10_melts_1 : decode cX10_melts 1 = .ok (.getfield 16, 3) := by decide +kernel
theorem dX10_melts_4 : decode cX10_melts 4 = .ok (.iload_n 1, 1) := by decide +kernel
theorem dX10_melts_5 : decode cX10_melts 5 = .ok (.invokevirtual 58, 3) := by decide +kernel
theorem dX10_melts_8 : decode cX10_melts 8 = .ok (.checkcast 62, 3) := by decide +kernel
theorem dX10_melts_11 : decode cX10_melts 11 = .ok (.astore_n 2, 1) := by decide +kernel
theorem dX10_melts_12 : decode cX10_melts 12 = .ok (.aload_n 2, 1) := by decide +kernel
theorem dX10_melts_13 : decode cX10_melts 13 = .ok (.iconst 0, 1) := by decide +kernel
theorem dX10_melts_14 : decode cX10_melts 14 = .ok (.iaload, 1) := by decide +kernel
theorem dX10_melts_15 : decode cX10_melts 15 = .ok (.aload_n 2, 1) := by decide +kernel
theorem dX10_melts_16 : decode cX10_melts 16 = .ok (.iconst 1, 1) := by decide +kernel
theorem dX10_melts_17 : decode cX10_melts 17 = .ok (.iaload, 1) := by decide +kernel
theorem dX10_melts_18 : decode cX10_melts 18 = .ok (.iadd, 1) := by decide +kernel
theorem dX10_melts_19 : decode cX10_melts 19 = .ok (.i2d, 1) := by decide +kernel
theorem dX10_melts_20 : decode cX10_melts 20 = .ok (.dstore_n 3, 1) := by decide +kernel
theorem dX10_melts_21 : decode cX10_melts 21 = .ok (.ldc2_w 64, 3) := by decide +kernel
theorem dX10_melts_24 : decode cX10_melts 24 = .ok (.ldc2_w 66, 3) := by decide +kernel
theorem dX10_melts_27 : decode cX10_melts 27 = .ok (.aload_n 2, 1) := by decide +kernel
theorem dX10_melts_28 : decode cX10_melts 28 = .ok (.iconst 2, 1) := by decide +kernel
theorem dX10_melts_29 : decode cX10_melts 29 = .ok (.iaload, 1) := by decide +kernel
theorem dX10_melts_30 : decode cX10_melts 30 = .ok (.i2d, 1) := by decide +kernel
theorem dX10_melts_31 : decode cX10_melts 31 = .ok (.dload_n 3, 1) := by decide +kernel
theorem dX10_melts_32 : decode cX10_melts 32 = .ok (.ddiv, 1) := by decide +kernel
theorem dX10_melts_33 : decode cX10_melts 33 = .ok (.dmul, 1) := by decide +kernel
theorem dX10_melts_34 : decode cX10_melts 34 = .ok (.ldc2_w 68, 3) := by decide +kernel
theorem dX10_melts_37 : decode cX10_melts 37 = .ok (.aload_n 2, 1) := by decide +kernel
theorem dX10_melts_38 : decode cX10_melts 38 = .ok (.iconst 3, 1) := by decide +kernel
theorem dX10_melts_39 : decode cX10_melts 39 = .ok (.iaload, 1) := by decide +kernel
theorem dX10_melts_40 : decode cX10_melts 40 = .ok (.i2d, 1) := by decide +kernel
theorem dX10_melts_41 : decode cX10_melts 41 = .ok (.dload_n 3, 1) := by decide +kernel
theorem dX10_melts_42 : decode cX10_melts 42 = .ok (.ddiv, 1) := by decide +kernel
theorem dX10_melts_43 : decode cX10_melts 43 = .ok (.dmul, 1) := by decide +kernel
theorem dX10_melts_44 : decode cX10_melts 44 = .ok (.dadd, 1) := by decide +kernel
theorem dX10_melts_45 : decode cX10_melts 45 = .ok (.invokestatic 70, 3) := by decide +kernel
theorem dX10_melts_48 : decode cX10_melts 48 = .ok (.invokestatic 76, 3) := by decide +kernel
theorem dX10_melts_51 : decode cX10_melts 51 = .ok (.d2i, 1) := by decide +kernel
theorem dX10_melts_52 : decode cX10_melts 52 = .ok (.ireturn, 1) := by decide +kernel
theorem dX10_growth_0 : decode cX10_growth 0 = .ok (.aload_n 0, 1) := by decide +kernel
theorem dX10_growth_1 : decode cX10_growth 1 = .ok (.getfield 16, 3) := by decide +kernel
theorem dX10_growth_4 : decode cX10_growth 4 = .ok (.iload_n 1, 1) := by decide +kernel
theorem dX10_growth_5 : decode cX10_growth 5 = .ok (.invokevirtual 58, 3) := by decide +kernel
theorem dX10_growth_8 : decode cX10_growth 8 = .ok (.checkcast 62, 3) := by decide +kernel
theorem dX10_growth_11 : decode cX10_growth 11 = .ok (.astore_n 2, 1) := by decide +kernel
theorem dX10_growth_12 : decode cX10_growth 12 = .ok (.ldc2_w 80, 3) := by decide +kernel
theorem dX10_growth_15 : decode cX10_growth 15 = .ok (.aload_n 2, 1) := by decide +kernel
theorem dX10_growth_16 : decode cX10_growth 16 = .ok (.iconst 0, 1) := by decide +kernel
theorem dX10_growth_17 : decode cX10_growth 17 = .ok (.iaload, 1) := by decide +kernel
theorem dX10_growth_18 : decode cX10_growth 18 = .ok (.i2d, 1) := by decide +kernel
theorem dX10_growth_19 : decode cX10_growth 19 = .ok (.dmul, 1) := by decide +kernel
theorem dX10_growth_20 : decode cX10_growth 20 = .ok (.ldc2_w 82, 3) := by decide +kernel
theorem dX10_growth_23 : decode cX10_growth 23 = .ok (.aload_n 2, 1) := by decide +kernel
theorem dX10_growth_24 : decode cX10_growth 24 = .ok (.iconst 1, 1) := by decide +kernel
theorem dX10_growth_25 : decode cX10_growth 25 = .ok (.iaload, 1) := by decide +kernel
theorem dX10_growth_26 : decode cX10_growth 26 = .ok (.i2d, 1) := by decide +kernel
theorem dX10_growth_27 : decode cX10_growth 27 = .ok (.dmul, 1) := by decide +kernel
theorem dX10_growth_28 : decode cX10_growth 28 = .ok (.dadd, 1) := by decide +kernel
theorem dX10_growth_29 : decode cX10_growth 29 = .ok (.ldc2_w 84, 3) := by decide +kernel
theorem dX10_growth_32 : decode cX10_growth 32 = .ok (.aload_n 2, 1) := by decide +kernel
theorem dX10_growth_33 : decode cX10_growth 33 = .ok (.iconst 2, 1) := by decide +kernel
theorem dX10_growth_34 : decode cX10_growth 34 = .ok (.iaload, 1) := by decide +kernel
theorem dX10_growth_35 : decode cX10_growth 35 = .ok (.i2d, 1) := by decide +kernel
theorem dX10_growth_36 : decode cX10_growth 36 = .ok (.dmul, 1) := by decide +kernel
theorem dX10_growth_37 : decode cX10_growth 37 = .ok (.dadd, 1) := by decide +kernel
theorem dX10_growth_38 : decode cX10_growth 38 = .ok (.aload_n 2, 1) := by decide +kernel
theorem dX10_growth_39 : decode cX10_growth 39 = .ok (.iconst 3, 1) := by decide +kernel
theorem dX10_growth_40 : decode cX10_growth 40 = .ok (.iaload, 1) := by decide +kernel
theorem dX10_growth_41 : decode cX10_growth 41 = .ok (.i2d, 1) := by decide +kernel
theorem dX10_growth_42 : decode cX10_growth 42 = .ok (.dadd, 1) := by decide +kernel
theorem dX10_growth_43 : decode cX10_growth 43 = .ok (.aload_n 2, 1) := by decide +kernel
theorem dX10_growth_44 : decode cX10_growth 44 = .ok (.iconst 0, 1) := by decide +kernel
theorem dX10_growth_45 : decode cX10_growth 45 = .ok (.iaload, 1) := by decide +kernel
theorem dX10_growth_46 : decode cX10_growth 46 = .ok (.aload_n 2, 1) := by decide +kernel
theorem dX10_growth_47 : decode cX10_growth 47 = .ok (.iconst 1, 1) := by decide +kernel
theorem dX10_growth_48 : decode cX10_growth 48 = .ok (.iaload, 1) := by decide +kernel
theorem dX10_growth_49 : decode cX10_growth 49 = .ok (.iadd, 1) := by decide +kernel
theorem dX10_growth_50 : decode cX10_growth 50 = .ok (.aload_n 2, 1) := by decide +kernel
theorem dX10_growth_51 : decode cX10_growth 51 = .ok (.iconst 2, 1) := by decide +kernel
theorem dX10_growth_52 : decode cX10_growth 52 = .ok (.iaload, 1) := by decide +kernel
theorem dX10_growth_53 : decode cX10_growth 53 = .ok (.iadd, 1) := by decide +kernel
theorem dX10_growth_54 : decode cX10_growth 54 = .ok (.aload_n 2, 1) := by decide +kernel
theorem dX10_growth_55 : decode cX10_growth 55 = .ok (.iconst 3, 1) := by decide +kernel
theorem dX10_growth_56 : decode cX10_growth 56 = .ok (.iaload, 1) := by decide +kernel
theorem dX10_growth_57 : decode cX10_growth 57 = .ok (.iadd, 1) := by decide +kernel
theorem dX10_growth_58 : decode cX10_growth 58 = .ok (.i2d, 1) := by decide +kernel
theorem dX10_growth_59 : decode cX10_growth 59 = .ok (.ddiv, 1) := by decide +kernel
theorem dX10_growth_60 : decode cX10_growth 60 = .ok (.dreturn, 1) := by decide +kernel
theorem dX10_growthOf_0 : decode cX10_growthOf 0 = .ok (.aload_n 0, 1) := by decide +kernel
theorem dX10_growthOf_1 : decode cX10_growthOf 1 = .ok (.getfield 10, 3) := by decide +kernel
theorem dX10_growthOf_4 : decode cX10_growthOf 4 = .ok (.iload_n 1, 1) := by decide +kernel
theorem dX10_growthOf_5 : decode cX10_growthOf 5 = .ok (.invokevirtual 58, 3) := by decide +kernel
theorem dX10_growthOf_8 : decode cX10_growthOf 8 = .ok (.checkcast 62, 3) := by decide +kernel
theorem dX10_growthOf_11 : decode cX10_growthOf 11 = .ok (.iconst 1, 1) := by decide +kernel
theorem dX10_growthOf_12 : decode cX10_growthOf 12 = .ok (.iaload, 1) := by decide +kernel
theorem dX10_growthOf_13 : decode cX10_growthOf 13 = .ok (.i2d, 1) := by decide +kernel
theorem dX10_growthOf_14 : decode cX10_growthOf 14 = .ok (.ldc2_w 86, 3) := by decide +kernel
theorem dX10_growthOf_17 : decode cX10_growthOf 17 = .ok (.dmul, 1) := by decide +kernel
theorem dX10_growthOf_18 : decode cX10_growthOf 18 = .ok (.dreturn, 1) := by decide +kernel
theorem dX10_clay_0 : decode cX10_clay 0 = .ok (.aload_n 0, 1) := by decide +kernel
theorem dX10_clay_1 : decode cX10_clay 1 = .ok (.iload_n 1, 1) := by decide +kernel
theorem dX10_clay_2 : decode cX10_clay 2 = .ok (.iconst 1, 1) := by decide +kernel
theorem dX10_clay_3 : decode cX10_clay 3 = .ok (.bipush 12, 2) := by decide +kernel
theorem dX10_clay_5 : decode cX10_clay 5 = .ok (.invokestatic 44, 3) := by decide +kernel
theorem dX10_clay_8 : decode cX10_clay 8 = .ok (.ifCond .eq 14, 3) := by decide +kernel
theorem dX10_clay_11 : decode cX10_clay 11 = .ok (.iload_n 2, 1) := by decide +kernel
theorem dX10_clay_12 : decode cX10_clay 12 = .ok (.bipush 8, 2) := by decide +kernel
theorem dX10_clay_14 : decode cX10_clay 14 = .ok (.bipush 40, 2) := by decide +kernel
theorem dX10_clay_16 : decode cX10_clay 16 = .ok (.invokestatic 44, 3) := by decide +kernel
theorem dX10_clay_19 : decode cX10_clay 19 = .ok (.ifCond .ne 7, 3) := by decide +kernel
theorem dX10_clay_22 : decode cX10_clay 22 = .ok (.iconst 1, 1) := by decide +kernel
theorem dX10_clay_23 : decode cX10_clay 23 = .ok (.goto 4, 3) := by decide +kernel
theorem dX10_clay_26 : decode cX10_clay 26 = .ok (.iconst 0, 1) := by decide +kernel
theorem dX10_clay_27 : decode cX10_clay 27 = .ok (.iconst 1, 1) := by decide +kernel
theorem dX10_clay_28 : decode cX10_clay 28 = .ok (.invokevirtual 88, 3) := by decide +kernel
theorem dX10_clay_31 : decode cX10_clay 31 = .ok (.ifCond .ne 27, 3) := by decide +kernel
theorem dX10_clay_34 : decode cX10_clay 34 = .ok (.aload_n 0, 1) := by decide +kernel
theorem dX10_clay_35 : decode cX10_clay 35 = .ok (.aload_n 0, 1) := by decide +kernel
theorem dX10_clay_36 : decode cX10_clay 36 = .ok (.getfield 10, 3) := by decide +kernel
theorem dX10_clay_39 : decode cX10_clay 39 = .ok (.invokevirtual 40, 3) := by decide +kernel
theorem dX10_clay_42 : decode cX10_clay 42 = .ok (.iconst 3, 1) := by decide +kernel
theorem dX10_clay_43 : decode cX10_clay 43 = .ok (.if_icmp .ne 7, 3) := by decide +kernel
theorem dX10_clay_46 : decode cX10_clay 46 = .ok (.iconst 1, 1) := by decide +kernel
theorem dX10_clay_47 : decode cX10_clay 47 = .ok (.goto 4, 3) := by decide +kernel
theorem dX10_clay_50 : decode cX10_clay 50 = .ok (.iconst 0, 1) := by decide +kernel
theorem dX10_clay_51 : decode cX10_clay 51 = .ok (.iconst 2, 1) := by decide +kernel
theorem dX10_clay_52 : decode cX10_clay 52 = .ok (.invokevirtual 36, 3) := by decide +kernel
theorem dX10_clay_55 : decode cX10_clay 55 = .ok (.ifCond .eq 5, 3) := by decide +kernel
theorem dX10_clay_58 : decode cX10_clay 58 = .ok (.iconst 0, 1) := by decide +kernel
theorem dX10_clay_59 : decode cX10_clay 59 = .ok (.ireturn, 1) := by decide +kernel
theorem dX10_clay_60 : decode cX10_clay 60 = .ok (.aload_n 0, 1) := by decide +kernel
theorem dX10_clay_61 : decode cX10_clay 61 = .ok (.getfield 10, 3) := by decide +kernel
theorem dX10_clay_64 : decode cX10_clay 64 = .ok (.iconst 2, 1) := by decide +kernel
theorem dX10_clay_65 : decode cX10_clay 65 = .ok (.newarray .int, 2) := by decide +kernel
theorem dX10_clay_67 : decode cX10_clay 67 = .ok (.dup, 1) := by decide +kernel
theorem dX10_clay_68 : decode cX10_clay 68 = .ok (.iconst 0, 1) := by decide +kernel
theorem dX10_clay_69 : decode cX10_clay 69 = .ok (.iload_n 1, 1) := by decide +kernel
theorem dX10_clay_70 : decode cX10_clay 70 = .ok (.iastore, 1) := by decide +kernel
theorem dX10_clay_71 : decode cX10_clay 71 = .ok (.dup, 1) := by decide +kernel
theorem dX10_clay_72 : decode cX10_clay 72 = .ok (.iconst 1, 1) := by decide +kernel
theorem dX10_clay_73 : decode cX10_clay 73 = .ok (.iload_n 2, 1) := by decide +kernel
theorem dX10_clay_74 : decode cX10_clay 74 = .ok (.iastore, 1) := by decide +kernel
theorem dX10_clay_75 : decode cX10_clay 75 = .ok (.invokevirtual 91, 3) := by decide +kernel
theorem dX10_clay_78 : decode cX10_clay 78 = .ok (.pop, 1) := by decide +kernel
theorem dX10_clay_79 : decode cX10_clay 79 = .ok (.aload_n 0, 1) := by decide +kernel
theorem dX10_clay_80 : decode cX10_clay 80 = .ok (.getfield 10, 3) := by decide +kernel
theorem dX10_clay_83 : decode cX10_clay 83 = .ok (.invokevirtual 40, 3) := by decide +kernel
theorem dX10_clay_86 : decode cX10_clay 86 = .ok (.iconst 1, 1) := by decide +kernel
theorem dX10_clay_87 : decode cX10_clay 87 = .ok (.isub, 1) := by decide +kernel
theorem dX10_clay_88 : decode cX10_clay 88 = .ok (.ireturn, 1) := by decide +kernel
theorem dX10_glaze_0 : decode cX10_glaze 0 = .ok (.iconst 5, 1) := by decide +kernel
theorem dX10_glaze_1 : decode cX10_glaze 1 = .ok (.newarray .int, 2) := by decide +kernel
theorem dX10_glaze_3 : decode cX10_glaze 3 = .ok (.dup, 1) := by decide +kernel
theorem dX10_glaze_4 : decode cX10_glaze 4 = .ok (.iconst 0, 1) := by decide +kernel
theorem dX10_glaze_5 : decode cX10_glaze 5 = .ok (.iload_n 1, 1) := by decide +kernel
theorem dX10_glaze_6 : decode cX10_glaze 6 = .ok (.iastore, 1) := by decide +kernel
theorem dX10_glaze_7 : decode cX10_glaze 7 = .ok (.dup, 1) := by decide +kernel
theorem dX10_glaze_8 : decode cX10_glaze 8 = .ok (.iconst 1, 1) := by decide +kernel
theorem dX10_glaze_9 : decode cX10_glaze 9 = .ok (.iload_n 2, 1) := by decide +kernel
theorem dX10_glaze_10 : decode cX10_glaze 10 = .ok (.iastore, 1) := by decide +kernel
theorem dX10_glaze_11 : decode cX10_glaze 11 = .ok (.dup, 1) := by decide +kernel
theorem dX10_glaze_12 : decode cX10_glaze 12 = .ok (.iconst 2, 1) := by decide +kernel
theorem dX10_glaze_13 : decode cX10_glaze 13 = .ok (.iload_n 3, 1) := by decide +kernel
theorem dX10_glaze_14 : decode cX10_glaze 14 = .ok (.iastore, 1) := by decide +kernel
theorem dX10_glaze_15 : decode cX10_glaze 15 = .ok (.dup, 1) := by decide +kernel
theorem dX10_glaze_16 : decode cX10_glaze 16 = .ok (.iconst 3, 1) := by decide +kernel
theorem dX10_glaze_17 : decode cX10_glaze 17 = .ok (.iload 4, 2) := by decide +kernel
theorem dX10_glaze_19 : decode cX10_glaze 19 = .ok (.iastore, 1) := by decide +kernel
theorem dX10_glaze_20 : decode cX10_glaze 20 = .ok (.dup, 1) := by decide +kernel
theorem dX10_glaze_21 : decode cX10_glaze 21 = .ok (.iconst 4, 1) := by decide +kernel
theorem dX10_glaze_22 : decode cX10_glaze 22 = .ok (.iload 5, 2) := by decide +kernel
theorem dX10_glaze_24 : decode cX10_glaze 24 = .ok (.iastore, 1) := by decide +kernel
theorem dX10_glaze_25 : decode cX10_glaze 25 = .ok (.astore 6, 2) := by decide +kernel
theorem dX10_glaze_27 : decode cX10_glaze 27 = .ok (.iload_n 1, 1) := by decide +kernel
theorem dX10_glaze_28 : decode cX10_glaze 28 = .ok (.ifCond .ne 11, 3) := by decide +kernel
theorem dX10_glaze_31 : decode cX10_glaze 31 = .ok (.iload_n 2, 1) := by decide +kernel
theorem dX10_glaze_32 : decode cX10_glaze 32 = .ok (.ifCond .ne 7, 3) := by decide +kernel
theorem dX10_glaze_35 : decode cX10_glaze 35 = .ok (.iconst 1, 1) := by decide +kernel
theorem dX10_glaze_36 : decode cX10_glaze 36 = .ok (.goto 4, 3) := by decide +kernel
theorem dX10_glaze_39 : decode cX10_glaze 39 = .ok (.iconst 0, 1) := by decide +kernel
theorem dX10_glaze_40 : decode cX10_glaze 40 = .ok (.istore 7, 2) := by decide +kernel
theorem dX10_glaze_42 : decode cX10_glaze 42 = .ok (.aload 6, 2) := by decide +kernel
theorem dX10_glaze_44 : decode cX10_glaze 44 = .ok (.astore 8, 2) := by decide +kernel
theorem dX10_glaze_46 : decode cX10_glaze 46 = .ok (.aload 8, 2) := by decide +kernel
theorem dX10_glaze_48 : decode cX10_glaze 48 = .ok (.arraylength, 1) := by decide +kernel
theorem dX10_glaze_49 : decode cX10_glaze 49 = .ok (.istore 9, 2) := by decide +kernel
theorem dX10_glaze_51 : decode cX10_glaze 51 = .ok (.iconst 0, 1) := by decide +kernel
theorem dX10_glaze_52 : decode cX10_glaze 52 = .ok (.istore 10, 2) := by decide +kernel
theorem dX10_glaze_54 : decode cX10_glaze 54 = .ok (.iload 10, 2) := by decide +kernel
theorem dX10_glaze_56 : decode cX10_glaze 56 = .ok (.iload 9, 2) := by decide +kernel
theorem dX10_glaze_58 : decode cX10_glaze 58 = .ok (.if_icmp .ge 37, 3) := by decide +kernel
theorem dX10_glaze_61 : decode cX10_glaze 61 = .ok (.aload 8, 2) := by decide +kernel
theorem dX10_glaze_63 : decode cX10_glaze 63 = .ok (.iload 10, 2) := by decide +kernel
theorem dX10_glaze_65 : decode cX10_glaze 65 = .ok (.iaload, 1) := by decide +kernel
theorem dX10_glaze_66 : decode cX10_glaze 66 = .ok (.istore 11, 2) := by decide +kernel
theorem dX10_glaze_68 : decode cX10_glaze 68 = .ok (.iload 7, 2) := by decide +kernel
theorem dX10_glaze_70 : decode cX10_glaze 70 = .ok (.iload 11, 2) := by decide +kernel
theorem dX10_glaze_72 : decode cX10_glaze 72 = .ok (.iconst 0, 1) := by decide +kernel
theorem dX10_glaze_73 : decode cX10_glaze 73 = .ok (.bipush 60, 2) := by decide +kernel
theorem dX10_glaze_75 : decode cX10_glaze 75 = .ok (.invokestatic 44, 3) := by decide +kernel
theorem dX10_glaze_78 : decode cX10_glaze 78 = .ok (.ifCond .ne 7, 3) := by decide +kernel
theorem dX10_glaze_81 : decode cX10_glaze 81 = .ok (.iconst 1, 1) := by decide +kernel
theorem dX10_glaze_82 : decode cX10_glaze 82 = .ok (.goto 4, 3) := by decide +kernel
theorem dX10_glaze_85 : decode cX10_glaze 85 = .ok (.iconst 0, 1) := by decide +kernel
theorem dX10_glaze_86 : decode cX10_glaze 86 = .ok (.ior, 1) := by decide +kernel
theorem dX10_glaze_87 : decode cX10_glaze 87 = .ok (.istore 7, 2) := by decide +kernel
theorem dX10_glaze_89 : decode cX10_glaze 89 = .ok (.iinc 10 1, 3) := by decide +kernel
theorem dX10_glaze_92 : decode cX10_glaze 92 = .ok (.goto (-38), 3) := by decide +kernel
theorem dX10_glaze_95 : decode cX10_glaze 95 = .ok (.aload_n 0, 1) := by decide +kernel
theorem dX10_glaze_96 : decode cX10_glaze 96 = .ok (.iload 7, 2) := by decide +kernel
theorem dX10_glaze_98 : decode cX10_glaze 98 = .ok (.iconst 1, 1) := by decide +kernel
theorem dX10_glaze_99 : decode cX10_glaze 99 = .ok (.invokevirtual 88, 3) := by decide +kernel
theorem dX10_glaze_102 : decode cX10_glaze 102 = .ok (.ifCond .ne 27, 3) := by decide +kernel
theorem dX10_glaze_105 : decode cX10_glaze 105 = .ok (.aload_n 0, 1) := by decide +kernel
theorem dX10_glaze_106 : decode cX10_glaze 106 = .ok (.aload_n 0, 1) := by decide +kernel
theorem dX10_glaze_107 : decode cX10_glaze 107 = .ok (.getfield 16, 3) := by decide +kernel
theorem dX10_glaze_110 : decode cX10_glaze 110 = .ok (.invokevirtual 40, 3) := by decide +kernel
theorem dX10_glaze_113 : decode cX10_glaze 113 = .ok (.iconst 4, 1) := by decide +kernel
theorem dX10_glaze_114 : decode cX10_glaze 114 = .ok (.if_icmp .ne 7, 3) := by decide +kernel
theorem dX10_glaze_117 : decode cX10_glaze 117 = .ok (.iconst 1, 1) := by decide +kernel
theorem dX10_glaze_118 : decode cX10_glaze 118 = .ok (.goto 4, 3) := by decide +kernel
theorem dX10_glaze_121 : decode cX10_glaze 121 = .ok (.iconst 0, 1) := by decide +kernel
theorem dX10_glaze_122 : decode cX10_glaze 122 = .ok (.iconst 2, 1) := by decide +kernel
theorem dX10_glaze_123 : decode cX10_glaze 123 = .ok (.invokevirtual 36, 3) := by decide +kernel
theorem dX10_glaze_126 : decode cX10_glaze 126 = .ok (.ifCond .eq 5, 3) := by decide +kernel
theorem dX10_glaze_129 : decode cX10_glaze 129 = .ok (.iconst 0, 1) := by decide +kernel
theorem dX10_glaze_130 : decode cX10_glaze 130 = .ok (.ireturn, 1) := by decide +kernel
theorem dX10_glaze_131 : decode cX10_glaze 131 = .ok (.aload_n 0, 1) := by decide +kernel
theorem dX10_glaze_132 : decode cX10_glaze 132 = .ok (.getfield 16, 3) := by decide +kernel
theorem dX10_glaze_135 : decode cX10_glaze 135 = .ok (.aload 6, 2) := by decide +kernel
theorem dX10_glaze_137 : decode cX10_glaze 137 = .ok (.invokevirtual 91, 3) := by decide +kernel
theorem dX10_glaze_140 : decode cX10_glaze 140 = .ok (.pop, 1) := by decide +kernel
theorem dX10_glaze_141 : decode cX10_glaze 141 = .ok (.aload_n 0, 1) := by decide +kernel
theorem dX10_glaze_142 : decode cX10_glaze 142 = .ok (.getfield 16, 3) := by decide +kernel
theorem dX10_glaze_145 : decode cX10_glaze 145 = .ok (.invokevirtual 40, 3) := by decide +kernel
theorem dX10_glaze_148 : decode cX10_glaze 148 = .ok (.iconst 1, 1) := by decide +kernel
theorem dX10_glaze_149 : decode cX10_glaze 149 = .ok (.isub, 1) := by decide +kernel
theorem dX10_glaze_150 : decode cX10_glaze 150 = .ok (.ireturn, 1) := by decide +kernel
theorem dX10_pot_0 : decode cX10_pot 0 = .ok (.aload_n 0, 1) := by decide +kernel
theorem dX10_pot_1 : decode cX10_pot 1 = .ok (.aload_n 0, 1) := by decide +kernel
theorem dX10_pot_2 : decode cX10_pot 2 = .ok (.iload_n 1, 1) := by decide +kernel
theorem dX10_pot_3 : decode cX10_pot 3 = .ok (.invokevirtual 95, 3) := by decide +kernel
theorem dX10_pot_6 : decode cX10_pot 6 = .ok (.iconst 1, 1) := by decide +kernel
theorem dX10_pot_7 : decode cX10_pot 7 = .ok (.invokevirtual 88, 3) := by decide +kernel
theorem dX10_pot_10 : decode cX10_pot 10 = .ok (.ifCond .ne 77, 3) := by decide +kernel
theorem dX10_pot_13 : decode cX10_pot 13 = .ok (.aload_n 0, 1) := by decide +kernel
theorem dX10_pot_14 : decode cX10_pot 14 = .ok (.iload_n 2, 1) := by decide +kernel
theorem dX10_pot_15 : decode cX10_pot 15 = .ok (.iconst 1, 1) := by decide +kernel
theorem dX10_pot_16 : decode cX10_pot 16 = .ok (.iconst 5, 1) := by decide +kernel
theorem dX10_pot_17 : decode cX10_pot 17 = .ok (.invokestatic 44, 3) := by decide +kernel
theorem dX10_pot_20 : decode cX10_pot 20 = .ok (.ifCond .eq 30, 3) := by decide +kernel
theorem dX10_pot_23 : decode cX10_pot 23 = .ok (.iload_n 3, 1) := by decide +kernel
theorem dX10_pot_24 : decode cX10_pot 24 = .ok (.iconst 1, 1) := by decide +kernel
theorem dX10_pot_25 : decode cX10_pot 25 = .ok (.iconst 3, 1) := by decide +kernel
theorem dX10_pot_26 : decode cX10_pot 26 = .ok (.invokestatic 44, 3) := by decide +kernel
theorem dX10_pot_29 : decode cX10_pot 29 = .ok (.ifCond .eq 21, 3) := by decide +kernel
theorem dX10_pot_32 : decode cX10_pot 32 = .ok (.iload 4, 2) := by decide +kernel
theorem dX10_pot_34 : decode cX10_pot 34 = .ok (.iconst 1, 1) := by decide +kernel
theorem dX10_pot_35 : decode cX10_pot 35 = .ok (.if_icmp .eq 19, 3) := by decide +kernel
theorem dX10_pot_38 : decode cX10_pot 38 = .ok (.iload 4, 2) := by decide +kernel
theorem dX10_pot_40 : decode cX10_pot 40 = .ok (.iconst 2, 1) := by decide +kernel
theorem dX10_pot_41 : decode cX10_pot 41 = .ok (.if_icmp .eq 13, 3) := by decide +kernel
theorem dX10_pot_44 : decode cX10_pot 44 = .ok (.iload 4, 2) := by decide +kernel
theorem dX10_pot_46 : decode cX10_pot 46 = .ok (.iconst 4, 1) := by decide +kernel
theorem dX10_pot_47 : decode cX10_pot 47 = .ok (.if_icmp .eq 7, 3) := by decide +kernel
theorem dX10_pot_50 : decode cX10_pot 50 = .ok (.iconst 1, 1) := by decide +kernel
theorem dX10_pot_51 : decode cX10_pot 51 = .ok (.goto 4, 3) := by decide +kernel
theorem dX10_pot_54 : decode cX10_pot 54 = .ok (.iconst 0, 1) := by decide +kernel
theorem dX10_pot_55 : decode cX10_pot 55 = .ok (.iconst 2, 1) := by decide +kernel
theorem dX10_pot_56 : decode cX10_pot 56 = .ok (.invokevirtual 36, 3) := by decide +kernel
theorem dX10_pot_59 : decode cX10_pot 59 = .ok (.ifCond .ne 28, 3) := by decide +kernel
theorem dX10_pot_62 : decode cX10_pot 62 = .ok (.aload_n 0, 1) := by decide +kernel
theorem dX10_pot_63 : decode cX10_pot 63 = .ok (.aload_n 0, 1) := by decide +kernel
theorem dX10_pot_64 : decode cX10_pot 64 = .ok (.getfield 19, 3) := by decide +kernel
theorem dX10_pot_67 : decode cX10_pot 67 = .ok (.invokevirtual 40, 3) := by decide +kernel
theorem dX10_pot_70 : decode cX10_pot 70 = .ok (.bipush 14, 2) := by decide +kernel
theorem dX10_pot_72 : decode cX10_pot 72 = .ok (.if_icmp .ne 7, 3) := by decide +kernel
theorem dX10_pot_75 : decode cX10_pot 75 = .ok (.iconst 1, 1) := by decide +kernel
theorem dX10_pot_76 : decode cX10_pot 76 = .ok (.goto 4, 3) := by decide +kernel
theorem dX10_pot_79 : decode cX10_pot 79 = .ok (.iconst 0, 1) := by decide +kernel
theorem dX10_pot_80 : decode cX10_pot 80 = .ok (.iconst 3, 1) := by decide +kernel
theorem dX10_pot_81 : decode cX10_pot 81 = .ok (.invokevirtual 36, 3) := by decide +kernel
theorem dX10_pot_84 : decode cX10_pot 84 = .ok (.ifCond .eq 5, 3) := by decide +kernel
theorem dX10_pot_87 : decode cX10_pot 87 = .ok (.iconst 0, 1) := by decide +kernel
theorem dX10_pot_88 : decode cX10_pot 88 = .ok (.ireturn, 1) := by decide +kernel
theorem dX10_pot_89 : decode cX10_pot 89 = .ok (.aload_n 0, 1) := by decide +kernel
theorem dX10_pot_90 : decode cX10_pot 90 = .ok (.getfield 19, 3) := by decide +kernel
theorem dX10_pot_93 : decode cX10_pot 93 = .ok (.new 99, 3) := by decide +kernel
theorem dX10_pot_96 : decode cX10_pot 96 = .ok (.dup, 1) := by decide +kernel
theorem dX10_pot_97 : decode cX10_pot 97 = .ok (.iload_n 1, 1) := by decide +kernel
theorem dX10_pot_98 : decode cX10_pot 98 = .ok (.iload_n 2, 1) := by decide +kernel
theorem dX10_pot_99 : decode cX10_pot 99 = .ok (.iload_n 3, 1) := by decide +kernel
theorem dX10_pot_100 : decode cX10_pot 100 = .ok (.iload 4, 2) := by decide +kernel
theorem dX10_pot_102 : decode cX10_pot 102 = .ok (.invokespecial 101, 3) := by decide +kernel
theorem dX10_pot_105 : decode cX10_pot 105 = .ok (.invokevirtual 91, 3) := by decide +kernel
theorem dX10_pot_108 : decode cX10_pot 108 = .ok (.pop, 1) := by decide +kernel
theorem dX10_pot_109 : decode cX10_pot 109 = .ok (.aload_n 0, 1) := by decide +kernel
theorem dX10_pot_110 : decode cX10_pot 110 = .ok (.getfield 19, 3) := by decide +kernel
theorem dX10_pot_113 : decode cX10_pot 113 = .ok (.invokevirtual 40, 3) := by decide +kernel
theorem dX10_pot_116 : decode cX10_pot 116 = .ok (.iconst 1, 1) := by decide +kernel
theorem dX10_pot_117 : decode cX10_pot 117 = .ok (.isub, 1) := by decide +kernel
theorem dX10_pot_118 : decode cX10_pot 118 = .ok (.ireturn, 1) := by decide +kernel
theorem dX10_cover_0 : decode cX10_cover 0 = .ok (.aload_n 0, 1) := by decide +kernel
theorem dX10_cover_1 : decode cX10_cover 1 = .ok (.aload_n 0, 1) := by decide +kernel
theorem dX10_cover_2 : decode cX10_cover 2 = .ok (.iload_n 1, 1) := by decide +kernel
theorem dX10_cover_3 : decode cX10_cover 3 = .ok (.invokevirtual 104, 3) := by decide +kernel
theorem dX10_cover_6 : decode cX10_cover 6 = .ok (.iconst 1, 1) := by decide +kernel
theorem dX10_cover_7 : decode cX10_cover 7 = .ok (.invokevirtual 88, 3) := by decide +kernel
theorem dX10_cover_10 : decode cX10_cover 10 = .ok (.ifCond .eq 5, 3) := by decide +kernel
theorem dX10_cover_13 : decode cX10_cover 13 = .ok (.iconst 0, 1) := by decide +kernel
theorem dX10_cover_14 : decode cX10_cover 14 = .ok (.ireturn, 1) := by decide +kernel
theorem dX10_cover_15 : decode cX10_cover 15 = .ok (.aload_n 0, 1) := by decide +kernel
theorem dX10_cover_16 : decode cX10_cover 16 = .ok (.getfield 19, 3) := by decide +kernel
theorem dX10_cover_19 : decode cX10_cover 19 = .ok (.iload_n 1, 1) := by decide +kernel
theorem dX10_cover_20 : decode cX10_cover 20 = .ok (.invokevirtual 58, 3) := by decide +kernel
theorem dX10_cover_23 : decode cX10_cover 23 = .ok (.checkcast 99, 3) := by decide +kernel
theorem dX10_cover_26 : decode cX10_cover 26 = .ok (.getfield 107, 3) := by decide +kernel
theorem dX10_cover_29 : decode cX10_cover 29 = .ok (.istore_n 3, 1) := by decide +kernel
theorem dX10_cover_30 : decode cX10_cover 30 = .ok (.aload_n 0, 1) := by decide +kernel
theorem dX10_cover_31 : decode cX10_cover 31 = .ok (.getfield 19, 3) := by decide +kernel
theorem dX10_cover_34 : decode cX10_cover 34 = .ok (.iload_n 1, 1) := by decide +kernel
theorem dX10_cover_35 : decode cX10_cover 35 = .ok (.invokevirtual 58, 3) := by decide +kernel
theorem dX10_cover_38 : decode cX10_cover 38 = .ok (.checkcast 99, 3) := by decide +kernel
theorem dX10_cover_41 : decode cX10_cover 41 = .ok (.iload_n 2, 1) := by decide +kernel
theorem dX10_cover_42 : decode cX10_cover 42 = .ok (.putfield 107, 3) := by decide +kernel
theorem dX10_cover_45 : decode cX10_cover 45 = .ok (.iload_n 3, 1) := by decide +kernel
theorem dX10_cover_46 : decode cX10_cover 46 = .ok (.ireturn, 1) := by decide +kernel
theorem dX10_manyIn_0 : decode cX10_manyIn 0 = .ok (.iconst 0, 1) := by decide +kernel
theorem dX10_manyIn_1 : decode cX10_manyIn 1 = .ok (.istore_n 2, 1) := by decide +kernel
theorem dX10_manyIn_2 : decode cX10_manyIn 2 = .ok (.aload_n 0, 1) := by decide +kernel
theorem dX10_manyIn_3 : decode cX10_manyIn 3 = .ok (.getfield 19, 3) := by decide +kernel
theorem dX10_manyIn_6 : decode cX10_manyIn 6 = .ok (.invokevirtual 110, 3) := by decide +kernel
theorem dX10_manyIn_9 : decode cX10_manyIn 9 = .ok (.astore_n 3, 1) := by decide +kernel
theorem dX10_manyIn_10 : decode cX10_manyIn 10 = .ok (.aload_n 3, 1) := by decide +kernel
theorem dX10_manyIn_11 : decode cX10_manyIn 11 = .ok (.invokeinterface 114 1, 5) := by decide +kernel
theorem dX10_manyIn_16 : decode cX10_manyIn 16 = .ok (.ifCond .eq 37, 3) := by decide +kernel
theorem dX10_manyIn_19 : decode cX10_manyIn 19 = .ok (.aload_n 3, 1) := by decide +kernel
theorem dX10_manyIn_20 : decode cX10_manyIn 20 = .ok (.invokeinterface 120 1, 5) := by decide +kernel
theorem dX10_manyIn_25 : decode cX10_manyIn 25 = .ok (.checkcast 99, 3) := by decide +kernel
theorem dX10_manyIn_28 : decode cX10_manyIn 28 = .ok (.astore 4, 2) := by decide +kernel
theorem dX10_manyIn_30 : decode cX10_manyIn 30 = .ok (.iload_n 2, 1) := by decide +kernel
theorem dX10_manyIn_31 : decode cX10_manyIn 31 = .ok (.aload 4, 2) := by decide +kernel
theorem dX10_manyIn_33 : decode cX10_manyIn 33 = .ok (.getfield 124, 3) := by decide +kernel
theorem dX10_manyIn_36 : decode cX10_manyIn 36 = .ok (.iload_n 1, 1) := by decide +kernel
theorem dX10_manyIn_37 : decode cX10_manyIn 37 = .ok (.if_icmp .ne 7, 3) := by decide +kernel
theorem dX10_manyIn_40 : decode cX10_manyIn 40 = .ok (.iconst 1, 1) := by decide +kernel
theorem dX10_manyIn_41 : decode cX10_manyIn 41 = .ok (.goto 4, 3) := by decide +kernel
theorem dX10_manyIn_44 : decode cX10_manyIn 44 = .ok (.iconst 0, 1) := by decide +kernel
theorem dX10_manyIn_45 : decode cX10_manyIn 45 = .ok (.invokestatic 127, 3) := by decide +kernel
theorem dX10_manyIn_48 : decode cX10_manyIn 48 = .ok (.iadd, 1) := by decide +kernel
theorem dX10_manyIn_49 : decode cX10_manyIn 49 = .ok (.istore_n 2, 1) := by decide +kernel
theorem dX10_manyIn_50 : decode cX10_manyIn 50 = .ok (.goto (-40), 3) := by decide +kernel
theorem dX10_manyIn_53 : decode cX10_manyIn 53 = .ok (.iload_n 2, 1) := by decide +kernel
theorem dX10_manyIn_54 : decode cX10_manyIn 54 = .ok (.ireturn, 1) := by decide +kernel
theorem dX10_dry_0 : decode cX10_dry 0 = .ok (.aload_n 0, 1) := by decide +kernel
theorem dX10_dry_1 : decode cX10_dry 1 = .ok (.iload_n 1, 1) := by decide +kernel
theorem dX10_dry_2 : decode cX10_dry 2 = .ok (.iconst 1, 1) := by decide +kernel
theorem dX10_dry_3 : decode cX10_dry 3 = .ok (.bipush 20, 2) := by decide +kernel
theorem dX10_dry_5 : decode cX10_dry 5 = .ok (.invokestatic 44, 3) := by decide +kernel
theorem dX10_dry_8 : decode cX10_dry 8 = .ok (.ifCond .eq 13, 3) := by decide +kernel
theorem dX10_dry_11 : decode cX10_dry 11 = .ok (.iload_n 2, 1) := by decide +kernel
theorem dX10_dry_12 : decode cX10_dry 12 = .ok (.iconst 1, 1) := by decide +kernel
theorem dX10_dry_13 : decode cX10_dry 13 = .ok (.bipush 8, 2) := by decide +kernel
theorem dX10_dry_15 : decode cX10_dry 15 = .ok (.invokestatic 44, 3) := by decide +kernel
theorem dX10_dry_18 : decode cX10_dry 18 = .ok (.ifCond .ne 7, 3) := by decide +kernel
theorem dX10_dry_21 : decode cX10_dry 21 = .ok (.iconst 1, 1) := by decide +kernel
theorem dX10_dry_22 : decode cX10_dry 22 = .ok (.goto 4, 3) := by decide +kernel
theorem dX10_dry_25 : decode cX10_dry 25 = .ok (.iconst 0, 1) := by decide +kernel
theorem dX10_dry_26 : decode cX10_dry 26 = .ok (.iconst 1, 1) := by decide +kernel
theorem dX10_dry_27 : decode cX10_dry 27 = .ok (.invokevirtual 88, 3) := by decide +kernel
theorem dX10_dry_30 : decode cX10_dry 30 = .ok (.ifCond .ne 28, 3) := by decide +kernel
theorem dX10_dry_33 : decode cX10_dry 33 = .ok (.aload_n 0, 1) := by decide +kernel
theorem dX10_dry_34 : decode cX10_dry 34 = .ok (.aload_n 0, 1) := by decide +kernel
theorem dX10_dry_35 : decode cX10_dry 35 = .ok (.getfield 131, 3) := by decide +kernel
theorem dX10_dry_38 : decode cX10_dry 38 = .ok (.iload_n 1, 1) := by decide +kernel
theorem dX10_dry_39 : decode cX10_dry 39 = .ok (.iadd, 1) := by decide +kernel
theorem dX10_dry_40 : decode cX10_dry 40 = .ok (.sipush 200, 3) := by decide +kernel
theorem dX10_dry_43 : decode cX10_dry 43 = .ok (.if_icmp .le 7, 3) := by decide +kernel
theorem dX10_dry_46 : decode cX10_dry 46 = .ok (.iconst 1, 1) := by decide +kernel
theorem dX10_dry_47 : decode cX10_dry 47 = .ok (.goto 4, 3) := by decide +kernel
theorem dX10_dry_50 : decode cX10_dry 50 = .ok (.iconst 0, 1) := by decide +kernel
theorem dX10_dry_51 : decode cX10_dry 51 = .ok (.iconst 2, 1) := by decide +kernel
theorem dX10_dry_52 : decode cX10_dry 52 = .ok (.invokevirtual 36, 3) := by decide +kernel
theorem dX10_dry_55 : decode cX10_dry 55 = .ok (.ifCond .eq 5, 3) := by decide +kernel
theorem dX10_dry_58 : decode cX10_dry 58 = .ok (.iconst 0, 1) := by decide +kernel
theorem dX10_dry_59 : decode cX10_dry 59 = .ok (.ireturn, 1) := by decide +kernel
theorem dX10_dry_60 : decode cX10_dry 60 = .ok (.iconst 0, 1) := by decide +kernel
theorem dX10_dry_61 : decode cX10_dry 61 = .ok (.istore_n 3, 1) := by decide +kernel
theorem dX10_dry_62 : decode cX10_dry 62 = .ok (.iload_n 3, 1) := by decide +kernel
theorem dX10_dry_63 : decode cX10_dry 63 = .ok (.iload_n 1, 1) := by decide +kernel
theorem dX10_dry_64 : decode cX10_dry 64 = .ok (.if_icmp .ge 49, 3) := by decide +kernel
theorem dX10_dry_67 : decode cX10_dry 67 = .ok (.aload_n 0, 1) := by decide +kernel
theorem dX10_dry_68 : decode cX10_dry 68 = .ok (.getfield 19, 3) := by decide +kernel
theorem dX10_dry_71 : decode cX10_dry 71 = .ok (.invokevirtual 110, 3) := by decide +kernel
theorem dX10_dry_74 : decode cX10_dry 74 = .ok (.astore 4, 2) := by decide +kernel
theorem dX10_dry_76 : decode cX10_dry 76 = .ok (.aload 4, 2) := by decide +kernel
theorem dX10_dry_78 : decode cX10_dry 78 = .ok (.invokeinterface 114 1, 5) := by decide +kernel
theorem dX10_dry_83 : decode cX10_dry 83 = .ok (.ifCond .eq 24, 3) := by decide +kernel
theorem dX10_dry_86 : decode cX10_dry 86 = .ok (.aload 4, 2) := by decide +kernel
theorem dX10_dry_88 : decode cX10_dry 88 = .ok (.invokeinterface 120 1, 5) := by decide +kernel
theorem dX10_dry_93 : decode cX10_dry 93 = .ok (.checkcast 99, 3) := by decide +kernel
theorem dX10_dry_96 : decode cX10_dry 96 = .ok (.astore 5, 2) := by decide +kernel
theorem dX10_dry_98 : decode cX10_dry 98 = .ok (.aload 5, 2) := by decide +kernel
theorem dX10_dry_100 : decode cX10_dry 100 = .ok (.iload_n 2, 1) := by decide +kernel
theorem dX10_dry_101 : decode cX10_dry 101 = .ok (.invokevirtual 134, 3) := by decide +kernel
theorem dX10_dry_104 : decode cX10_dry 104 = .ok (.goto (-28), 3) := by decide +kernel
theorem dX10_dry_107 : decode cX10_dry 107 = .ok (.iinc 3 1, 3) := by decide +kernel
theorem dX10_dry_110 : decode cX10_dry 110 = .ok (.goto (-48), 3) := by decide +kernel
theorem dX10_dry_113 : decode cX10_dry 113 = .ok (.aload_n 0, 1) := by decide +kernel
theorem dX10_dry_114 : decode cX10_dry 114 = .ok (.dup, 1) := by decide +kernel
theorem dX10_dry_115 : decode cX10_dry 115 = .ok (.getfield 131, 3) := by decide +kernel
theorem dX10_dry_118 : decode cX10_dry 118 = .ok (.iload_n 1, 1) := by decide +kernel
theorem dX10_dry_119 : decode cX10_dry 119 = .ok (.iadd, 1) := by decide +kernel
theorem dX10_dry_120 : decode cX10_dry 120 = .ok (.putfield 131, 3) := by decide +kernel
theorem dX10_dry_123 : decode cX10_dry 123 = .ok (.aload_n 0, 1) := by decide +kernel
theorem dX10_dry_124 : decode cX10_dry 124 = .ok (.iconst 1, 1) := by decide +kernel
theorem dX10_dry_125 : decode cX10_dry 125 = .ok (.invokevirtual 137, 3) := by decide +kernel
theorem dX10_dry_128 : decode cX10_dry 128 = .ok (.ireturn, 1) := by decide +kernel
theorem dX10_dip_0 : decode cX10_dip 0 = .ok (.aload_n 0, 1) := by decide +kernel
theorem dX10_dip_1 : decode cX10_dip 1 = .ok (.aload_n 0, 1) := by decide +kernel
theorem dX10_dip_2 : decode cX10_dip 2 = .ok (.iload_n 1, 1) := by decide +kernel
theorem dX10_dip_3 : decode cX10_dip 3 = .ok (.invokevirtual 104, 3) := by decide +kernel
theorem dX10_dip_6 : decode cX10_dip 6 = .ok (.ifCond .ne 11, 3) := by decide +kernel
theorem dX10_dip_9 : decode cX10_dip 9 = .ok (.aload_n 0, 1) := by decide +kernel
theorem dX10_dip_10 : decode cX10_dip 10 = .ok (.iload_n 2, 1) := by decide +kernel
theorem dX10_dip_11 : decode cX10_dip 11 = .ok (.invokevirtual 141, 3) := by decide +kernel
theorem dX10_dip_14 : decode cX10_dip 14 = .ok (.ifCond .eq 7, 3) := by decide +kernel
theorem dX10_dip_17 : decode cX10_dip 17 = .ok (.iconst 1, 1) := by decide +kernel
theorem dX10_dip_18 : decode cX10_dip 18 = .ok (.goto 4, 3) := by decide +kernel
theorem dX10_dip_21 : decode cX10_dip 21 = .ok (.iconst 0, 1) := by decide +kernel
theorem dX10_dip_22 : decode cX10_dip 22 = .ok (.iconst 1, 1) := by decide +kernel
theorem dX10_dip_23 : decode cX10_dip 23 = .ok (.invokevirtual 88, 3) := by decide +kernel
theorem dX10_dip_26 : decode cX10_dip 26 = .ok (.ifCond .ne 34, 3) := by decide +kernel
theorem dX10_dip_29 : decode cX10_dip 29 = .ok (.aload_n 0, 1) := by decide +kernel
theorem dX10_dip_30 : decode cX10_dip 30 = .ok (.aload_n 0, 1) := by decide +kernel
theorem dX10_dip_31 : decode cX10_dip 31 = .ok (.getfield 19, 3) := by decide +kernel
theorem dX10_dip_34 : decode cX10_dip 34 = .ok (.iload_n 1, 1) := by decide +kernel
theorem dX10_dip_35 : decode cX10_dip 35 = .ok (.invokevirtual 58, 3) := by decide +kernel
theorem dX10_dip_38 : decode cX10_dip 38 = .ok (.checkcast 99, 3) := by decide +kernel
theorem dX10_dip_41 : decode cX10_dip 41 = .ok (.getfield 124, 3) := by decide +kernel
theorem dX10_dip_44 : decode cX10_dip 44 = .ok (.iconst 2, 1) := by decide +kernel
theorem dX10_dip_45 : decode cX10_dip 45 = .ok (.if_icmp .eq 7, 3) := by decide +kernel
theorem dX10_dip_48 : decode cX10_dip 48 = .ok (.iconst 1, 1) := by decide +kernel
theorem dX10_dip_49 : decode cX10_dip 49 = .ok (.goto 4, 3) := by decide +kernel
theorem dX10_dip_52 : decode cX10_dip 52 = .ok (.iconst 0, 1) := by decide +kernel
theorem dX10_dip_53 : decode cX10_dip 53 = .ok (.iconst 2, 1) := by decide +kernel
theorem dX10_dip_54 : decode cX10_dip 54 = .ok (.invokevirtual 36, 3) := by decide +kernel
theorem dX10_dip_57 : decode cX10_dip 57 = .ok (.ifCond .eq 5, 3) := by decide +kernel
theorem dX10_dip_60 : decode cX10_dip 60 = .ok (.iconst 0, 1) := by decide +kernel
theorem dX10_dip_61 : decode cX10_dip 61 = .ok (.ireturn, 1) := by decide +kernel
theorem dX10_dip_62 : decode cX10_dip 62 = .ok (.aload_n 0, 1) := by decide +kernel
theorem dX10_dip_63 : decode cX10_dip 63 = .ok (.getfield 19, 3) := by decide +kernel
theorem dX10_dip_66 : decode cX10_dip 66 = .ok (.iload_n 1, 1) := by decide +kernel
theorem dX10_dip_67 : decode cX10_dip 67 = .ok (.invokevirtual 58, 3) := by decide +kernel
theorem dX10_dip_70 : decode cX10_dip 70 = .ok (.checkcast 99, 3) := by decide +kernel
theorem dX10_dip_73 : decode cX10_dip 73 = .ok (.iconst 3, 1) := by decide +kernel
theorem dX10_dip_74 : decode cX10_dip 74 = .ok (.putfield 124, 3) := by decide +kernel
theorem dX10_dip_77 : decode cX10_dip 77 = .ok (.aload_n 0, 1) := by decide +kernel
theorem dX10_dip_78 : decode cX10_dip 78 = .ok (.getfield 19, 3) := by decide +kernel
theorem dX10_dip_81 : decode cX10_dip 81 = .ok (.iload_n 1, 1) := by decide +kernel
theorem dX10_dip_82 : decode cX10_dip 82 = .ok (.invokevirtual 58, 3) := by decide +kernel
theorem dX10_dip_85 : decode cX10_dip 85 = .ok (.checkcast 99, 3) := by decide +kernel
theorem dX10_dip_88 : decode cX10_dip 88 = .ok (.iload_n 2, 1) := by decide +kernel
theorem dX10_dip_89 : decode cX10_dip 89 = .ok (.putfield 144, 3) := by decide +kernel
theorem dX10_dip_92 : decode cX10_dip 92 = .ok (.aload_n 0, 1) := by decide +kernel
theorem dX10_dip_93 : decode cX10_dip 93 = .ok (.iload_n 2, 1) := by decide +kernel
theorem dX10_dip_94 : decode cX10_dip 94 = .ok (.invokevirtual 147, 3) := by decide +kernel
theorem dX10_dip_97 : decode cX10_dip 97 = .ok (.ireturn, 1) := by decide +kernel
theorem dX10_isTaken_0 : decode cX10_isTaken 0 = .ok (.aload_n 0, 1) := by decide +kernel
theorem dX10_isTaken_1 : decode cX10_isTaken 1 = .ok (.getfield 19, 3) := by decide +kernel
theorem dX10_isTaken_4 : decode cX10_isTaken 4 = .ok (.invokevirtual 110, 3) := by decide +kernel
theorem dX10_isTaken_7 : decode cX10_isTaken 7 = .ok (.astore_n 3, 1) := by decide +kernel
theorem dX10_isTaken_8 : decode cX10_isTaken 8 = .ok (.aload_n 3, 1) := by decide +kernel
theorem dX10_isTaken_9 : decode cX10_isTaken 9 = .ok (.invokeinterface 114 1, 5) := by decide +kernel
theorem dX10_isTaken_14 : decode cX10_isTaken 14 = .ok (.ifCond .eq 53, 3) := by decide +kernel
theorem dX10_isTaken_17 : decode cX10_isTaken 17 = .ok (.aload_n 3, 1) := by decide +kernel
theorem dX10_isTaken_18 : decode cX10_isTaken 18 = .ok (.invokeinterface 120 1, 5) := by decide +kernel
theorem dX10_isTaken_23 : decode cX10_isTaken 23 = .ok (.checkcast 99, 3) := by decide +kernel
theorem dX10_isTaken_26 : decode cX10_isTaken 26 = .ok (.astore 4, 2) := by decide +kernel
theorem dX10_isTaken_28 : decode cX10_isTaken 28 = .ok (.aload 4, 2) := by decide +kernel
theorem dX10_isTaken_30 : decode cX10_isTaken 30 = .ok (.getfield 150, 3) := by decide +kernel
theorem dX10_isTaken_33 : decode cX10_isTaken 33 = .ok (.iload_n 1, 1) := by decide +kernel
theorem dX10_isTaken_34 : decode cX10_isTaken 34 = .ok (.if_icmp .ne 30, 3) := by decide +kernel
theorem dX10_isTaken_37 : decode cX10_isTaken 37 = .ok (.iload_n 2, 1) := by decide +kernel
theorem dX10_isTaken_38 : decode cX10_isTaken 38 = .ok (.aload 4, 2) := by decide +kernel
theorem dX10_isTaken_40 : decode cX10_isTaken 40 = .ok (.getfield 153, 3) := by decide +kernel
theorem dX10_isTaken_43 : decode cX10_isTaken 43 = .ok (.aload 4, 2) := by decide +kernel
theorem dX10_isTaken_45 : decode cX10_isTaken 45 = .ok (.getfield 153, 3) := by decide +kernel
theorem dX10_isTaken_48 : decode cX10_isTaken 48 = .ok (.aload 4, 2) := by decide +kernel
theorem dX10_isTaken_50 : decode cX10_isTaken 50 = .ok (.getfield 156, 3) := by decide +kernel
theorem dX10_isTaken_53 : decode cX10_isTaken 53 = .ok (.iadd, 1) := by decide +kernel
theorem dX10_isTaken_54 : decode cX10_isTaken 54 = .ok (.iconst 1, 1) := by decide +kernel
theorem dX10_isTaken_55 : decode cX10_isTaken 55 = .ok (.isub, 1) := by decide +kernel
theorem dX10_isTaken_56 : decode cX10_isTaken 56 = .ok (.invokestatic 44, 3) := by decide +kernel
theorem dX10_isTaken_59 : decode cX10_isTaken 59 = .ok (.ifCond .eq 5, 3) := by decide +kernel
theorem dX10_isTaken_62 : decode cX10_isTaken 62 = .ok (.iconst 1, 1) := by decide +kernel
theorem dX10_isTaken_63 : decode cX10_isTaken 63 = .ok (.ireturn, 1) := by decide +kernel
theorem dX10_isTaken_64 : decode cX10_isTaken 64 = .ok (.goto (-56), 3) := by decide +kernel
theorem dX10_isTaken_67 : decode cX10_isTaken 67 = .ok (.iconst 0, 1) := by decide +kernel
theorem dX10_isTaken_68 : decode cX10_isTaken 68 = .ok (.ireturn, 1) := by decide +kernel
theorem dX10_free_0 : decode cX10_free 0 = .ok (.iconst 0, 1) := by decide +kernel
theorem dX10_free_1 : decode cX10_free 1 = .ok (.istore_n 2, 1) := by decide +kernel
theorem dX10_free_2 : decode cX10_free 2 = .ok (.iconst 0, 1) := by decide +kernel
theorem dX10_free_3 : decode cX10_free 3 = .ok (.istore_n 3, 1) := by decide +kernel
theorem dX10_free_4 : decode cX10_free 4 = .ok (.iload_n 3, 1) := by decide +kernel
theorem dX10_free_5 : decode cX10_free 5 = .ok (.bipush 10, 2) := by decide +kernel
theorem dX10_free_7 : decode cX10_free 7 = .ok (.if_icmp .ge 29, 3) := by decide +kernel
theorem dX10_free_10 : decode cX10_free 10 = .ok (.iload_n 2, 1) := by decide +kernel
theorem dX10_free_11 : decode cX10_free 11 = .ok (.aload_n 0, 1) := by decide +kernel
theorem dX10_free_12 : decode cX10_free 12 = .ok (.iload_n 1, 1) := by decide +kernel
theorem dX10_free_13 : decode cX10_free 13 = .ok (.iload_n 3, 1) := by decide +kernel
theorem dX10_free_14 : decode cX10_free 14 = .ok (.invokevirtual 159, 3) := by decide +kernel
theorem dX10_free_17 : decode cX10_free 17 = .ok (.ifCond .ne 7, 3) := by decide +kernel
theorem dX10_free_20 : decode cX10_free 20 = .ok (.iconst 1, 1) := by decide +kernel
theorem dX10_free_21 : decode cX10_free 21 = .ok (.goto 4, 3) := by decide +kernel
theorem dX10_free_24 : decode cX10_free 24 = .ok (.iconst 0, 1) := by decide +kernel
theorem dX10_free_25 : decode cX10_free 25 = .ok (.invokestatic 127, 3) := by decide +kernel
theorem dX10_free_28 : decode cX10_free 28 = .ok (.iadd, 1) := by decide +kernel
theorem dX10_free_29 : decode cX10_free 29 = .ok (.istore_n 2, 1) := by decide +kernel
theorem dX10_free_30 : decode cX10_free 30 = .ok (.iinc 3 1, 3) := by decide +kernel
theorem dX10_free_33 : decode cX10_free 33 = .ok (.goto (-29), 3) := by decide +kernel
theorem dX10_free_36 : decode cX10_free 36 = .ok (.iload_n 2, 1) := by decide +kernel
theorem dX10_free_37 : decode cX10_free 37 = .ok (.ireturn, 1) := by decide +kernel
theorem dX10_row_0 : decode cX10_row 0 = .ok (.iconst 0, 1) := by decide +kernel
theorem dX10_row_1 : decode cX10_row 1 = .ok (.istore_n 2, 1) := by decide +kernel
theorem dX10_row_2 : decode cX10_row 2 = .ok (.iconst 0, 1) := by decide +kernel
theorem dX10_row_3 : decode cX10_row 3 = .ok (.istore_n 3, 1) := by decide +kernel
theorem dX10_row_4 : decode cX10_row 4 = .ok (.iconst 0, 1) := by decide +kernel
theorem dX10_row_5 : decode cX10_row 5 = .ok (.istore 4, 2) := by decide +kernel
theorem dX10_row_7 : decode cX10_row 7 = .ok (.iload 4, 2) := by decide +kernel
theorem dX10_row_9 : decode cX10_row 9 = .ok (.bipush 10, 2) := by decide +kernel
theorem dX10_row_11 : decode cX10_row 11 = .ok (.if_icmp .ge 33, 3) := by decide +kernel
theorem dX10_row_14 : decode cX10_row 14 = .ok (.aload_n 0, 1) := by decide +kernel
theorem dX10_row_15 : decode cX10_row 15 = .ok (.iload_n 1, 1) := by decide +kernel
theorem dX10_row_16 : decode cX10_row 16 = .ok (.iload 4, 2) := by decide +kernel
theorem dX10_row_18 : decode cX10_row 18 = .ok (.invokevirtual 159, 3) := by decide +kernel
theorem dX10_row_21 : decode cX10_row 21 = .ok (.ifCond .eq 7, 3) := by decide +kernel
theorem dX10_row_24 : decode cX10_row 24 = .ok (.iconst 0, 1) := by decide +kernel
theorem dX10_row_25 : decode cX10_row 25 = .ok (.goto 6, 3) := by decide +kernel
theorem dX10_row_28 : decode cX10_row 28 = .ok (.iload_n 3, 1) := by decide +kernel
theorem dX10_row_29 : decode cX10_row 29 = .ok (.iconst 1, 1) := by decide +kernel
theorem dX10_row_30 : decode cX10_row 30 = .ok (.iadd, 1) := by decide +kernel
theorem dX10_row_31 : decode cX10_row 31 = .ok (.istore_n 3, 1) := by decide +kernel
theorem dX10_row_32 : decode cX10_row 32 = .ok (.iload_n 2, 1) := by decide +kernel
theorem dX10_row_33 : decode cX10_row 33 = .ok (.iload_n 3, 1) := by decide +kernel
theorem dX10_row_34 : decode cX10_row 34 = .ok (.invokestatic 163, 3) := by decide +kernel
theorem dX10_row_37 : decode cX10_row 37 = .ok (.istore_n 2, 1) := by decide +kernel
theorem dX10_row_38 : decode cX10_row 38 = .ok (.iinc 4 1, 3) := by decide +kernel
theorem dX10_row_41 : decode cX10_row 41 = .ok (.goto (-34), 3) := by decide +kernel
theorem dX10_row_44 : decode cX10_row 44 = .ok (.iload_n 2, 1) := by decide +kernel
theorem dX10_row_45 : decode cX10_row 45 = .ok (.ireturn, 1) := by decide +kernel
theorem dX10_high_0 : decode cX10_high 0 = .ok (.iload_n 0, 1) := by decide +kernel
theorem dX10_high_1 : decode cX10_high 1 = .ok (.iconst 2, 1) := by decide +kernel
theorem dX10_high_2 : decode cX10_high 2 = .ok (.if_icmp .ne 7, 3) := by decide +kernel
theorem dX10_high_5 : decode cX10_high 5 = .ok (.iconst 2, 1) := by decide +kernel
theorem dX10_high_6 : decode cX10_high 6 = .ok (.goto 4, 3) := by decide +kernel
theorem dX10_high_9 : decode cX10_high 9 = .ok (.iconst 3, 1) := by decide +kernel
theorem dX10_high_10 : decode cX10_high 10 = .ok (.ireturn, 1) := by decide +kernel
theorem dX10_set_0 : decode cX10_set 0 = .ok (.aload_n 0, 1) := by decide +kernel
theorem dX10_set_1 : decode cX10_set 1 = .ok (.aload_n 0, 1) := by decide +kernel
theorem dX10_set_2 : decode cX10_set 2 = .ok (.iload_n 1, 1) := by decide +kernel
theorem dX10_set_3 : decode cX10_set 3 = .ok (.invokevirtual 104, 3) := by decide +kernel
theorem dX10_set_6 : decode cX10_set 6 = .ok (.ifCond .ne 20, 3) := by decide +kernel
theorem dX10_set_9 : decode cX10_set 9 = .ok (.iload_n 2, 1) := by decide +kernel
theorem dX10_set_10 : decode cX10_set 10 = .ok (.invokestatic 167, 3) := by decide +kernel
theorem dX10_set_13 : decode cX10_set 13 = .ok (.ifCond .ne 13, 3) := by decide +kernel
theorem dX10_set_16 : decode cX10_set 16 = .ok (.iload_n 3, 1) := by decide +kernel
theorem dX10_set_17 : decode cX10_set 17 = .ok (.iconst 0, 1) := by decide +kernel
theorem dX10_set_18 : decode cX10_set 18 = .ok (.bipush 9, 2) := by decide +kernel
theorem dX10_set_20 : decode cX10_set 20 = .ok (.invokestatic 44, 3) := by decide +kernel
theorem dX10_set_23 : decode cX10_set 23 = .ok (.ifCond .ne 7, 3) := by decide +kernel
theorem dX10_set_26 : decode cX10_set 26 = .ok (.iconst 1, 1) := by decide +kernel
theorem dX10_set_27 : decode cX10_set 27 = .ok (.goto 4, 3) := by decide +kernel
theorem dX10_set_30 : decode cX10_set 30 = .ok (.iconst 0, 1) := by decide +kernel
theorem dX10_set_31 : decode cX10_set 31 = .ok (.iconst 1, 1) := by decide +kernel
theorem dX10_set_32 : decode cX10_set 32 = .ok (.invokevirtual 88, 3) := by decide +kernel
theorem dX10_set_35 : decode cX10_set 35 = .ok (.ifCond .eq 5, 3) := by decide +kernel
theorem dX10_set_38 : decode cX10_set 38 = .ok (.iconst 0, 1) := by decide +kernel
theorem dX10_set_39 : decode cX10_set 39 = .ok (.ireturn, 1) := by decide +kernel
theorem dX10_set_40 : decode cX10_set 40 = .ok (.aload_n 0, 1) := by decide +kernel
theorem dX10_set_41 : decode cX10_set 41 = .ok (.getfield 19, 3) := by decide +kernel
theorem dX10_set_44 : decode cX10_set 44 = .ok (.iload_n 1, 1) := by decide +kernel
theorem dX10_set_45 : decode cX10_set 45 = .ok (.invokevirtual 58, 3) := by decide +kernel
theorem dX10_set_48 : decode cX10_set 48 = .ok (.checkcast 99, 3) := by decide +kernel
theorem dX10_set_51 : decode cX10_set 51 = .ok (.astore 4, 2) := by decide +kernel
theorem dX10_set_53 : decode cX10_set 53 = .ok (.aload_n 0, 1) := by decide +kernel
theorem dX10_set_54 : decode cX10_set 54 = .ok (.invokevirtual 170, 3) := by decide +kernel
theorem dX10_set_57 : decode cX10_set 57 = .ok (.ifCond .ne 62, 3) := by decide +kernel
theorem dX10_set_60 : decode cX10_set 60 = .ok (.aload 4, 2) := by decide +kernel
theorem dX10_set_62 : decode cX10_set 62 = .ok (.getfield 124, 3) := by decide +kernel
theorem dX10_set_65 : decode cX10_set 65 = .ok (.ifCond .eq 21, 3) := by decide +kernel
theorem dX10_set_68 : decode cX10_set 68 = .ok (.aload 4, 2) := by decide +kernel
theorem dX10_set_70 : decode cX10_set 70 = .ok (.getfield 124, 3) := by decide +kernel
theorem dX10_set_73 : decode cX10_set 73 = .ok (.iconst 1, 1) := by decide +kernel
theorem dX10_set_74 : decode cX10_set 74 = .ok (.if_icmp .eq 12, 3) := by decide +kernel
theorem dX10_set_77 : decode cX10_set 77 = .ok (.aload 4, 2) := by decide +kernel
theorem dX10_set_79 : decode cX10_set 79 = .ok (.getfield 124, 3) := by decide +kernel
theorem dX10_set_82 : decode cX10_set 82 = .ok (.iconst 3, 1) := by decide +kernel
theorem dX10_set_83 : decode cX10_set 83 = .ok (.if_icmp .ne 36, 3) := by decide +kernel
theorem dX10_set_86 : decode cX10_set 86 = .ok (.aload 4, 2) := by decide +kernel
theorem dX10_set_88 : decode cX10_set 88 = .ok (.getfield 150, 3) := by decide +kernel
theorem dX10_set_91 : decode cX10_set 91 = .ok (.iconst (-1), 1) := by decide +kernel
theorem dX10_set_92 : decode cX10_set 92 = .ok (.if_icmp .ne 27, 3) := by decide +kernel
theorem dX10_set_95 : decode cX10_set 95 = .ok (.aload 4, 2) := by decide +kernel
theorem dX10_set_97 : decode cX10_set 97 = .ok (.getfield 173, 3) := by decide +kernel
theorem dX10_set_100 : decode cX10_set 100 = .ok (.iload_n 2, 1) := by decide +kernel
theorem dX10_set_101 : decode cX10_set 101 = .ok (.invokestatic 176, 3) := by decide +kernel
theorem dX10_set_104 : decode cX10_set 104 = .ok (.if_icmp .gt 15, 3) := by decide +kernel
theorem dX10_set_107 : decode cX10_set 107 = .ok (.iload_n 3, 1) := by decide +kernel
theorem dX10_set_108 : decode cX10_set 108 = .ok (.aload 4, 2) := by decide +kernel
theorem dX10_set_110 : decode cX10_set 110 = .ok (.getfield 156, 3) := by decide +kernel
theorem dX10_set_113 : decode cX10_set 113 = .ok (.iadd, 1) := by decide +kernel
theorem dX10_set_114 : decode cX10_set 114 = .ok (.bipush 10, 2) := by decide +kernel
theorem dX10_set_116 : decode cX10_set 116 = .ok (.if_icmp .le 7, 3) := by decide +kernel
theorem dX10_set_119 : decode cX10_set 119 = .ok (.iconst 1, 1) := by decide +kernel
theorem dX10_set_120 : decode cX10_set 120 = .ok (.goto 4, 3) := by decide +kernel
theorem dX10_set_123 : decode cX10_set 123 = .ok (.iconst 0, 1) := by decide +kernel
theorem dX10_set_124 : decode cX10_set 124 = .ok (.istore 5, 2) := by decide +kernel
theorem dX10_set_126 : decode cX10_set 126 = .ok (.iconst 0, 1) := by decide +kernel
theorem dX10_set_127 : decode cX10_set 127 = .ok (.istore 6, 2) := by decide +kernel
theorem dX10_set_129 : decode cX10_set 129 = .ok (.iload 6, 2) := by decide +kernel
theorem dX10_set_131 : decode cX10_set 131 = .ok (.aload 4, 2) := by decide +kernel
theorem dX10_set_133 : decode cX10_set 133 = .ok (.getfield 156, 3) := by decide +kernel
theorem dX10_set_136 : decode cX10_set 136 = .ok (.if_icmp .ge 25, 3) := by decide +kernel
theorem dX10_set_139 : decode cX10_set 139 = .ok (.iload 5, 2) := by decide +kernel
theorem dX10_set_141 : decode cX10_set 141 = .ok (.ifCond .ne 20, 3) := by decide +kernel
theorem dX10_set_144 : decode cX10_set 144 = .ok (.aload_n 0, 1) := by decide +kernel
theorem dX10_set_145 : decode cX10_set 145 = .ok (.iload_n 2, 1) := by decide +kernel
theorem dX10_set_146 : decode cX10_set 146 = .ok (.iload_n 3, 1) := by decide +kernel
theorem dX10_set_147 : decode cX10_set 147 = .ok (.iload 6, 2) := by decide +kernel
theorem dX10_set_149 : decode cX10_set 149 = .ok (.iadd, 1) := by decide +kernel
theorem dX10_set_150 : decode cX10_set 150 = .ok (.invokevirtual 159, 3) := by decide +kernel
theorem dX10_set_153 : decode cX10_set 153 = .ok (.istore 5, 2) := by decide +kernel
theorem dX10_set_155 : decode cX10_set 155 = .ok (.iinc 6 1, 3) := by decide +kernel
theorem dX10_set_158 : decode cX10_set 158 = .ok (.goto (-29), 3) := by decide +kernel
theorem dX10_set_161 : decode cX10_set 161 = .ok (.aload_n 0, 1) := by decide +kernel
theorem dX10_set_162 : decode cX10_set 162 = .ok (.iload 5, 2) := by decide +kernel
theorem dX10_set_164 : decode cX10_set 164 = .ok (.iconst 2, 1) := by decide +kernel
theorem dX10_set_165 : decode cX10_set 165 = .ok (.invokevirtual 36, 3) := by decide +kernel
theorem dX10_set_168 : decode cX10_set 168 = .ok (.ifCond .eq 5, 3) := by decide +kernel
theorem dX10_set_171 : decode cX10_set 171 = .ok (.iconst 0, 1) := by decide +kernel
theorem dX10_set_172 : decode cX10_set 172 = .ok (.ireturn, 1) := by decide +kernel
theorem dX10_set_173 : decode cX10_set 173 = .ok (.aload 4, 2) := by decide +kernel
theorem dX10_set_175 : decode cX10_set 175 = .ok (.iload_n 2, 1) := by decide +kernel
theorem dX10_set_176 : decode cX10_set 176 = .ok (.putfield 150, 3) := by decide +kernel
theorem dX10_set_179 : decode cX10_set 179 = .ok (.aload 4, 2) := by decide +kernel
theorem dX10_set_181 : decode cX10_set 181 = .ok (.iload_n 3, 1) := by decide +kernel
theorem dX10_set_182 : decode cX10_set 182 = .ok (.putfield 153, 3) := by decide +kernel
theorem dX10_set_185 : decode cX10_set 185 = .ok (.aload_n 0, 1) := by decide +kernel
theorem dX10_set_186 : decode cX10_set 186 = .ok (.iload_n 2, 1) := by decide +kernel
theorem dX10_set_187 : decode cX10_set 187 = .ok (.invokevirtual 179, 3) := by decide +kernel
theorem dX10_set_190 : decode cX10_set 190 = .ok (.ireturn, 1) := by decide +kernel
theorem dX10_leave_0 : decode cX10_leave 0 = .ok (.aload_n 0, 1) := by decide +kernel
theorem dX10_leave_1 : decode cX10_leave 1 = .ok (.iconst (-1), 1) := by decide +kernel
theorem dX10_leave_2 : decode cX10_leave 2 = .ok (.putfield 150, 3) := by decide +kernel
theorem dX10_leave_5 : decode cX10_leave 5 = .ok (.aload_n 0, 1) := by decide +kernel
theorem dX10_leave_6 : decode cX10_leave 6 = .ok (.iconst (-1), 1) := by decide +kernel
theorem dX10_leave_7 : decode cX10_leave 7 = .ok (.putfield 153, 3) := by decide +kernel
theorem dX10_leave_10 : decode cX10_leave 10 = .ok (.return_, 1) := by decide +kernel
theorem dX10_take_0 : decode cX10_take 0 = .ok (.aload_n 0, 1) := by decide +kernel
theorem dX10_take_1 : decode cX10_take 1 = .ok (.aload_n 0, 1) := by decide +kernel
theorem dX10_take_2 : decode cX10_take 2 = .ok (.iload_n 1, 1) := by decide +kernel
theorem dX10_take_3 : decode cX10_take 3 = .ok (.invokevirtual 104, 3) := by decide +kernel
theorem dX10_take_6 : decode cX10_take 6 = .ok (.iconst 1, 1) := by decide +kernel
theorem dX10_take_7 : decode cX10_take 7 = .ok (.invokevirtual 88, 3) := by decide +kernel
theorem dX10_take_10 : decode cX10_take 10 = .ok (.ifCond .ne 41, 3) := by decide +kernel
theorem dX10_take_13 : decode cX10_take 13 = .ok (.aload_n 0, 1) := by decide +kernel
theorem dX10_take_14 : decode cX10_take 14 = .ok (.aload_n 0, 1) := by decide +kernel
theorem dX10_take_15 : decode cX10_take 15 = .ok (.invokevirtual 170, 3) := by decide +kernel
theorem dX10_take_18 : decode cX10_take 18 = .ok (.ifCond .ne 21, 3) := by decide +kernel
theorem dX10_take_21 : decode cX10_take 21 = .ok (.aload_n 0, 1) := by decide +kernel
theorem dX10_take_22 : decode cX10_take 22 = .ok (.getfield 19, 3) := by decide +kernel
theorem dX10_take_25 : decode cX10_take 25 = .ok (.iload_n 1, 1) := by decide +kernel
theorem dX10_take_26 : decode cX10_take 26 = .ok (.invokevirtual 58, 3) := by decide +kernel
theorem dX10_take_29 : decode cX10_take 29 = .ok (.checkcast 99, 3) := by decide +kernel
theorem dX10_take_32 : decode cX10_take 32 = .ok (.getfield 150, 3) := by decide +kernel
theorem dX10_take_35 : decode cX10_take 35 = .ok (.iconst (-1), 1) := by decide +kernel
theorem dX10_take_36 : decode cX10_take 36 = .ok (.if_icmp .ne 7, 3) := by decide +kernel
theorem dX10_take_39 : decode cX10_take 39 = .ok (.iconst 1, 1) := by decide +kernel
theorem dX10_take_40 : decode cX10_take 40 = .ok (.goto 4, 3) := by decide +kernel
theorem dX10_take_43 : decode cX10_take 43 = .ok (.iconst 0, 1) := by decide +kernel
theorem dX10_take_44 : decode cX10_take 44 = .ok (.iconst 2, 1) := by decide +kernel
theorem dX10_take_45 : decode cX10_take 45 = .ok (.invokevirtual 36, 3) := by decide +kernel
theorem dX10_take_48 : decode cX10_take 48 = .ok (.ifCond .eq 5, 3) := by decide +kernel
theorem dX10_take_51 : decode cX10_take 51 = .ok (.iconst 0, 1) := by decide +kernel
theorem dX10_take_52 : decode cX10_take 52 = .ok (.ireturn, 1) := by decide +kernel
theorem dX10_take_53 : decode cX10_take 53 = .ok (.aload_n 0, 1) := by decide +kernel
theorem dX10_take_54 : decode cX10_take 54 = .ok (.getfield 19, 3) := by decide +kernel
theorem dX10_take_57 : decode cX10_take 57 = .ok (.iload_n 1, 1) := by decide +kernel
theorem dX10_take_58 : decode cX10_take 58 = .ok (.invokevirtual 58, 3) := by decide +kernel
theorem dX10_take_61 : decode cX10_take 61 = .ok (.checkcast 99, 3) := by decide +kernel
theorem dX10_take_64 : decode cX10_take 64 = .ok (.getfield 150, 3) := by decide +kernel
theorem dX10_take_67 : decode cX10_take 67 = .ok (.istore_n 2, 1) := by decide +kernel
theorem dX10_take_68 : decode cX10_take 68 = .ok (.aload_n 0, 1) := by decide +kernel
theorem dX10_take_69 : decode cX10_take 69 = .ok (.getfield 19, 3) := by decide +kernel
theorem dX10_take_72 : decode cX10_take 72 = .ok (.iload_n 1, 1) := by decide +kernel
theorem dX10_take_73 : decode cX10_take 73 = .ok (.invokevirtual 58, 3) := by decide +kernel
theorem dX10_take_76 : decode cX10_take 76 = .ok (.checkcast 99, 3) := by decide +kernel
theorem dX10_take_79 : decode cX10_take 79 = .ok (.invokestatic 182, 3) := by decide +kernel
theorem dX10_take_82 : decode cX10_take 82 = .ok (.iload_n 2, 1) := by decide +kernel
theorem dX10_take_83 : decode cX10_take 83 = .ok (.ireturn, 1) := by decide +kernel
theorem dX10_ramp_0 : decode cX10_ramp 0 = .ok (.aload_n 0, 1) := by decide +kernel
theorem dX10_ramp_1 : decode cX10_ramp 1 = .ok (.iload_n 1, 1) := by decide +kernel
theorem dX10_ramp_2 : decode cX10_ramp 2 = .ok (.bipush 10, 2) := by decide +kernel
theorem dX10_ramp_4 : decode cX10_ramp 4 = .ok (.sipush 200, 3) := by decide +kernel
theorem dX10_ramp_7 : decode cX10_ramp 7 = .ok (.invokestatic 44, 3) := by decide +kernel
theorem dX10_ramp_10 : decode cX10_ramp 10 = .ok (.ifCond .eq 25, 3) := by decide +kernel
theorem dX10_ramp_13 : decode cX10_ramp 13 = .ok (.iload_n 2, 1) := by decide +kernel
theorem dX10_ramp_14 : decode cX10_ramp 14 = .ok (.bipush 100, 2) := by decide +kernel
theorem dX10_ramp_16 : decode cX10_ramp 16 = .ok (.sipush 1400, 3) := by decide +kernel
theorem dX10_ramp_19 : decode cX10_ramp 19 = .ok (.invokestatic 44, 3) := by decide +kernel
theorem dX10_ramp_22 : decode cX10_ramp 22 = .ok (.ifCond .eq 13, 3) := by decide +kernel
theorem dX10_ramp_25 : decode cX10_ramp 25 = .ok (.iload_n 3, 1) := by decide +kernel
theorem dX10_ramp_26 : decode cX10_ramp 26 = .ok (.iconst 0, 1) := by decide +kernel
theorem dX10_ramp_27 : decode cX10_ramp 27 = .ok (.bipush 20, 2) := by decide +kernel
theorem dX10_ramp_29 : decode cX10_ramp 29 = .ok (.invokestatic 44, 3) := by decide +kernel
theorem dX10_ramp_32 : decode cX10_ramp 32 = .ok (.ifCond .ne 7, 3) := by decide +kernel
theorem dX10_ramp_35 : decode cX10_ramp 35 = .ok (.iconst 1, 1) := by decide +kernel
theorem dX10_ramp_36 : decode cX10_ramp 36 = .ok (.goto 4, 3) := by decide +kernel
theorem dX10_ramp_39 : decode cX10_ramp 39 = .ok (.iconst 0, 1) := by decide +kernel
theorem dX10_ramp_40 : decode cX10_ramp 40 = .ok (.iconst 1, 1) := by decide +kernel
theorem dX10_ramp_41 : decode cX10_ramp 41 = .ok (.invokevirtual 88, 3) := by decide +kernel
theorem dX10_ramp_44 : decode cX10_ramp 44 = .ok (.ifCond .ne 40, 3) := by decide +kernel
theorem dX10_ramp_47 : decode cX10_ramp 47 = .ok (.aload_n 0, 1) := by decide +kernel
theorem dX10_ramp_48 : decode cX10_ramp 48 = .ok (.aload_n 0, 1) := by decide +kernel
theorem dX10_ramp_49 : decode cX10_ramp 49 = .ok (.getfield 28, 3) := by decide +kernel
theorem dX10_ramp_52 : decode cX10_ramp 52 = .ok (.getfield 48, 3) := by decide +kernel
theorem dX10_ramp_55 : decode cX10_ramp 55 = .ok (.ifCond .ne 17, 3) := by decide +kernel
theorem dX10_ramp_58 : decode cX10_ramp 58 = .ok (.aload_n 0, 1) := by decide +kernel
theorem dX10_ramp_59 : decode cX10_ramp 59 = .ok (.getfield 28, 3) := by decide +kernel
theorem dX10_ramp_62 : decode cX10_ramp 62 = .ok (.getfield 186, 3) := by decide +kernel
theorem dX10_ramp_65 : decode cX10_ramp 65 = .ok (.invokevirtual 40, 3) := by decide +kernel
theorem dX10_ramp_68 : decode cX10_ramp 68 = .ok (.iconst 5, 1) := by decide +kernel
theorem dX10_ramp_69 : decode cX10_ramp 69 = .ok (.if_icmp .ne 7, 3) := by decide +kernel
theorem dX10_ramp_72 : decode cX10_ramp 72 = .ok (.iconst 1, 1) := by decide +kernel
theorem dX10_ramp_73 : decode cX10_ramp 73 = .ok (.goto 4, 3) := by decide +kernel
theorem dX10_ramp_76 : decode cX10_ramp 76 = .ok (.iconst 0, 1) := by decide +kernel
theorem dX10_ramp_77 : decode cX10_ramp 77 = .ok (.iconst 2, 1) := by decide +kernel
theorem dX10_ramp_78 : decode cX10_ramp 78 = .ok (.invokevirtual 36, 3) := by decide +kernel
theorem dX10_ramp_81 : decode cX10_ramp 81 = .ok (.ifCond .eq 5, 3) := by decide +kernel
theorem dX10_ramp_84 : decode cX10_ramp 84 = .ok (.iconst 0, 1) := by decide +kernel
theorem dX10_ramp_85 : decode cX10_ramp 85 = .ok (.ireturn, 1) := by decide +kernel
theorem dX10_ramp_86 : decode cX10_ramp 86 = .ok (.aload_n 0, 1) := by decide +kernel
theorem dX10_ramp_87 : decode cX10_ramp 87 = .ok (.getfield 28, 3) := by decide +kernel
theorem dX10_ramp_90 : decode cX10_ramp 90 = .ok (.getfield 186, 3) := by decide +kernel
theorem dX10_ramp_93 : decode cX10_ramp 93 = .ok (.iconst 3, 1) := by decide +kernel
theorem dX10_ramp_94 : decode cX10_ramp 94 = .ok (.newarray .int, 2) := by decide +kernel
theorem dX10_ramp_96 : decode cX10_ramp 96 = .ok (.dup, 1) := by decide +kernel
theorem dX10_ramp_97 : decode cX10_ramp 97 = .ok (.iconst 0, 1) := by decide +kernel
theorem dX10_ramp_98 : decode cX10_ramp 98 = .ok (.iload_n 1, 1) := by decide +kernel
theorem dX10_ramp_99 : decode cX10_ramp 99 = .ok (.iastore, 1) := by decide +kernel
theorem dX10_ramp_100 : decode cX10_ramp 100 = .ok (.dup, 1) := by decide +kernel
theorem dX10_ramp_101 : decode cX10_ramp 101 = .ok (.iconst 1, 1) := by decide +kernel
theorem dX10_ramp_102 : decode cX10_ramp 102 = .ok (.iload_n 2, 1) := by decide +kernel
theorem dX10_ramp_103 : decode cX10_ramp 103 = .ok (.iastore, 1) := by decide +kernel
theorem dX10_ramp_104 : decode cX10_ramp 104 = .ok (.dup, 1) := by decide +kernel
theorem dX10_ramp_105 : decode cX10_ramp 105 = .ok (.iconst 2, 1) := by decide +kernel
theorem dX10_ramp_106 : decode cX10_ramp 106 = .ok (.iload_n 3, 1) := by decide +kernel
theorem dX10_ramp_107 : decode cX10_ramp 107 = .ok (.iastore, 1) := by decide +kernel
theorem dX10_ramp_108 : decode cX10_ramp 108 = .ok (.invokevirtual 91, 3) := by decide +kernel
theorem dX10_ramp_111 : decode cX10_ramp 111 = .ok (.pop, 1) := by decide +kernel
theorem dX10_ramp_112 : decode cX10_ramp 112 = .ok (.aload_n 0, 1) := by decide +kernel
theorem dX10_ramp_113 : decode cX10_ramp 113 = .ok (.getfield 28, 3) := by decide +kernel
theorem dX10_ramp_116 : decode cX10_ramp 116 = .ok (.getfield 186, 3) := by decide +kernel
theorem dX10_ramp_119 : decode cX10_ramp 119 = .ok (.invokevirtual 40, 3) := by decide +kernel
theorem dX10_ramp_122 : decode cX10_ramp 122 = .ok (.iconst 1, 1) := by decide +kernel
theorem dX10_ramp_123 : decode cX10_ramp 123 = .ok (.isub, 1) := by decide +kernel
theorem dX10_ramp_124 : decode cX10_ramp 124 = .ok (.ireturn, 1) := by decide +kernel
theorem dX10_forget_0 : decode cX10_forget 0 = .ok (.aload_n 0, 1) := by decide +kernel
theorem dX10_forget_1 : decode cX10_forget 1 = .ok (.aload_n 0, 1) := by decide +kernel
theorem dX10_forget_2 : decode cX10_forget 2 = .ok (.getfield 28, 3) := by decide +kernel
theorem dX10_forget_5 : decode cX10_forget 5 = .ok (.getfield 48, 3) := by decide +kernel
theorem dX10_forget_8 : decode cX10_forget 8 = .ok (.iconst 1, 1) := by decide +kernel
theorem dX10_forget_9 : decode cX10_forget 9 = .ok (.invokevirtual 88, 3) := by decide +kernel
theorem dX10_forget_12 : decode cX10_forget 12 = .ok (.ifCond .eq 5, 3) := by decide +kernel
theorem dX10_forget_15 : decode cX10_forget 15 = .ok (.iconst 0, 1) := by decide +kernel
theorem dX10_forget_16 : decode cX10_forget 16 = .ok (.ireturn, 1) := by decide +kernel
theorem dX10_forget_17 : decode cX10_forget 17 = .ok (.aload_n 0, 1) := by decide +kernel
theorem dX10_forget_18 : decode cX10_forget 18 = .ok (.getfield 28, 3) := by decide +kernel
theorem dX10_forget_21 : decode cX10_forget 21 = .ok (.getfield 186, 3) := by decide +kernel
theorem dX10_forget_24 : decode cX10_forget 24 = .ok (.invokevirtual 40, 3) := by decide +kernel
theorem dX10_forget_27 : decode cX10_forget 27 = .ok (.istore_n 1, 1) := by decide +kernel
theorem dX10_forget_28 : decode cX10_forget 28 = .ok (.aload_n 0, 1) := by decide +kernel
theorem dX10_forget_29 : decode cX10_forget 29 = .ok (.getfield 28, 3) := by decide +kernel
theorem dX10_forget_32 : decode cX10_forget 32 = .ok (.getfield 186, 3) := by decide +kernel
theorem dX10_forget_35 : decode cX10_forget 35 = .ok (.invokevirtual 189, 3) := by decide +kernel
theorem dX10_forget_38 : decode cX10_forget 38 = .ok (.iload_n 1, 1) := by decide +kernel
theorem dX10_forget_39 : decode cX10_forget 39 = .ok (.ireturn, 1) := by decide +kernel
theorem dX10_placed_0 : decode cX10_placed 0 = .ok (.iconst 0, 1) := by decide +kernel
theorem dX10_placed_1 : decode cX10_placed 1 = .ok (.istore_n 2, 1) := by decide +kernel
theorem dX10_placed_2 : decode cX10_placed 2 = .ok (.aload_n 0, 1) := by decide +kernel
theorem dX10_placed_3 : decode cX10_placed 3 = .ok (.getfield 19, 3) := by decide +kernel
theorem dX10_placed_6 : decode cX10_placed 6 = .ok (.invokevirtual 110, 3) := by decide +kernel
theorem dX10_placed_9 : decode cX10_placed 9 = .ok (.astore_n 3, 1) := by decide +kernel
theorem dX10_placed_10 : decode cX10_placed 10 = .ok (.aload_n 3, 1) := by decide +kernel
theorem dX10_placed_11 : decode cX10_placed 11 = .ok (.invokeinterface 114 1, 5) := by decide +kernel
theorem dX10_placed_16 : decode cX10_placed 16 = .ok (.ifCond .eq 59, 3) := by decide +kernel
theorem dX10_placed_19 : decode cX10_placed 19 = .ok (.aload_n 3, 1) := by decide +kernel
theorem dX10_placed_20 : decode cX10_placed 20 = .ok (.invokeinterface 120 1, 5) := by decide +kernel
theorem dX10_placed_25 : decode cX10_placed 25 = .ok (.checkcast 99, 3) := by decide +kernel
theorem dX10_placed_28 : decode cX10_placed 28 = .ok (.astore 4, 2) := by decide +kernel
theorem dX10_placed_30 : decode cX10_placed 30 = .ok (.iload_n 2, 1) := by decide +kernel
theorem dX10_placed_31 : decode cX10_placed 31 = .ok (.iload_n 1, 1) := by decide +kernel
theorem dX10_placed_32 : decode cX10_placed 32 = .ok (.iconst (-1), 1) := by decide +kernel
theorem dX10_placed_33 : decode cX10_placed 33 = .ok (.if_icmp .ne 20, 3) := by decide +kernel
theorem dX10_placed_36 : decode cX10_placed 36 = .ok (.aload 4, 2) := by decide +kernel
theorem dX10_placed_38 : decode cX10_placed 38 = .ok (.getfield 150, 3) := by decide +kernel
theorem dX10_placed_41 : decode cX10_placed 41 = .ok (.iconst (-1), 1) := by decide +kernel
theorem dX10_placed_42 : decode cX10_placed 42 = .ok (.if_icmp .eq 7, 3) := by decide +kernel
theorem dX10_placed_45 : decode cX10_placed 45 = .ok (.iconst 1, 1) := by decide +kernel
theorem dX10_placed_46 : decode cX10_placed 46 = .ok (.goto 21, 3) := by decide +kernel
theorem dX10_placed_49 : decode cX10_placed 49 = .ok (.iconst 0, 1) := by decide +kernel
theorem dX10_placed_50 : decode cX10_placed 50 = .ok (.goto 17, 3) := by decide +kernel
theorem dX10_placed_53 : decode cX10_placed 53 = .ok (.aload 4, 2) := by decide +kernel
theorem dX10_placed_55 : decode cX10_placed 55 = .ok (.getfield 150, 3) := by decide +kernel
theorem dX10_placed_58 : decode cX10_placed 58 = .ok (.iload_n 1, 1) := by decide +kernel
theorem dX10_placed_59 : decode cX10_placed 59 = .ok (.if_icmp .ne 7, 3) := by decide +kernel
theorem dX10_placed_62 : decode cX10_placed 62 = .ok (.iconst 1, 1) := by decide +kernel
theorem dX10_placed_63 : decode cX10_placed 63 = .ok (.goto 4, 3) := by decide +kernel
theorem dX10_placed_66 : decode cX10_placed 66 = .ok (.iconst 0, 1) := by decide +kernel
theorem dX10_placed_67 : decode cX10_placed 67 = .ok (.invokestatic 127, 3) := by decide +kernel
theorem dX10_placed_70 : decode cX10_placed 70 = .ok (.iadd, 1) := by decide +kernel
theorem dX10_placed_71 : decode cX10_placed 71 = .ok (.istore_n 2, 1) := by decide +kernel
theorem dX10_placed_72 : decode cX10_placed 72 = .ok (.goto (-62), 3) := by decide +kernel
theorem dX10_placed_75 : decode cX10_placed 75 = .ok (.iload_n 2, 1) := by decide +kernel
theorem dX10_placed_76 : decode cX10_placed 76 = .ok (.ireturn, 1) := by decide +kernel
theorem dX10_light_0 : decode cX10_light 0 = .ok (.aload_n 0, 1) := by decide +kernel
theorem dX10_light_1 : decode cX10_light 1 = .ok (.aload_n 0, 1) := by decide +kernel
theorem dX10_light_2 : decode cX10_light 2 = .ok (.getfield 28, 3) := by decide +kernel
theorem dX10_light_5 : decode cX10_light 5 = .ok (.getfield 48, 3) := by decide +kernel
theorem dX10_light_8 : decode cX10_light 8 = .ok (.ifCond .ne 16, 3) := by decide +kernel
theorem dX10_light_11 : decode cX10_light 11 = .ok (.aload_n 0, 1) := by decide +kernel
theorem dX10_light_12 : decode cX10_light 12 = .ok (.getfield 28, 3) := by decide +kernel
theorem dX10_light_15 : decode cX10_light 15 = .ok (.getfield 186, 3) := by decide +kernel
theorem dX10_light_18 : decode cX10_light 18 = .ok (.invokevirtual 192, 3) := by decide +kernel
theorem dX10_light_21 : decode cX10_light 21 = .ok (.ifCond .eq 7, 3) := by decide +kernel
theorem dX10_light_24 : decode cX10_light 24 = .ok (.iconst 1, 1) := by decide +kernel
theorem dX10_light_25 : decode cX10_light 25 = .ok (.goto 4, 3) := by decide +kernel
theorem dX10_light_28 : decode cX10_light 28 = .ok (.iconst 0, 1) := by decide +kernel
theorem dX10_light_29 : decode cX10_light 29 = .ok (.iconst 1, 1) := by decide +kernel
theorem dX10_light_30 : decode cX10_light 30 = .ok (.invokevirtual 88, 3) := by decide +kernel
theorem dX10_light_33 : decode cX10_light 33 = .ok (.ifCond .eq 5, 3) := by decide +kernel
theorem dX10_light_36 : decode cX10_light 36 = .ok (.iconst 0, 1) := by decide +kernel
theorem dX10_light_37 : decode cX10_light 37 = .ok (.ireturn, 1) := by decide +kernel
theorem dX10_light_38 : decode cX10_light 38 = .ok (.aload_n 0, 1) := by decide +kernel
theorem dX10_light_39 : decode cX10_light 39 = .ok (.getfield 28, 3) := by decide +kernel
theorem dX10_light_42 : decode cX10_light 42 = .ok (.iconst 1, 1) := by decide +kernel
theorem dX10_light_43 : decode cX10_light 43 = .ok (.putfield 48, 3) := by decide +kernel
theorem dX10_light_46 : decode cX10_light 46 = .ok (.aload_n 0, 1) := by decide +kernel
theorem dX10_light_47 : decode cX10_light 47 = .ok (.getfield 28, 3) := by decide +kernel
theorem dX10_light_50 : decode cX10_light 50 = .ok (.iconst 0, 1) := by decide +kernel
theorem dX10_light_51 : decode cX10_light 51 = .ok (.putfield 195, 3) := by decide +kernel
theorem dX10_light_54 : decode cX10_light 54 = .ok (.aload_n 0, 1) := by decide +kernel
theorem dX10_light_55 : decode cX10_light 55 = .ok (.getfield 28, 3) := by decide +kernel
theorem dX10_light_58 : decode cX10_light 58 = .ok (.iconst 0, 1) := by decide +kernel
theorem dX10_light_59 : decode cX10_light 59 = .ok (.putfield 198, 3) := by decide +kernel
theorem dX10_light_62 : decode cX10_light 62 = .ok (.aload_n 0, 1) := by decide +kernel
theorem dX10_light_63 : decode cX10_light 63 = .ok (.iconst (-1), 1) := by decide +kernel
theorem dX10_light_64 : decode cX10_light 64 = .ok (.invokevirtual 201, 3) := by decide +kernel
theorem dX10_light_67 : decode cX10_light 67 = .ok (.ireturn, 1) := by decide +kernel
theorem dX10_burn_0 : decode cX10_burn 0 = .ok (.aload_n 0, 1) := by decide +kernel
theorem dX10_burn_1 : decode cX10_burn 1 = .ok (.iload_n 1, 1) := by decide +kernel
theorem dX10_burn_2 : decode cX10_burn 2 = .ok (.iconst 1, 1) := by decide +kernel
theorem dX10_burn_3 : decode cX10_burn 3 = .ok (.bipush 60, 2) := by decide +kernel
theorem dX10_burn_5 : decode cX10_burn 5 = .ok (.invokestatic 44, 3) := by decide +kernel
theorem dX10_burn_8 : decode cX10_burn 8 = .ok (.ifCond .ne 7, 3) := by decide +kernel
theorem dX10_burn_11 : decode cX10_burn 11 = .ok (.iconst 1, 1) := by decide +kernel
theorem dX10_burn_12 : decode cX10_burn 12 = .ok (.goto 4, 3) := by decide +kernel
theorem dX10_burn_15 : decode cX10_burn 15 = .ok (.iconst 0, 1) := by decide +kernel
theorem dX10_burn_16 : decode cX10_burn 16 = .ok (.iconst 1, 1) := by decide +kernel
theorem dX10_burn_17 : decode cX10_burn 17 = .ok (.invokevirtual 88, 3) := by decide +kernel
theorem dX10_burn_20 : decode cX10_burn 20 = .ok (.ifCond .eq 5, 3) := by decide +kernel
theorem dX10_burn_23 : decode cX10_burn 23 = .ok (.iconst 0, 1) := by decide +kernel
theorem dX10_burn_24 : decode cX10_burn 24 = .ok (.ireturn, 1) := by decide +kernel
theorem dX10_burn_25 : decode cX10_burn 25 = .ok (.iconst 0, 1) := by decide +kernel
theorem dX10_burn_26 : decode cX10_burn 26 = .ok (.istore_n 2, 1) := by decide +kernel
theorem dX10_burn_27 : decode cX10_burn 27 = .ok (.iload_n 2, 1) := by decide +kernel
theorem dX10_burn_28 : decode cX10_burn 28 = .ok (.iload_n 1, 1) := by decide +kernel
theorem dX10_burn_29 : decode cX10_burn 29 = .ok (.if_icmp .ge 104, 3) := by decide +kernel
theorem dX10_burn_32 : decode cX10_burn 32 = .ok (.aload_n 0, 1) := by decide +kernel
theorem dX10_burn_33 : decode cX10_burn 33 = .ok (.getfield 28, 3) := by decide +kernel
theorem dX10_burn_36 : decode cX10_burn 36 = .ok (.getfield 52, 3) := by decide +kernel
theorem dX10_burn_39 : decode cX10_burn 39 = .ok (.dstore_n 3, 1) := by decide +kernel
theorem dX10_burn_40 : decode cX10_burn 40 = .ok (.aload_n 0, 1) := by decide +kernel
theorem dX10_burn_41 : decode cX10_burn 41 = .ok (.getfield 28, 3) := by decide +kernel
theorem dX10_burn_44 : decode cX10_burn 44 = .ok (.invokevirtual 204, 3) := by decide +kernel
theorem dX10_burn_47 : decode cX10_burn 47 = .ok (.aload_n 0, 1) := by decide +kernel
theorem dX10_burn_48 : decode cX10_burn 48 = .ok (.getfield 19, 3) := by decide +kernel
theorem dX10_burn_51 : decode cX10_burn 51 = .ok (.invokevirtual 110, 3) := by decide +kernel
theorem dX10_burn_54 : decode cX10_burn 54 = .ok (.astore 5, 2) := by decide +kernel
theorem dX10_burn_56 : decode cX10_burn 56 = .ok (.aload 5, 2) := by decide +kernel
theorem dX10_burn_58 : decode cX10_burn 58 = .ok (.invokeinterface 114 1, 5) := by decide +kernel
theorem dX10_burn_63 : decode cX10_burn 63 = .ok (.ifCond .eq 64, 3) := by decide +kernel
theorem dX10_burn_66 : decode cX10_burn 66 = .ok (.aload 5, 2) := by decide +kernel
theorem dX10_burn_68 : decode cX10_burn 68 = .ok (.invokeinterface 120 1, 5) := by decide +kernel
theorem dX10_burn_73 : decode cX10_burn 73 = .ok (.checkcast 99, 3) := by decide +kernel
theorem dX10_burn_76 : decode cX10_burn 76 = .ok (.astore 6, 2) := by decide +kernel
theorem dX10_burn_78 : decode cX10_burn 78 = .ok (.aload 6, 2) := by decide +kernel
theorem dX10_burn_80 : decode cX10_burn 80 = .ok (.getfield 150, 3) := by decide +kernel
theorem dX10_burn_83 : decode cX10_burn 83 = .ok (.iconst (-1), 1) := by decide +kernel
theorem dX10_burn_84 : decode cX10_burn 84 = .ok (.if_icmp .eq 40, 3) := by decide +kernel
theorem dX10_burn_87 : decode cX10_burn 87 = .ok (.aload 6, 2) := by decide +kernel
theorem dX10_burn_89 : decode cX10_burn 89 = .ok (.dload_n 3, 1) := by decide +kernel
theorem dX10_burn_90 : decode cX10_burn 90 = .ok (.getstatic 207, 3) := by decide +kernel
theorem dX10_burn_93 : decode cX10_burn 93 = .ok (.aload 6, 2) := by decide +kernel
theorem dX10_burn_95 : decode cX10_burn 95 = .ok (.getfield 150, 3) := by decide +kernel
theorem dX10_burn_98 : decode cX10_burn 98 = .ok (.daload, 1) := by decide +kernel
theorem dX10_burn_99 : decode cX10_burn 99 = .ok (.dadd, 1) := by decide +kernel
theorem dX10_burn_100 : decode cX10_burn 100 = .ok (.aload_n 0, 1) := by decide +kernel
theorem dX10_burn_101 : decode cX10_burn 101 = .ok (.getfield 28, 3) := by decide +kernel
theorem dX10_burn_104 : decode cX10_burn 104 = .ok (.getfield 52, 3) := by decide +kernel
theorem dX10_burn_107 : decode cX10_burn 107 = .ok (.getstatic 207, 3) := by decide +kernel
theorem dX10_burn_110 : decode cX10_burn 110 = .ok (.aload 6, 2) := by decide +kernel
theorem dX10_burn_112 : decode cX10_burn 112 = .ok (.getfield 150, 3) := by decide +kernel
theorem dX10_burn_115 : decode cX10_burn 115 = .ok (.daload, 1) := by decide +kernel
theorem dX10_burn_116 : decode cX10_burn 116 = .ok (.dadd, 1) := by decide +kernel
theorem dX10_burn_117 : decode cX10_burn 117 = .ok (.aload_n 0, 1) := by decide +kernel
theorem dX10_burn_118 : decode cX10_burn 118 = .ok (.getfield 211, 3) := by decide +kernel
theorem dX10_burn_121 : decode cX10_burn 121 = .ok (.invokevirtual 214, 3) := by decide +kernel
theorem dX10_burn_124 : decode cX10_burn 124 = .ok (.goto (-68), 3) := by decide +kernel
theorem dX10_burn_127 : decode cX10_burn 127 = .ok (.iinc 2 1, 3) := by decide +kernel
theorem dX10_burn_130 : decode cX10_burn 130 = .ok (.goto (-103), 3) := by decide +kernel
theorem dX10_burn_133 : decode cX10_burn 133 = .ok (.aload_n 0, 1) := by decide +kernel
theorem dX10_burn_134 : decode cX10_burn 134 = .ok (.getfield 28, 3) := by decide +kernel
theorem dX10_burn_137 : decode cX10_burn 137 = .ok (.getfield 48, 3) := by decide +kernel
theorem dX10_burn_140 : decode cX10_burn 140 = .ok (.ireturn, 1) := by decide +kernel
theorem dX10_damper_0 : decode cX10_damper 0 = .ok (.aload_n 0, 1) := by decide +kernel
theorem dX10_damper_1 : decode cX10_damper 1 = .ok (.iload_n 1, 1) := by decide +kernel
theorem dX10_damper_2 : decode cX10_damper 2 = .ok (.iconst 0, 1) := by decide +kernel
theorem dX10_damper_3 : decode cX10_damper 3 = .ok (.iconst 4, 1) := by decide +kernel
theorem dX10_damper_4 : decode cX10_damper 4 = .ok (.invokestatic 44, 3) := by decide +kernel
theorem dX10_damper_7 : decode cX10_damper 7 = .ok (.ifCond .ne 7, 3) := by decide +kernel
theorem dX10_damper_10 : decode cX10_damper 10 = .ok (.iconst 1, 1) := by decide +kernel
theorem dX10_damper_11 : decode cX10_damper 11 = .ok (.goto 4, 3) := by decide +kernel
theorem dX10_damper_14 : decode cX10_damper 14 = .ok (.iconst 0, 1) := by decide +kernel
theorem dX10_damper_15 : decode cX10_damper 15 = .ok (.iconst 1, 1) := by decide +kernel
theorem dX10_damper_16 : decode cX10_damper 16 = .ok (.invokevirtual 88, 3) := by decide +kernel
theorem dX10_damper_19 : decode cX10_damper 19 = .ok (.ifCond .eq 5, 3) := by decide +kernel
theorem dX10_damper_22 : decode cX10_damper 22 = .ok (.iconst 0, 1) := by decide +kernel
theorem dX10_damper_23 : decode cX10_damper 23 = .ok (.ireturn, 1) := by decide +kernel
theorem dX10_damper_24 : decode cX10_damper 24 = .ok (.aload_n 0, 1) := by decide +kernel
theorem dX10_damper_25 : decode cX10_damper 25 = .ok (.getfield 211, 3) := by decide +kernel
theorem dX10_damper_28 : decode cX10_damper 28 = .ok (.istore_n 2, 1) := by decide +kernel
theorem dX10_damper_29 : decode cX10_damper 29 = .ok (.aload_n 0, 1) := by decide +kernel
theorem dX10_damper_30 : decode cX10_damper 30 = .ok (.iload_n 1, 1) := by decide +kernel
theorem dX10_damper_31 : decode cX10_damper 31 = .ok (.putfield 211, 3) := by decide +kernel
theorem dX10_damper_34 : decode cX10_damper 34 = .ok (.iload_n 2, 1) := by decide +kernel
theorem dX10_damper_35 : decode cX10_damper 35 = .ok (.ireturn, 1) := by decide +kernel
theorem dX10_door_0 : decode cX10_door 0 = .ok (.aload_n 0, 1) := by decide +kernel
theorem dX10_door_1 : decode cX10_door 1 = .ok (.iconst 0, 1) := by decide +kernel
theorem dX10_door_2 : decode cX10_door 2 = .ok (.putfield 32, 3) := by decide +kernel
theorem dX10_door_5 : decode cX10_door 5 = .ok (.aload_n 0, 1) := by decide +kernel
theorem dX10_door_6 : decode cX10_door 6 = .ok (.getfield 28, 3) := by decide +kernel
theorem dX10_door_9 : decode cX10_door 9 = .ok (.getfield 218, 3) := by decide +kernel
theorem dX10_door_12 : decode cX10_door 12 = .ok (.istore_n 2, 1) := by decide +kernel
theorem dX10_door_13 : decode cX10_door 13 = .ok (.aload_n 0, 1) := by decide +kernel
theorem dX10_door_14 : decode cX10_door 14 = .ok (.getfield 28, 3) := by decide +kernel
theorem dX10_door_17 : decode cX10_door 17 = .ok (.iload_n 1, 1) := by decide +kernel
theorem dX10_door_18 : decode cX10_door 18 = .ok (.putfield 218, 3) := by decide +kernel
theorem dX10_door_21 : decode cX10_door 21 = .ok (.iload_n 2, 1) := by decide +kernel
theorem dX10_door_22 : decode cX10_door 22 = .ok (.ireturn, 1) := by decide +kernel
theorem dX10_bell_0 : decode cX10_bell 0 = .ok (.aload_n 0, 1) := by decide +kernel
theorem dX10_bell_1 : decode cX10_bell 1 = .ok (.iconst 0, 1) := by decide +kernel
theorem dX10_bell_2 : decode cX10_bell 2 = .ok (.putfield 32, 3) := by decide +kernel
theorem dX10_bell_5 : decode cX10_bell 5 = .ok (.aload_n 0, 1) := by decide +kernel
theorem dX10_bell_6 : decode cX10_bell 6 = .ok (.dup, 1) := by decide +kernel
theorem dX10_bell_7 : decode cX10_bell 7 = .ok (.getfield 221, 3) := by decide +kernel
theorem dX10_bell_10 : decode cX10_bell 10 = .ok (.iconst 1, 1) := by decide +kernel
theorem dX10_bell_11 : decode cX10_bell 11 = .ok (.iadd, 1) := by decide +kernel
theorem dX10_bell_12 : decode cX10_bell 12 = .ok (.putfield 221, 3) := by decide +kernel
theorem dX10_bell_15 : decode cX10_bell 15 = .ok (.aload_n 0, 1) := by decide +kernel
theorem dX10_bell_16 : decode cX10_bell 16 = .ok (.getfield 221, 3) := by decide +kernel
theorem dX10_bell_19 : decode cX10_bell 19 = .ok (.ireturn, 1) := by decide +kernel
theorem dX10_finish_0 : decode cX10_finish 0 = .ok (.aload_n 1, 1) := by decide +kernel
theorem dX10_finish_1 : decode cX10_finish 1 = .ok (.getfield 124, 3) := by decide +kernel
theorem dX10_finish_4 : decode cX10_finish 4 = .ok (.iconst 1, 1) := by decide +kernel
theorem dX10_finish_5 : decode cX10_finish 5 = .ok (.if_icmp .eq 12, 3) := by decide +kernel
theorem dX10_finish_8 : decode cX10_finish 8 = .ok (.aload_n 1, 1) := by decide +kernel
theorem dX10_finish_9 : decode cX10_finish 9 = .ok (.getfield 124, 3) := by decide +kernel
theorem dX10_finish_12 : decode cX10_finish 12 = .ok (.iconst 3, 1) := by decide +kernel
theorem dX10_finish_13 : decode cX10_finish 13 = .ok (.if_icmp .eq 4, 3) := by decide +kernel
theorem dX10_finish_16 : decode cX10_finish 16 = .ok (.return_, 1) := by decide +kernel
theorem dX10_finish_17 : decode cX10_finish 17 = .ok (.iload_n 2, 1) := by decide +kernel
theorem dX10_finish_18 : decode cX10_finish 18 = .ok (.aload_n 0, 1) := by decide +kernel
theorem dX10_finish_19 : decode cX10_finish 19 = .ok (.getfield 10, 3) := by decide +kernel
theorem dX10_finish_22 : decode cX10_finish 22 = .ok (.aload_n 1, 1) := by decide +kernel
theorem dX10_finish_23 : decode cX10_finish 23 = .ok (.getfield 224, 3) := by decide +kernel
theorem dX10_finish_26 : decode cX10_finish 26 = .ok (.invokevirtual 58, 3) := by decide +kernel
theorem dX10_finish_29 : decode cX10_finish 29 = .ok (.checkcast 62, 3) := by decide +kernel
theorem dX10_finish_32 : decode cX10_finish 32 = .ok (.iconst 0, 1) := by decide +kernel
theorem dX10_finish_33 : decode cX10_finish 33 = .ok (.iaload, 1) := by decide +kernel
theorem dX10_finish_34 : decode cX10_finish 34 = .ok (.if_icmp .le 11, 3) := by decide +kernel
theorem dX10_finish_37 : decode cX10_finish 37 = .ok (.aload_n 1, 1) := by decide +kernel
theorem dX10_finish_38 : decode cX10_finish 38 = .ok (.iconst 4, 1) := by decide +kernel
theorem dX10_finish_39 : decode cX10_finish 39 = .ok (.invokevirtual 227, 3) := by decide +kernel
theorem dX10_finish_42 : decode cX10_finish 42 = .ok (.goto 132, 3) := by decide +kernel
theorem dX10_finish_45 : decode cX10_finish 45 = .ok (.aload_n 1, 1) := by decide +kernel
theorem dX10_finish_46 : decode cX10_finish 46 = .ok (.getfield 124, 3) := by decide +kernel
theorem dX10_finish_49 : decode cX10_finish 49 = .ok (.iconst 1, 1) := by decide +kernel
theorem dX10_finish_50 : decode cX10_finish 50 = .ok (.if_icmp .ne 20, 3) := by decide +kernel
theorem dX10_finish_53 : decode cX10_finish 53 = .ok (.aload_n 1, 1) := by decide +kernel
theorem dX10_finish_54 : decode cX10_finish 54 = .ok (.iload_n 2, 1) := by decide +kernel
theorem dX10_finish_55 : decode cX10_finish 55 = .ok (.iconst 2, 1) := by decide +kernel
theorem dX10_finish_56 : decode cX10_finish 56 = .ok (.if_icmp .lt 7, 3) := by decide +kernel
theorem dX10_finish_59 : decode cX10_finish 59 = .ok (.iconst 2, 1) := by decide +kernel
theorem dX10_finish_60 : decode cX10_finish 60 = .ok (.goto 4, 3) := by decide +kernel
theorem dX10_finish_63 : decode cX10_finish 63 = .ok (.iconst 1, 1) := by decide +kernel
theorem dX10_finish_64 : decode cX10_finish 64 = .ok (.putfield 124, 3) := by decide +kernel
theorem dX10_finish_67 : decode cX10_finish 67 = .ok (.goto 107, 3) := by decide +kernel
theorem dX10_finish_70 : decode cX10_finish 70 = .ok (.iload_n 2, 1) := by decide +kernel
theorem dX10_finish_71 : decode cX10_finish 71 = .ok (.iconst 1, 1) := by decide +kernel
theorem dX10_finish_72 : decode cX10_finish 72 = .ok (.if_icmp .lt 102, 3) := by decide +kernel
theorem dX10_finish_75 : decode cX10_finish 75 = .ok (.aload_n 1, 1) := by decide +kernel
theorem dX10_finish_76 : decode cX10_finish 76 = .ok (.iconst 4, 1) := by decide +kernel
theorem dX10_finish_77 : decode cX10_finish 77 = .ok (.putfield 124, 3) := by decide +kernel
theorem dX10_finish_80 : decode cX10_finish 80 = .ok (.aload_n 0, 1) := by decide +kernel
theorem dX10_finish_81 : decode cX10_finish 81 = .ok (.aload_n 1, 1) := by decide +kernel
theorem dX10_finish_82 : decode cX10_finish 82 = .ok (.getfield 144, 3) := by decide +kernel
theorem dX10_finish_85 : decode cX10_finish 85 = .ok (.invokevirtual 147, 3) := by decide +kernel
theorem dX10_finish_88 : decode cX10_finish 88 = .ok (.istore_n 3, 1) := by decide +kernel
theorem dX10_finish_89 : decode cX10_finish 89 = .ok (.aload_n 0, 1) := by decide +kernel
theorem dX10_finish_90 : decode cX10_finish 90 = .ok (.aload_n 1, 1) := by decide +kernel
theorem dX10_finish_91 : decode cX10_finish 91 = .ok (.getfield 144, 3) := by decide +kernel
theorem dX10_finish_94 : decode cX10_finish 94 = .ok (.invokevirtual 230, 3) := by decide +kernel
theorem dX10_finish_97 : decode cX10_finish 97 = .ok (.aload_n 0, 1) := by decide +kernel
theorem dX10_finish_98 : decode cX10_finish 98 = .ok (.aload_n 1, 1) := by decide +kernel
theorem dX10_finish_99 : decode cX10_finish 99 = .ok (.getfield 224, 3) := by decide +kernel
theorem dX10_finish_102 : decode cX10_finish 102 = .ok (.invokevirtual 234, 3) := by decide +kernel
theorem dX10_finish_105 : decode cX10_finish 105 = .ok (.dsub, 1) := by decide +kernel
theorem dX10_finish_106 : decode cX10_finish 106 = .ok (.dstore 4, 2) := by decide +kernel
theorem dX10_finish_108 : decode cX10_finish 108 = .ok (.aload_n 1, 1) := by decide +kernel
theorem dX10_finish_109 : decode cX10_finish 109 = .ok (.dup, 1) := by decide +kernel
theorem dX10_finish_110 : decode cX10_finish 110 = .ok (.getfield 237, 3) := by decide +kernel
theorem dX10_finish_113 : decode cX10_finish 113 = .ok (.iload_n 2, 1) := by decide +kernel
theorem dX10_finish_114 : decode cX10_finish 114 = .ok (.iload_n 3, 1) := by decide +kernel
theorem dX10_finish_115 : decode cX10_finish 115 = .ok (.if_icmp .ge 8, 3) := by decide +kernel
theorem dX10_finish_118 : decode cX10_finish 118 = .ok (.bipush 8, 2) := by decide +kernel
theorem dX10_finish_120 : decode cX10_finish 120 = .ok (.goto 4, 3) := by decide +kernel
theorem dX10_finish_123 : decode cX10_finish 123 = .ok (.iconst 0, 1) := by decide +kernel
theorem dX10_finish_124 : decode cX10_finish 124 = .ok (.iload_n 2, 1) := by decide +kernel
theorem dX10_finish_125 : decode cX10_finish 125 = .ok (.iload_n 3, 1) := by decide +kernel
theorem dX10_finish_126 : decode cX10_finish 126 = .ok (.iconst 2, 1) := by decide +kernel
theorem dX10_finish_127 : decode cX10_finish 127 = .ok (.iadd, 1) := by decide +kernel
theorem dX10_finish_128 : decode cX10_finish 128 = .ok (.if_icmp .le 8, 3) := by decide +kernel
theorem dX10_finish_131 : decode cX10_finish 131 = .ok (.bipush 16, 2) := by decide +kernel
theorem dX10_finish_133 : decode cX10_finish 133 = .ok (.goto 4, 3) := by decide +kernel
theorem dX10_finish_136 : decode cX10_finish 136 = .ok (.iconst 0, 1) := by decide +kernel
theorem dX10_finish_137 : decode cX10_finish 137 = .ok (.ior, 1) := by decide +kernel
theorem dX10_finish_138 : decode cX10_finish 138 = .ok (.dload 4, 2) := by decide +kernel
theorem dX10_finish_140 : decode cX10_finish 140 = .ok (.ldc2_w 84, 3) := by decide +kernel
theorem dX10_finish_143 : decode cX10_finish 143 = .ok (.dcmp .l, 1) := by decide +kernel
theorem dX10_finish_144 : decode cX10_finish 144 = .ok (.ifCond .le 8, 3) := by decide +kernel
theorem dX10_finish_147 : decode cX10_finish 147 = .ok (.bipush 32, 2) := by decide +kernel
theorem dX10_finish_149 : decode cX10_finish 149 = .ok (.goto 4, 3) := by decide +kernel
theorem dX10_finish_152 : decode cX10_finish 152 = .ok (.iconst 0, 1) := by decide +kernel
theorem dX10_finish_153 : decode cX10_finish 153 = .ok (.ior, 1) := by decide +kernel
theorem dX10_finish_154 : decode cX10_finish 154 = .ok (.dload 4, 2) := by decide +kernel
theorem dX10_finish_156 : decode cX10_finish 156 = .ok (.ldc2_w 240, 3) := by decide +kernel
theorem dX10_finish_159 : decode cX10_finish 159 = .ok (.dcmp .g, 1) := by decide +kernel
theorem dX10_finish_160 : decode cX10_finish 160 = .ok (.ifCond .ge 8, 3) := by decide +kernel
theorem dX10_finish_163 : decode cX10_finish 163 = .ok (.bipush 64, 2) := by decide +kernel
theorem dX10_finish_165 : decode cX10_finish 165 = .ok (.goto 4, 3) := by decide +kernel
theorem dX10_finish_168 : decode cX10_finish 168 = .ok (.iconst 0, 1) := by decide +kernel
theorem dX10_finish_169 : decode cX10_finish 169 = .ok (.ior, 1) := by decide +kernel
theorem dX10_finish_170 : decode cX10_finish 170 = .ok (.ior, 1) := by decide +kernel
theorem dX10_finish_171 : decode cX10_finish 171 = .ok (.putfield 237, 3) := by decide +kernel
theorem dX10_finish_174 : decode cX10_finish 174 = .ok (.return_, 1) := by decide +kernel
theorem dX10_unload_0 : decode cX10_unload 0 = .ok (.aload_n 0, 1) := by decide +kernel
theorem dX10_unload_1 : decode cX10_unload 1 = .ok (.aload_n 0, 1) := by decide +kernel
theorem dX10_unload_2 : decode cX10_unload 2 = .ok (.invokevirtual 170, 3) := by decide +kernel
theorem dX10_unload_5 : decode cX10_unload 5 = .ok (.iconst 1, 1) := by decide +kernel
theorem dX10_unload_6 : decode cX10_unload 6 = .ok (.invokevirtual 88, 3) := by decide +kernel
theorem dX10_unload_9 : decode cX10_unload 9 = .ok (.ifCond .eq 5, 3) := by decide +kernel
theorem dX10_unload_12 : decode cX10_unload 12 = .ok (.iconst 0, 1) := by decide +kernel
theorem dX10_unload_13 : decode cX10_unload 13 = .ok (.ireturn, 1) := by decide +kernel
theorem dX10_unload_14 : decode cX10_unload 14 = .ok (.iconst 0, 1) := by decide +kernel
theorem dX10_unload_15 : decode cX10_unload 15 = .ok (.istore_n 1, 1) := by decide +kernel
theorem dX10_unload_16 : decode cX10_unload 16 = .ok (.aload_n 0, 1) := by decide +kernel
theorem dX10_unload_17 : decode cX10_unload 17 = .ok (.getfield 19, 3) := by decide +kernel
theorem dX10_unload_20 : decode cX10_unload 20 = .ok (.invokevirtual 110, 3) := by decide +kernel
theorem dX10_unload_23 : decode cX10_unload 23 = .ok (.astore_n 2, 1) := by decide +kernel
theorem dX10_unload_24 : decode cX10_unload 24 = .ok (.aload_n 2, 1) := by decide +kernel
theorem dX10_unload_25 : decode cX10_unload 25 = .ok (.invokeinterface 114 1, 5) := by decide +kernel
theorem dX10_unload_30 : decode cX10_unload 30 = .ok (.ifCond .eq 66, 3) := by decide +kernel
theorem dX10_unload_33 : decode cX10_unload 33 = .ok (.aload_n 2, 1) := by decide +kernel
theorem dX10_unload_34 : decode cX10_unload 34 = .ok (.invokeinterface 120 1, 5) := by decide +kernel
theorem dX10_unload_39 : decode cX10_unload 39 = .ok (.checkcast 99, 3) := by decide +kernel
theorem dX10_unload_42 : decode cX10_unload 42 = .ok (.astore_n 3, 1) := by decide +kernel
theorem dX10_unload_43 : decode cX10_unload 43 = .ok (.aload_n 3, 1) := by decide +kernel
theorem dX10_unload_44 : decode cX10_unload 44 = .ok (.getfield 150, 3) := by decide +kernel
theorem dX10_unload_47 : decode cX10_unload 47 = .ok (.iconst (-1), 1) := by decide +kernel
theorem dX10_unload_48 : decode cX10_unload 48 = .ok (.if_icmp .ne 6, 3) := by decide +kernel
theorem dX10_unload_51 : decode cX10_unload 51 = .ok (.goto (-27), 3) := by decide +kernel
theorem dX10_unload_54 : decode cX10_unload 54 = .ok (.aload_n 0, 1) := by decide +kernel
theorem dX10_unload_55 : decode cX10_unload 55 = .ok (.aload_n 3, 1) := by decide +kernel
theorem dX10_unload_56 : decode cX10_unload 56 = .ok (.aload_n 0, 1) := by decide +kernel
theorem dX10_unload_57 : decode cX10_unload 57 = .ok (.getfield 28, 3) := by decide +kernel
theorem dX10_unload_60 : decode cX10_unload 60 = .ok (.aload_n 3, 1) := by decide +kernel
theorem dX10_unload_61 : decode cX10_unload 61 = .ok (.getfield 150, 3) := by decide +kernel
theorem dX10_unload_64 : decode cX10_unload 64 = .ok (.invokevirtual 242, 3) := by decide +kernel
theorem dX10_unload_67 : decode cX10_unload 67 = .ok (.invokevirtual 245, 3) := by decide +kernel
theorem dX10_unload_70 : decode cX10_unload 70 = .ok (.aload_n 3, 1) := by decide +kernel
theorem dX10_unload_71 : decode cX10_unload 71 = .ok (.invokestatic 182, 3) := by decide +kernel
theorem dX10_unload_74 : decode cX10_unload 74 = .ok (.iload_n 1, 1) := by decide +kernel
theorem dX10_unload_75 : decode cX10_unload 75 = .ok (.aload_n 3, 1) := by decide +kernel
theorem dX10_unload_76 : decode cX10_unload 76 = .ok (.getfield 124, 3) := by decide +kernel
theorem dX10_unload_79 : decode cX10_unload 79 = .ok (.iconst 5, 1) := by decide +kernel
theorem dX10_unload_80 : decode cX10_unload 80 = .ok (.if_icmp .ne 7, 3) := by decide +kernel
theorem dX10_unload_83 : decode cX10_unload 83 = .ok (.iconst 1, 1) := by decide +kernel
theorem dX10_unload_84 : decode cX10_unload 84 = .ok (.goto 4, 3) := by decide +kernel
theorem dX10_unload_87 : decode cX10_unload 87 = .ok (.iconst 0, 1) := by decide +kernel
theorem dX10_unload_88 : decode cX10_unload 88 = .ok (.invokestatic 127, 3) := by decide +kernel
theorem dX10_unload_91 : decode cX10_unload 91 = .ok (.iadd, 1) := by decide +kernel
theorem dX10_unload_92 : decode cX10_unload 92 = .ok (.istore_n 1, 1) := by decide +kernel
theorem dX10_unload_93 : decode cX10_unload 93 = .ok (.goto (-69), 3) := by decide +kernel
theorem dX10_unload_96 : decode cX10_unload 96 = .ok (.iconst 0, 1) := by decide +kernel
theorem dX10_unload_97 : decode cX10_unload 97 = .ok (.istore_n 2, 1) := by decide +kernel
theorem dX10_unload_98 : decode cX10_unload 98 = .ok (.iconst 0, 1) := by decide +kernel
theorem dX10_unload_99 : decode cX10_unload 99 = .ok (.istore_n 3, 1) := by decide +kernel
theorem dX10_unload_100 : decode cX10_unload 100 = .ok (.iload_n 3, 1) := by decide +kernel
theorem dX10_unload_101 : decode cX10_unload 101 = .ok (.iconst 3, 1) := by decide +kernel
theorem dX10_unload_102 : decode cX10_unload 102 = .ok (.if_icmp .ge 41, 3) := by decide +kernel
theorem dX10_unload_105 : decode cX10_unload 105 = .ok (.iload_n 2, 1) := by decide +kernel
theorem dX10_unload_106 : decode cX10_unload 106 = .ok (.aload_n 0, 1) := by decide +kernel
theorem dX10_unload_107 : decode cX10_unload 107 = .ok (.getfield 28, 3) := by decide +kernel
theorem dX10_unload_110 : decode cX10_unload 110 = .ok (.getfield 249, 3) := by decide +kernel
theorem dX10_unload_113 : decode cX10_unload 113 = .ok (.iload_n 3, 1) := by decide +kernel
theorem dX10_unload_114 : decode cX10_unload 114 = .ok (.daload, 1) := by decide +kernel
theorem dX10_unload_115 : decode cX10_unload 115 = .ok (.dconst 0, 1) := by decide +kernel
theorem dX10_unload_116 : decode cX10_unload 116 = .ok (.dcmp .l, 1) := by decide +kernel
theorem dX10_unload_117 : decode cX10_unload 117 = .ok (.ifCond .le 7, 3) := by decide +kernel
theorem dX10_unload_120 : decode cX10_unload 120 = .ok (.iconst 1, 1) := by decide +kernel
theorem dX10_unload_121 : decode cX10_unload 121 = .ok (.goto 4, 3) := by decide +kernel
theorem dX10_unload_124 : decode cX10_unload 124 = .ok (.iconst 0, 1) := by decide +kernel
theorem dX10_unload_125 : decode cX10_unload 125 = .ok (.ior, 1) := by decide +kernel
theorem dX10_unload_126 : decode cX10_unload 126 = .ok (.istore_n 2, 1) := by decide +kernel
theorem dX10_unload_127 : decode cX10_unload 127 = .ok (.aload_n 0, 1) := by decide +kernel
theorem dX10_unload_128 : decode cX10_unload 128 = .ok (.getfield 28, 3) := by decide +kernel
theorem dX10_unload_131 : decode cX10_unload 131 = .ok (.getfield 249, 3) := by decide +kernel
theorem dX10_unload_134 : decode cX10_unload 134 = .ok (.iload_n 3, 1) := by decide +kernel
theorem dX10_unload_135 : decode cX10_unload 135 = .ok (.dconst 0, 1) := by decide +kernel
theorem dX10_unload_136 : decode cX10_unload 136 = .ok (.dastore, 1) := by decide +kernel
theorem dX10_unload_137 : decode cX10_unload 137 = .ok (.iinc 3 1, 3) := by decide +kernel
theorem dX10_unload_140 : decode cX10_unload 140 = .ok (.goto (-40), 3) := by decide +kernel
theorem dX10_unload_143 : decode cX10_unload 143 = .ok (.iload_n 2, 1) := by decide +kernel
theorem dX10_unload_144 : decode cX10_unload 144 = .ok (.ifCond .eq 18, 3) := by decide +kernel
theorem dX10_unload_147 : decode cX10_unload 147 = .ok (.aload_n 0, 1) := by decide +kernel
theorem dX10_unload_148 : decode cX10_unload 148 = .ok (.getfield 28, 3) := by decide +kernel
theorem dX10_unload_151 : decode cX10_unload 151 = .ok (.dup, 1) := by decide +kernel
theorem dX10_unload_152 : decode cX10_unload 152 = .ok (.getfield 252, 3) := by decide +kernel
theorem dX10_unload_155 : decode cX10_unload 155 = .ok (.ldc_w 256, 3) := by decide +kernel
theorem dX10_unload_158 : decode cX10_unload 158 = .ok (.fmul, 1) := by decide +kernel
theorem dX10_unload_159 : decode cX10_unload 159 = .ok (.putfield 252, 3) := by decide +kernel
theorem dX10_unload_162 : decode cX10_unload 162 = .ok (.iload_n 1, 1) := by decide +kernel
theorem dX10_unload_163 : decode cX10_unload 163 = .ok (.ireturn, 1) := by decide +kernel
theorem dX10_order_0 : decode cX10_order 0 = .ok (.aload_n 0, 1) := by decide +kernel
theorem dX10_order_1 : decode cX10_order 1 = .ok (.aload_n 0, 1) := by decide +kernel
theorem dX10_order_2 : decode cX10_order 2 = .ok (.iload_n 1, 1) := by decide +kernel
theorem dX10_order_3 : decode cX10_order 3 = .ok (.invokevirtual 141, 3) := by decide +kernel
theorem dX10_order_6 : decode cX10_order 6 = .ok (.iconst 1, 1) := by decide +kernel
theorem dX10_order_7 : decode cX10_order 7 = .ok (.invokevirtual 88, 3) := by decide +kernel
theorem dX10_order_10 : decode cX10_order 10 = .ok (.ifCond .ne 71, 3) := by decide +kernel
theorem dX10_order_13 : decode cX10_order 13 = .ok (.aload_n 0, 1) := by decide +kernel
theorem dX10_order_14 : decode cX10_order 14 = .ok (.iload_n 2, 1) := by decide +kernel
theorem dX10_order_15 : decode cX10_order 15 = .ok (.iconst 0, 1) := by decide +kernel
theorem dX10_order_16 : decode cX10_order 16 = .ok (.iconst 2, 1) := by decide +kernel
theorem dX10_order_17 : decode cX10_order 17 = .ok (.invokestatic 44, 3) := by decide +kernel
theorem dX10_order_20 : decode cX10_order 20 = .ok (.ifCond .eq 24, 3) := by decide +kernel
theorem dX10_order_23 : decode cX10_order 23 = .ok (.iload_n 3, 1) := by decide +kernel
theorem dX10_order_24 : decode cX10_order 24 = .ok (.iconst 0, 1) := by decide +kernel
theorem dX10_order_25 : decode cX10_order 25 = .ok (.bipush 60, 2) := by decide +kernel
theorem dX10_order_27 : decode cX10_order 27 = .ok (.invokestatic 44, 3) := by decide +kernel
theorem dX10_order_30 : decode cX10_order 30 = .ok (.ifCond .eq 14, 3) := by decide +kernel
theorem dX10_order_33 : decode cX10_order 33 = .ok (.iload 4, 2) := by decide +kernel
theorem dX10_order_35 : decode cX10_order 35 = .ok (.iconst 1, 1) := by decide +kernel
theorem dX10_order_36 : decode cX10_order 36 = .ok (.bipush 99, 2) := by decide +kernel
theorem dX10_order_38 : decode cX10_order 38 = .ok (.invokestatic 44, 3) := by decide +kernel
theorem dX10_order_41 : decode cX10_order 41 = .ok (.ifCond .ne 7, 3) := by decide +kernel
theorem dX10_order_44 : decode cX10_order 44 = .ok (.iconst 1, 1) := by decide +kernel
theorem dX10_order_45 : decode cX10_order 45 = .ok (.goto 4, 3) := by decide +kernel
theorem dX10_order_48 : decode cX10_order 48 = .ok (.iconst 0, 1) := by decide +kernel
theorem dX10_order_49 : decode cX10_order 49 = .ok (.iconst 2, 1) := by decide +kernel
theorem dX10_order_50 : decode cX10_order 50 = .ok (.invokevirtual 36, 3) := by decide +kernel
theorem dX10_order_53 : decode cX10_order 53 = .ok (.ifCond .ne 28, 3) := by decide +kernel
theorem dX10_order_56 : decode cX10_order 56 = .ok (.aload_n 0, 1) := by decide +kernel
theorem dX10_order_57 : decode cX10_order 57 = .ok (.aload_n 0, 1) := by decide +kernel
theorem dX10_order_58 : decode cX10_order 58 = .ok (.getfield 22, 3) := by decide +kernel
theorem dX10_order_61 : decode cX10_order 61 = .ok (.invokevirtual 40, 3) := by decide +kernel
theorem dX10_order_64 : decode cX10_order 64 = .ok (.bipush 6, 2) := by decide +kernel
theorem dX10_order_66 : decode cX10_order 66 = .ok (.if_icmp .ne 7, 3) := by decide +kernel
theorem dX10_order_69 : decode cX10_order 69 = .ok (.iconst 1, 1) := by decide +kernel
theorem dX10_order_70 : decode cX10_order 70 = .ok (.goto 4, 3) := by decide +kernel
theorem dX10_order_73 : decode cX10_order 73 = .ok (.iconst 0, 1) := by decide +kernel
theorem dX10_order_74 : decode cX10_order 74 = .ok (.iconst 3, 1) := by decide +kernel
theorem dX10_order_75 : decode cX10_order 75 = .ok (.invokevirtual 36, 3) := by decide +kernel
theorem dX10_order_78 : decode cX10_order 78 = .ok (.ifCond .eq 5, 3) := by decide +kernel
theorem dX10_order_81 : decode cX10_order 81 = .ok (.iconst 0, 1) := by decide +kernel
theorem dX10_order_82 : decode cX10_order 82 = .ok (.ireturn, 1) := by decide +kernel
theorem dX10_order_83 : decode cX10_order 83 = .ok (.aload_n 0, 1) := by decide +kernel
theorem dX10_order_84 : decode cX10_order 84 = .ok (.getfield 22, 3) := by decide +kernel
theorem dX10_order_87 : decode cX10_order 87 = .ok (.iconst 5, 1) := by decide +kernel
theorem dX10_order_88 : decode cX10_order 88 = .ok (.newarray .int, 2) := by decide +kernel
theorem dX10_order_90 : decode cX10_order 90 = .ok (.dup, 1) := by decide +kernel
theorem dX10_order_91 : decode cX10_order 91 = .ok (.iconst 0, 1) := by decide +kernel
theorem dX10_order_92 : decode cX10_order 92 = .ok (.iload_n 1, 1) := by decide +kernel
theorem dX10_order_93 : decode cX10_order 93 = .ok (.iastore, 1) := by decide +kernel
theorem dX10_order_94 : decode cX10_order 94 = .ok (.dup, 1) := by decide +kernel
theorem dX10_order_95 : decode cX10_order 95 = .ok (.iconst 1, 1) := by decide +kernel
theorem dX10_order_96 : decode cX10_order 96 = .ok (.iload_n 2, 1) := by decide +kernel
theorem dX10_order_97 : decode cX10_order 97 = .ok (.iastore, 1) := by decide +kernel
theorem dX10_order_98 : decode cX10_order 98 = .ok (.dup, 1) := by decide +kernel
theorem dX10_order_99 : decode cX10_order 99 = .ok (.iconst 2, 1) := by decide +kernel
theorem dX10_order_100 : decode cX10_order 100 = .ok (.aload_n 0, 1) := by decide +kernel
theorem dX10_order_101 : decode cX10_order 101 = .ok (.getfield 131, 3) := by decide +kernel
theorem dX10_order_104 : decode cX10_order 104 = .ok (.iload_n 3, 1) := by decide +kernel
theorem dX10_order_105 : decode cX10_order 105 = .ok (.iadd, 1) := by decide +kernel
theorem dX10_order_106 : decode cX10_order 106 = .ok (.iastore, 1) := by decide +kernel
theorem dX10_order_107 : decode cX10_order 107 = .ok (.dup, 1) := by decide +kernel
theorem dX10_order_108 : decode cX10_order 108 = .ok (.iconst 3, 1) := by decide +kernel
theorem dX10_order_109 : decode cX10_order 109 = .ok (.iload 4, 2) := by decide +kernel
theorem dX10_order_111 : decode cX10_order 111 = .ok (.iastore, 1) := by decide +kernel
theorem dX10_order_112 : decode cX10_order 112 = .ok (.dup, 1) := by decide +kernel
theorem dX10_order_113 : decode cX10_order 113 = .ok (.iconst 4, 1) := by decide +kernel
theorem dX10_order_114 : decode cX10_order 114 = .ok (.iconst 0, 1) := by decide +kernel
theorem dX10_order_115 : decode cX10_order 115 = .ok (.iastore, 1) := by decide +kernel
theorem dX10_order_116 : decode cX10_order 116 = .ok (.invokevirtual 91, 3) := by decide +kernel
theorem dX10_order_119 : decode cX10_order 119 = .ok (.pop, 1) := by decide +kernel
theorem dX10_order_120 : decode cX10_order 120 = .ok (.aload_n 0, 1) := by decide +kernel
theorem dX10_order_121 : decode cX10_order 121 = .ok (.getfield 22, 3) := by decide +kernel
theorem dX10_order_124 : decode cX10_order 124 = .ok (.invokevirtual 40, 3) := by decide +kernel
theorem dX10_order_127 : decode cX10_order 127 = .ok (.iconst 1, 1) := by decide +kernel
theorem dX10_order_128 : decode cX10_order 128 = .ok (.isub, 1) := by decide +kernel
theorem dX10_order_129 : decode cX10_order 129 = .ok (.ireturn, 1) := by decide +kernel
theorem dX10_colour_0 : decode cX10_colour 0 = .ok (.aload_n 1, 1) := by decide +kernel
theorem dX10_colour_1 : decode cX10_colour 1 = .ok (.getfield 124, 3) := by decide +kernel
theorem dX10_colour_4 : decode cX10_colour 4 = .ok (.iconst 4, 1) := by decide +kernel
theorem dX10_colour_5 : decode cX10_colour 5 = .ok (.if_icmp .eq 14, 3) := by decide +kernel
theorem dX10_colour_8 : decode cX10_colour 8 = .ok (.aload_n 1, 1) := by decide +kernel
theorem dX10_colour_9 : decode cX10_colour 9 = .ok (.getfield 124, 3) := by decide +kernel
theorem dX10_colour_12 : decode cX10_colour 12 = .ok (.bipush 6, 2) := by decide +kernel
theorem dX10_colour_14 : decode cX10_colour 14 = .ok (.if_icmp .eq 5, 3) := by decide +kernel
theorem dX10_colour_17 : decode cX10_colour 17 = .ok (.iconst (-1), 1) := by decide +kernel
theorem dX10_colour_18 : decode cX10_colour 18 = .ok (.ireturn, 1) := by decide +kernel
theorem dX10_colour_19 : decode cX10_colour 19 = .ok (.aload_n 0, 1) := by decide +kernel
theorem dX10_colour_20 : decode cX10_colour 20 = .ok (.getfield 16, 3) := by decide +kernel
theorem dX10_colour_23 : decode cX10_colour 23 = .ok (.aload_n 1, 1) := by decide +kernel
theorem dX10_colour_24 : decode cX10_colour 24 = .ok (.getfield 144, 3) := by decide +kernel
theorem dX10_colour_27 : decode cX10_colour 27 = .ok (.invokevirtual 58, 3) := by decide +kernel
theorem dX10_colour_30 : decode cX10_colour 30 = .ok (.checkcast 62, 3) := by decide +kernel
theorem dX10_colour_33 : decode cX10_colour 33 = .ok (.iconst 4, 1) := by decide +kernel
theorem dX10_colour_34 : decode cX10_colour 34 = .ok (.iaload, 1) := by decide +kernel
theorem dX10_colour_35 : decode cX10_colour 35 = .ok (.iconst 5, 1) := by decide +kernel
theorem dX10_colour_36 : decode cX10_colour 36 = .ok (.if_icmp .ge 7, 3) := by decide +kernel
theorem dX10_colour_39 : decode cX10_colour 39 = .ok (.iconst 0, 1) := by decide +kernel
theorem dX10_colour_40 : decode cX10_colour 40 = .ok (.goto 16, 3) := by decide +kernel
theorem dX10_colour_43 : decode cX10_colour 43 = .ok (.aload_n 1, 1) := by decide +kernel
theorem dX10_colour_44 : decode cX10_colour 44 = .ok (.getfield 257, 3) := by decide +kernel
theorem dX10_colour_47 : decode cX10_colour 47 = .ok (.iconst 4, 1) := by decide +kernel
theorem dX10_colour_48 : decode cX10_colour 48 = .ok (.if_icmp .lt 7, 3) := by decide +kernel
theorem dX10_colour_51 : decode cX10_colour 51 = .ok (.iconst 1, 1) := by decide +kernel
theorem dX10_colour_52 : decode cX10_colour 52 = .ok (.goto 4, 3) := by decide +kernel
theorem dX10_colour_55 : decode cX10_colour 55 = .ok (.iconst 2, 1) := by decide +kernel
theorem dX10_colour_56 : decode cX10_colour 56 = .ok (.ireturn, 1) := by decide +kernel
theorem dX10_meet_0 : decode cX10_meet 0 = .ok (.aload_n 0, 1) := by decide +kernel
theorem dX10_meet_1 : decode cX10_meet 1 = .ok (.iload_n 1, 1) := by decide +kernel
theorem dX10_meet_2 : decode cX10_meet 2 = .ok (.iconst 0, 1) := by decide +kernel
theorem dX10_meet_3 : decode cX10_meet 3 = .ok (.aload_n 0, 1) := by decide +kernel
theorem dX10_meet_4 : decode cX10_meet 4 = .ok (.getfield 22, 3) := by decide +kernel
theorem dX10_meet_7 : decode cX10_meet 7 = .ok (.invokevirtual 40, 3) := by decide +kernel
theorem dX10_meet_10 : decode cX10_meet 10 = .ok (.iconst 1, 1) := by decide +kernel
theorem dX10_meet_11 : decode cX10_meet 11 = .ok (.isub, 1) := by decide +kernel
theorem dX10_meet_12 : decode cX10_meet 12 = .ok (.invokestatic 44, 3) := by decide +kernel
theorem dX10_meet_15 : decode cX10_meet 15 = .ok (.ifCond .eq 11, 3) := by decide +kernel
theorem dX10_meet_18 : decode cX10_meet 18 = .ok (.aload_n 0, 1) := by decide +kernel
theorem dX10_meet_19 : decode cX10_meet 19 = .ok (.iload_n 2, 1) := by decide +kernel
theorem dX10_meet_20 : decode cX10_meet 20 = .ok (.invokevirtual 104, 3) := by decide +kernel
theorem dX10_meet_23 : decode cX10_meet 23 = .ok (.ifCond .eq 7, 3) := by decide +kernel
theorem dX10_meet_26 : decode cX10_meet 26 = .ok (.iconst 1, 1) := by decide +kernel
theorem dX10_meet_27 : decode cX10_meet 27 = .ok (.goto 4, 3) := by decide +kernel
theorem dX10_meet_30 : decode cX10_meet 30 = .ok (.iconst 0, 1) := by decide +kernel
theorem dX10_meet_31 : decode cX10_meet 31 = .ok (.iconst 1, 1) := by decide +kernel
theorem dX10_meet_32 : decode cX10_meet 32 = .ok (.invokevirtual 88, 3) := by decide +kernel
theorem dX10_meet_35 : decode cX10_meet 35 = .ok (.ifCond .eq 5, 3) := by decide +kernel
theorem dX10_meet_38 : decode cX10_meet 38 = .ok (.iconst 0, 1) := by decide +kernel
theorem dX10_meet_39 : decode cX10_meet 39 = .ok (.ireturn, 1) := by decide +kernel
theorem dX10_meet_40 : decode cX10_meet 40 = .ok (.aload_n 0, 1) := by decide +kernel
theorem dX10_meet_41 : decode cX10_meet 41 = .ok (.getfield 22, 3) := by decide +kernel
theorem dX10_meet_44 : decode cX10_meet 44 = .ok (.iload_n 1, 1) := by decide +kernel
theorem dX10_meet_45 : decode cX10_meet 45 = .ok (.invokevirtual 58, 3) := by decide +kernel
theorem dX10_meet_48 : decode cX10_meet 48 = .ok (.checkcast 62, 3) := by decide +kernel
theorem dX10_meet_51 : decode cX10_meet 51 = .ok (.astore_n 3, 1) := by decide +kernel
theorem dX10_meet_52 : decode cX10_meet 52 = .ok (.aload_n 0, 1) := by decide +kernel
theorem dX10_meet_53 : decode cX10_meet 53 = .ok (.getfield 19, 3) := by decide +kernel
theorem dX10_meet_56 : decode cX10_meet 56 = .ok (.iload_n 2, 1) := by decide +kernel
theorem dX10_meet_57 : decode cX10_meet 57 = .ok (.invokevirtual 58, 3) := by decide +kernel
theorem dX10_meet_60 : decode cX10_meet 60 = .ok (.checkcast 99, 3) := by decide +kernel
theorem dX10_meet_63 : decode cX10_meet 63 = .ok (.astore 4, 2) := by decide +kernel
theorem dX10_meet_65 : decode cX10_meet 65 = .ok (.aload_n 0, 1) := by decide +kernel
theorem dX10_meet_66 : decode cX10_meet 66 = .ok (.aload_n 3, 1) := by decide +kernel
theorem dX10_meet_67 : decode cX10_meet 67 = .ok (.iconst 4, 1) := by decide +kernel
theorem dX10_meet_68 : decode cX10_meet 68 = .ok (.iaload, 1) := by decide +kernel
theorem dX10_meet_69 : decode cX10_meet 69 = .ok (.iconst 1, 1) := by decide +kernel
theorem dX10_meet_70 : decode cX10_meet 70 = .ok (.if_icmp .eq 35, 3) := by decide +kernel
theorem dX10_meet_73 : decode cX10_meet 73 = .ok (.aload 4, 2) := by decide +kernel
theorem dX10_meet_75 : decode cX10_meet 75 = .ok (.getfield 124, 3) := by decide +kernel
theorem dX10_meet_78 : decode cX10_meet 78 = .ok (.iconst 4, 1) := by decide +kernel
theorem dX10_meet_79 : decode cX10_meet 79 = .ok (.if_icmp .ne 26, 3) := by decide +kernel
theorem dX10_meet_82 : decode cX10_meet 82 = .ok (.aload 4, 2) := by decide +kernel
theorem dX10_meet_84 : decode cX10_meet 84 = .ok (.getfield 144, 3) := by decide +kernel
theorem dX10_meet_87 : decode cX10_meet 87 = .ok (.aload_n 3, 1) := by decide +kernel
theorem dX10_meet_88 : decode cX10_meet 88 = .ok (.iconst 0, 1) := by decide +kernel
theorem dX10_meet_89 : decode cX10_meet 89 = .ok (.iaload, 1) := by decide +kernel
theorem dX10_meet_90 : decode cX10_meet 90 = .ok (.if_icmp .ne 15, 3) := by decide +kernel
theorem dX10_meet_93 : decode cX10_meet 93 = .ok (.aload_n 0, 1) := by decide +kernel
theorem dX10_meet_94 : decode cX10_meet 94 = .ok (.aload 4, 2) := by decide +kernel
theorem dX10_meet_96 : decode cX10_meet 96 = .ok (.invokevirtual 260, 3) := by decide +kernel
theorem dX10_meet_99 : decode cX10_meet 99 = .ok (.aload_n 3, 1) := by decide +kernel
theorem dX10_meet_100 : decode cX10_meet 100 = .ok (.iconst 1, 1) := by decide +kernel
theorem dX10_meet_101 : decode cX10_meet 101 = .ok (.iaload, 1) := by decide +kernel
theorem dX10_meet_102 : decode cX10_meet 102 = .ok (.if_icmp .eq 7, 3) := by decide +kernel
theorem dX10_meet_105 : decode cX10_meet 105 = .ok (.iconst 1, 1) := by decide +kernel
theorem dX10_meet_106 : decode cX10_meet 106 = .ok (.goto 4, 3) := by decide +kernel
theorem dX10_meet_109 : decode cX10_meet 109 = .ok (.iconst 0, 1) := by decide +kernel
theorem dX10_meet_110 : decode cX10_meet 110 = .ok (.iconst 2, 1) := by decide +kernel
theorem dX10_meet_111 : decode cX10_meet 111 = .ok (.invokevirtual 36, 3) := by decide +kernel
theorem dX10_meet_114 : decode cX10_meet 114 = .ok (.ifCond .eq 5, 3) := by decide +kernel
theorem dX10_meet_117 : decode cX10_meet 117 = .ok (.iconst 0, 1) := by decide +kernel
theorem dX10_meet_118 : decode cX10_meet 118 = .ok (.ireturn, 1) := by decide +kernel
theorem dX10_meet_119 : decode cX10_meet 119 = .ok (.aload 4, 2) := by decide +kernel
theorem dX10_meet_121 : decode cX10_meet 121 = .ok (.getfield 237, 3) := by decide +kernel
theorem dX10_meet_124 : decode cX10_meet 124 = .ok (.ifCond .ne 9, 3) := by decide +kernel
theorem dX10_meet_127 : decode cX10_meet 127 = .ok (.aload_n 3, 1) := by decide +kernel
theorem dX10_meet_128 : decode cX10_meet 128 = .ok (.iconst 3, 1) := by decide +kernel
theorem dX10_meet_129 : decode cX10_meet 129 = .ok (.iaload, 1) := by decide +kernel
theorem dX10_meet_130 : decode cX10_meet 130 = .ok (.goto 8, 3) := by decide +kernel
theorem dX10_meet_133 : decode cX10_meet 133 = .ok (.aload_n 3, 1) := by decide +kernel
theorem dX10_meet_134 : decode cX10_meet 134 = .ok (.iconst 3, 1) := by decide +kernel
theorem dX10_meet_135 : decode cX10_meet 135 = .ok (.iaload, 1) := by decide +kernel
theorem dX10_meet_136 : decode cX10_meet 136 = .ok (.iconst 2, 1) := by decide +kernel
theorem dX10_meet_137 : decode cX10_meet 137 = .ok (.idiv, 1) := by decide +kernel
theorem dX10_meet_138 : decode cX10_meet 138 = .ok (.istore 5, 2) := by decide +kernel
theorem dX10_meet_140 : decode cX10_meet 140 = .ok (.iconst 0, 1) := by decide +kernel
theorem dX10_meet_141 : decode cX10_meet 141 = .ok (.iload 5, 2) := by decide +kernel
theorem dX10_meet_143 : decode cX10_meet 143 = .ok (.iconst 0, 1) := by decide +kernel
theorem dX10_meet_144 : decode cX10_meet 144 = .ok (.aload_n 0, 1) := by decide +kernel
theorem dX10_meet_145 : decode cX10_meet 145 = .ok (.getfield 131, 3) := by decide +kernel
theorem dX10_meet_148 : decode cX10_meet 148 = .ok (.aload_n 3, 1) := by decide +kernel
theorem dX10_meet_149 : decode cX10_meet 149 = .ok (.iconst 2, 1) := by decide +kernel
theorem dX10_meet_150 : decode cX10_meet 150 = .ok (.iaload, 1) := by decide +kernel
theorem dX10_meet_151 : decode cX10_meet 151 = .ok (.isub, 1) := by decide +kernel
theorem dX10_meet_152 : decode cX10_meet 152 = .ok (.invokestatic 163, 3) := by decide +kernel
theorem dX10_meet_155 : decode cX10_meet 155 = .ok (.isub, 1) := by decide +kernel
theorem dX10_meet_156 : decode cX10_meet 156 = .ok (.invokestatic 163, 3) := by decide +kernel
theorem dX10_meet_159 : decode cX10_meet 159 = .ok (.istore 6, 2) := by decide +kernel
theorem dX10_meet_161 : decode cX10_meet 161 = .ok (.aload_n 3, 1) := by decide +kernel
theorem dX10_meet_162 : decode cX10_meet 162 = .ok (.iconst 4, 1) := by decide +kernel
theorem dX10_meet_163 : decode cX10_meet 163 = .ok (.iconst 1, 1) := by decide +kernel
theorem dX10_meet_164 : decode cX10_meet 164 = .ok (.iastore, 1) := by decide +kernel
theorem dX10_meet_165 : decode cX10_meet 165 = .ok (.aload 4, 2) := by decide +kernel
theorem dX10_meet_167 : decode cX10_meet 167 = .ok (.bipush 6, 2) := by decide +kernel
theorem dX10_meet_169 : decode cX10_meet 169 = .ok (.putfield 124, 3) := by decide +kernel
theorem dX10_meet_172 : decode cX10_meet 172 = .ok (.aload_n 0, 1) := by decide +kernel
theorem dX10_meet_173 : decode cX10_meet 173 = .ok (.dup, 1) := by decide +kernel
theorem dX10_meet_174 : decode cX10_meet 174 = .ok (.getfield 264, 3) := by decide +kernel
theorem dX10_meet_177 : decode cX10_meet 177 = .ok (.iload 6, 2) := by decide +kernel
theorem dX10_meet_179 : decode cX10_meet 179 = .ok (.iadd, 1) := by decide +kernel
theorem dX10_meet_180 : decode cX10_meet 180 = .ok (.putfield 264, 3) := by decide +kernel
theorem dX10_meet_183 : decode cX10_meet 183 = .ok (.iload 6, 2) := by decide +kernel
theorem dX10_meet_185 : decode cX10_meet 185 = .ok (.ireturn, 1) := by decide +kernel
theorem dX10_toldOfPot_0 : decode cX10_toldOfPot 0 = .ok (.aload_n 0, 1) := by decide +kernel
theorem dX10_toldOfPot_1 : decode cX10_toldOfPot 1 = .ok (.getfield 19, 3) := by decide +kernel
theorem dX10_toldOfPot_4 : decode cX10_toldOfPot 4 = .ok (.iload_n 1, 1) := by decide +kernel
theorem dX10_toldOfPot_5 : decode cX10_toldOfPot 5 = .ok (.invokevirtual 58, 3) := by decide +kernel
theorem dX10_toldOfPot_8 : decode cX10_toldOfPot 8 = .ok (.checkcast 99, 3) := by decide +kernel
theorem dX10_toldOfPot_11 : decode cX10_toldOfPot 11 = .ok (.astore_n 3, 1) := by decide +kernel
theorem dX10_toldOfPot_12 : decode cX10_toldOfPot 12 = .ok (.bipush 8, 2) := by decide +kernel
theorem dX10_toldOfPot_14 : decode cX10_toldOfPot 14 = .ok (.newarray .int, 2) := by decide +kernel
theorem dX10_toldOfPot_16 : decode cX10_toldOfPot 16 = .ok (.dup, 1) := by decide +kernel
theorem dX10_toldOfPot_17 : decode cX10_toldOfPot 17 = .ok (.iconst 0, 1) := by decide +kernel
theorem dX10_toldOfPot_18 : decode cX10_toldOfPot 18 = .ok (.aload_n 3, 1) := by decide +kernel
theorem dX10_toldOfPot_19 : decode cX10_toldOfPot 19 = .ok (.getfield 124, 3) := by decide +kernel
theorem dX10_toldOfPot_22 : decode cX10_toldOfPot 22 = .ok (.iastore, 1) := by decide +kernel
theorem dX10_toldOfPot_23 : decode cX10_toldOfPot 23 = .ok (.dup, 1) := by decide +kernel
theorem dX10_toldOfPot_24 : decode cX10_toldOfPot 24 = .ok (.iconst 1, 1) := by decide +kernel
theorem dX10_toldOfPot_25 : decode cX10_toldOfPot 25 = .ok (.aload_n 3, 1) := by decide +kernel
theorem dX10_toldOfPot_26 : decode cX10_toldOfPot 26 = .ok (.getfield 144, 3) := by decide +kernel
theorem dX10_toldOfPot_29 : decode cX10_toldOfPot 29 = .ok (.iastore, 1) := by decide +kernel
theorem dX10_toldOfPot_30 : decode cX10_toldOfPot 30 = .ok (.dup, 1) := by decide +kernel
theorem dX10_toldOfPot_31 : decode cX10_toldOfPot 31 = .ok (.iconst 2, 1) := by decide +kernel
theorem dX10_toldOfPot_32 : decode cX10_toldOfPot 32 = .ok (.aload_n 3, 1) := by decide +kernel
theorem dX10_toldOfPot_33 : decode cX10_toldOfPot 33 = .ok (.getfield 237, 3) := by decide +kernel
theorem dX10_toldOfPot_36 : decode cX10_toldOfPot 36 = .ok (.iastore, 1) := by decide +kernel
theorem dX10_toldOfPot_37 : decode cX10_toldOfPot 37 = .ok (.dup, 1) := by decide +kernel
theorem dX10_toldOfPot_38 : decode cX10_toldOfPot 38 = .ok (.iconst 3, 1) := by decide +kernel
theorem dX10_toldOfPot_39 : decode cX10_toldOfPot 39 = .ok (.aload_n 3, 1) := by decide +kernel
theorem dX10_toldOfPot_40 : decode cX10_toldOfPot 40 = .ok (.getfield 150, 3) := by decide +kernel
theorem dX10_toldOfPot_43 : decode cX10_toldOfPot 43 = .ok (.iastore, 1) := by decide +kernel
theorem dX10_toldOfPot_44 : decode cX10_toldOfPot 44 = .ok (.dup, 1) := by decide +kernel
theorem dX10_toldOfPot_45 : decode cX10_toldOfPot 45 = .ok (.iconst 4, 1) := by decide +kernel
theorem dX10_toldOfPot_46 : decode cX10_toldOfPot 46 = .ok (.aload_n 3, 1) := by decide +kernel
theorem dX10_toldOfPot_47 : decode cX10_toldOfPot 47 = .ok (.getfield 153, 3) := by decide +kernel
theorem dX10_toldOfPot_50 : decode cX10_toldOfPot 50 = .ok (.iastore, 1) := by decide +kernel
theorem dX10_toldOfPot_51 : decode cX10_toldOfPot 51 = .ok (.dup, 1) := by decide +kernel
theorem dX10_toldOfPot_52 : decode cX10_toldOfPot 52 = .ok (.iconst 5, 1) := by decide +kernel
theorem dX10_toldOfPot_53 : decode cX10_toldOfPot 53 = .ok (.aload_n 3, 1) := by decide +kernel
theorem dX10_toldOfPot_54 : decode cX10_toldOfPot 54 = .ok (.getfield 257, 3) := by decide +kernel
theorem dX10_toldOfPot_57 : decode cX10_toldOfPot 57 = .ok (.iastore, 1) := by decide +kernel
theorem dX10_toldOfPot_58 : decode cX10_toldOfPot 58 = .ok (.dup, 1) := by decide +kernel
theorem dX10_toldOfPot_59 : decode cX10_toldOfPot 59 = .ok (.bipush 6, 2) := by decide +kernel
theorem dX10_toldOfPot_61 : decode cX10_toldOfPot 61 = .ok (.aload_n 0, 1) := by decide +kernel
theorem dX10_toldOfPot_62 : decode cX10_toldOfPot 62 = .ok (.aload_n 3, 1) := by decide +kernel
theorem dX10_toldOfPot_63 : decode cX10_toldOfPot 63 = .ok (.invokevirtual 260, 3) := by decide +kernel
theorem dX10_toldOfPot_66 : decode cX10_toldOfPot 66 = .ok (.iastore, 1) := by decide +kernel
theorem dX10_toldOfPot_67 : decode cX10_toldOfPot 67 = .ok (.dup, 1) := by decide +kernel
theorem dX10_toldOfPot_68 : decode cX10_toldOfPot 68 = .ok (.bipush 7, 2) := by decide +kernel
theorem dX10_toldOfPot_70 : decode cX10_toldOfPot 70 = .ok (.aload_n 3, 1) := by decide +kernel
theorem dX10_toldOfPot_71 : decode cX10_toldOfPot 71 = .ok (.getfield 107, 3) := by decide +kernel
theorem dX10_toldOfPot_74 : decode cX10_toldOfPot 74 = .ok (.invokestatic 127, 3) := by decide +kernel
theorem dX10_toldOfPot_77 : decode cX10_toldOfPot 77 = .ok (.iastore, 1) := by decide +kernel
theorem dX10_toldOfPot_78 : decode cX10_toldOfPot 78 = .ok (.astore 4, 2) := by decide +kernel
theorem dX10_toldOfPot_80 : decode cX10_toldOfPot 80 = .ok (.aload 4, 2) := by decide +kernel
theorem dX10_toldOfPot_82 : decode cX10_toldOfPot 82 = .ok (.iload_n 2, 1) := by decide +kernel
theorem dX10_toldOfPot_83 : decode cX10_toldOfPot 83 = .ok (.iaload, 1) := by decide +kernel
theorem dX10_toldOfPot_84 : decode cX10_toldOfPot 84 = .ok (.ireturn, 1) := by decide +kernel
theorem dX10_ofPot_0 : decode cX10_ofPot 0 = .ok (.aload_n 0, 1) := by decide +kernel
theorem dX10_ofPot_1 : decode cX10_ofPot 1 = .ok (.aload_n 0, 1) := by decide +kernel
theorem dX10_ofPot_2 : decode cX10_ofPot 2 = .ok (.iload_n 1, 1) := by decide +kernel
theorem dX10_ofPot_3 : decode cX10_ofPot 3 = .ok (.invokevirtual 104, 3) := by decide +kernel
theorem dX10_ofPot_6 : decode cX10_ofPot 6 = .ok (.iconst 1, 1) := by decide +kernel
theorem dX10_ofPot_7 : decode cX10_ofPot 7 = .ok (.invokevirtual 88, 3) := by decide +kernel
theorem dX10_ofPot_10 : decode cX10_ofPot 10 = .ok (.ifCond .ne 26, 3) := by decide +kernel
theorem dX10_ofPot_13 : decode cX10_ofPot 13 = .ok (.aload_n 0, 1) := by decide +kernel
theorem dX10_ofPot_14 : decode cX10_ofPot 14 = .ok (.iload_n 2, 1) := by decide +kernel
theorem dX10_ofPot_15 : decode cX10_ofPot 15 = .ok (.iconst 0, 1) := by decide +kernel
theorem dX10_ofPot_16 : decode cX10_ofPot 16 = .ok (.bipush 7, 2) := by decide +kernel
theorem dX10_ofPot_18 : decode cX10_ofPot 18 = .ok (.invokestatic 44, 3) := by decide +kernel
theorem dX10_ofPot_21 : decode cX10_ofPot 21 = .ok (.ifCond .ne 7, 3) := by decide +kernel
theorem dX10_ofPot_24 : decode cX10_ofPot 24 = .ok (.iconst 1, 1) := by decide +kernel
theorem dX10_ofPot_25 : decode cX10_ofPot 25 = .ok (.goto 4, 3) := by decide +kernel
theorem dX10_ofPot_28 : decode cX10_ofPot 28 = .ok (.iconst 0, 1) := by decide +kernel
theorem dX10_ofPot_29 : decode cX10_ofPot 29 = .ok (.iconst 2, 1) := by decide +kernel
theorem dX10_ofPot_30 : decode cX10_ofPot 30 = .ok (.invokevirtual 36, 3) := by decide +kernel
theorem dX10_ofPot_33 : decode cX10_ofPot 33 = .ok (.ifCond .eq 7, 3) := by decide +kernel
theorem dX10_ofPot_36 : decode cX10_ofPot 36 = .ok (.iconst 0, 1) := by decide +kernel
theorem dX10_ofPot_37 : decode cX10_ofPot 37 = .ok (.goto 9, 3) := by decide +kernel
theorem dX10_ofPot_40 : decode cX10_ofPot 40 = .ok (.aload_n 0, 1) := by decide +kernel
theorem dX10_ofPot_41 : decode cX10_ofPot 41 = .ok (.iload_n 1, 1) := by decide +kernel
theorem dX10_ofPot_42 : decode cX10_ofPot 42 = .ok (.iload_n 2, 1) := by decide +kernel
theorem dX10_ofPot_43 : decode cX10_ofPot 43 = .ok (.invokevirtual 267, 3) := by decide +kernel
theorem dX10_ofPot_46 : decode cX10_ofPot 46 = .ok (.ireturn, 1) := by decide +kernel
theorem dX10_water_0 : decode cX10_water 0 = .ok (.aload_n 0, 1) := by decide +kernel
theorem dX10_water_1 : decode cX10_water 1 = .ok (.aload_n 0, 1) := by decide +kernel
theorem dX10_water_2 : decode cX10_water 2 = .ok (.iload_n 1, 1) := by decide +kernel
theorem dX10_water_3 : decode cX10_water 3 = .ok (.invokevirtual 104, 3) := by decide +kernel
theorem dX10_water_6 : decode cX10_water 6 = .ok (.iconst 1, 1) := by decide +kernel
theorem dX10_water_7 : decode cX10_water 7 = .ok (.invokevirtual 88, 3) := by decide +kernel
theorem dX10_water_10 : decode cX10_water 10 = .ok (.ifCond .eq 7, 3) := by decide +kernel
theorem dX10_water_13 : decode cX10_water 13 = .ok (.dconst 0, 1) := by decide +kernel
theorem dX10_water_14 : decode cX10_water 14 = .ok (.goto 18, 3) := by decide +kernel
theorem dX10_water_17 : decode cX10_water 17 = .ok (.aload_n 0, 1) := by decide +kernel
theorem dX10_water_18 : decode cX10_water 18 = .ok (.getfield 19, 3) := by decide +kernel
theorem dX10_water_21 : decode cX10_water 21 = .ok (.iload_n 1, 1) := by decide +kernel
theorem dX10_water_22 : decode cX10_water 22 = .ok (.invokevirtual 58, 3) := by decide +kernel
theorem dX10_water_25 : decode cX10_water 25 = .ok (.checkcast 99, 3) := by decide +kernel
theorem dX10_water_28 : decode cX10_water 28 = .ok (.getfield 270, 3) := by decide +kernel
theorem dX10_water_31 : decode cX10_water 31 = .ok (.f2d, 1) := by decide +kernel
theorem dX10_water_32 : decode cX10_water 32 = .ok (.dreturn, 1) := by decide +kernel
theorem dX10_toldOfGlaze_0 : decode cX10_toldOfGlaze 0 = .ok (.aload_n 0, 1) := by decide +kernel
theorem dX10_toldOfGlaze_1 : decode cX10_toldOfGlaze 1 = .ok (.getfield 16, 3) := by decide +kernel
theorem dX10_toldOfGlaze_4 : decode cX10_toldOfGlaze 4 = .ok (.iload_n 1, 1) := by decide +kernel
theorem dX10_toldOfGlaze_5 : decode cX10_toldOfGlaze 5 = .ok (.invokevirtual 58, 3) := by decide +kernel
theorem dX10_toldOfGlaze_8 : decode cX10_toldOfGlaze 8 = .ok (.checkcast 62, 3) := by decide +kernel
theorem dX10_toldOfGlaze_11 : decode cX10_toldOfGlaze 11 = .ok (.astore_n 3, 1) := by decide +kernel
theorem dX10_toldOfGlaze_12 : decode cX10_toldOfGlaze 12 = .ok (.iload_n 2, 1) := by decide +kernel
theorem dX10_toldOfGlaze_13 : decode cX10_toldOfGlaze 13 = .ok (.ifCond .ne 11, 3) := by decide +kernel
theorem dX10_toldOfGlaze_16 : decode cX10_toldOfGlaze 16 = .ok (.aload_n 0, 1) := by decide +kernel
theorem dX10_toldOfGlaze_17 : decode cX10_toldOfGlaze 17 = .ok (.iload_n 1, 1) := by decide +kernel
theorem dX10_toldOfGlaze_18 : decode cX10_toldOfGlaze 18 = .ok (.invokevirtual 230, 3) := by decide +kernel
theorem dX10_toldOfGlaze_21 : decode cX10_toldOfGlaze 21 = .ok (.goto 38, 3) := by decide +kernel
theorem dX10_toldOfGlaze_24 : decode cX10_toldOfGlaze 24 = .ok (.iload_n 2, 1) := by decide +kernel
theorem dX10_toldOfGlaze_25 : decode cX10_toldOfGlaze 25 = .ok (.iconst 1, 1) := by decide +kernel
theorem dX10_toldOfGlaze_26 : decode cX10_toldOfGlaze 26 = .ok (.if_icmp .ne 27, 3) := by decide +kernel
theorem dX10_toldOfGlaze_29 : decode cX10_toldOfGlaze 29 = .ok (.aload_n 3, 1) := by decide +kernel
theorem dX10_toldOfGlaze_30 : decode cX10_toldOfGlaze 30 = .ok (.iconst 2, 1) := by decide +kernel
theorem dX10_toldOfGlaze_31 : decode cX10_toldOfGlaze 31 = .ok (.iaload, 1) := by decide +kernel
theorem dX10_toldOfGlaze_32 : decode cX10_toldOfGlaze 32 = .ok (.ifCond .ne 9, 3) := by decide +kernel
theorem dX10_toldOfGlaze_35 : decode cX10_toldOfGlaze 35 = .ok (.ldc2_w 273, 3) := by decide +kernel
theorem dX10_toldOfGlaze_38 : decode cX10_toldOfGlaze 38 = .ok (.goto 21, 3) := by decide +kernel
theorem dX10_toldOfGlaze_41 : decode cX10_toldOfGlaze 41 = .ok (.aload_n 3, 1) := by decide +kernel
theorem dX10_toldOfGlaze_42 : decode cX10_toldOfGlaze 42 = .ok (.iconst 3, 1) := by decide +kernel
theorem dX10_toldOfGlaze_43 : decode cX10_toldOfGlaze 43 = .ok (.iaload, 1) := by decide +kernel
theorem dX10_toldOfGlaze_44 : decode cX10_toldOfGlaze 44 = .ok (.i2d, 1) := by decide +kernel
theorem dX10_toldOfGlaze_45 : decode cX10_toldOfGlaze 45 = .ok (.aload_n 3, 1) := by decide +kernel
theorem dX10_toldOfGlaze_46 : decode cX10_toldOfGlaze 46 = .ok (.iconst 2, 1) := by decide +kernel
theorem dX10_toldOfGlaze_47 : decode cX10_toldOfGlaze 47 = .ok (.iaload, 1) := by decide +kernel
theorem dX10_toldOfGlaze_48 : decode cX10_toldOfGlaze 48 = .ok (.i2d, 1) := by decide +kernel
theorem dX10_toldOfGlaze_49 : decode cX10_toldOfGlaze 49 = .ok (.ddiv, 1) := by decide +kernel
theorem dX10_toldOfGlaze_50 : decode cX10_toldOfGlaze 50 = .ok (.goto 9, 3) := by decide +kernel
theorem dX10_toldOfGlaze_53 : decode cX10_toldOfGlaze 53 = .ok (.aload_n 0, 1) := by decide +kernel
theorem dX10_toldOfGlaze_54 : decode cX10_toldOfGlaze 54 = .ok (.iload_n 1, 1) := by decide +kernel
theorem dX10_toldOfGlaze_55 : decode cX10_toldOfGlaze 55 = .ok (.invokevirtual 147, 3) := by decide +kernel
theorem dX10_toldOfGlaze_58 : decode cX10_toldOfGlaze 58 = .ok (.i2d, 1) := by decide +kernel
theorem dX10_toldOfGlaze_59 : decode cX10_toldOfGlaze 59 = .ok (.dreturn, 1) := by decide +kernel
theorem dX10_ofGlaze_0 : decode cX10_ofGlaze 0 = .ok (.aload_n 0, 1) := by decide +kernel
theorem dX10_ofGlaze_1 : decode cX10_ofGlaze 1 = .ok (.aload_n 0, 1) := by decide +kernel
theorem dX10_ofGlaze_2 : decode cX10_ofGlaze 2 = .ok (.iload_n 1, 1) := by decide +kernel
theorem dX10_ofGlaze_3 : decode cX10_ofGlaze 3 = .ok (.invokevirtual 141, 3) := by decide +kernel
theorem dX10_ofGlaze_6 : decode cX10_ofGlaze 6 = .ok (.iconst 1, 1) := by decide +kernel
theorem dX10_ofGlaze_7 : decode cX10_ofGlaze 7 = .ok (.invokevirtual 88, 3) := by decide +kernel
theorem dX10_ofGlaze_10 : decode cX10_ofGlaze 10 = .ok (.ifCond .ne 25, 3) := by decide +kernel
theorem dX10_ofGlaze_13 : decode cX10_ofGlaze 13 = .ok (.aload_n 0, 1) := by decide +kernel
theorem dX10_ofGlaze_14 : decode cX10_ofGlaze 14 = .ok (.iload_n 2, 1) := by decide +kernel
theorem dX10_ofGlaze_15 : decode cX10_ofGlaze 15 = .ok (.iconst 0, 1) := by decide +kernel
theorem dX10_ofGlaze_16 : decode cX10_ofGlaze 16 = .ok (.iconst 2, 1) := by decide +kernel
theorem dX10_ofGlaze_17 : decode cX10_ofGlaze 17 = .ok (.invokestatic 44, 3) := by decide +kernel
theorem dX10_ofGlaze_20 : decode cX10_ofGlaze 20 = .ok (.ifCond .ne 7, 3) := by decide +kernel
theorem dX10_ofGlaze_23 : decode cX10_ofGlaze 23 = .ok (.iconst 1, 1) := by decide +kernel
theorem dX10_ofGlaze_24 : decode cX10_ofGlaze 24 = .ok (.goto 4, 3) := by decide +kernel
theorem dX10_ofGlaze_27 : decode cX10_ofGlaze 27 = .ok (.iconst 0, 1) := by decide +kernel
theorem dX10_ofGlaze_28 : decode cX10_ofGlaze 28 = .ok (.iconst 2, 1) := by decide +kernel
theorem dX10_ofGlaze_29 : decode cX10_ofGlaze 29 = .ok (.invokevirtual 36, 3) := by decide +kernel
theorem dX10_ofGlaze_32 : decode cX10_ofGlaze 32 = .ok (.ifCond .eq 7, 3) := by decide +kernel
theorem dX10_ofGlaze_35 : decode cX10_ofGlaze 35 = .ok (.dconst 0, 1) := by decide +kernel
theorem dX10_ofGlaze_36 : decode cX10_ofGlaze 36 = .ok (.goto 9, 3) := by decide +kernel
theorem dX10_ofGlaze_39 : decode cX10_ofGlaze 39 = .ok (.aload_n 0, 1) := by decide +kernel
theorem dX10_ofGlaze_40 : decode cX10_ofGlaze 40 = .ok (.iload_n 1, 1) := by decide +kernel
theorem dX10_ofGlaze_41 : decode cX10_ofGlaze 41 = .ok (.iload_n 2, 1) := by decide +kernel
theorem dX10_ofGlaze_42 : decode cX10_ofGlaze 42 = .ok (.invokevirtual 275, 3) := by decide +kernel
theorem dX10_ofGlaze_45 : decode cX10_ofGlaze 45 = .ok (.dreturn, 1) := by decide +kernel
theorem dX10_kiln_0 : decode cX10_kiln 0 = .ok (.aload_n 0, 1) := by decide +kernel
theorem dX10_kiln_1 : decode cX10_kiln 1 = .ok (.iload_n 1, 1) := by decide +kernel
theorem dX10_kiln_2 : decode cX10_kiln 2 = .ok (.iconst 0, 1) := by decide +kernel
theorem dX10_kiln_3 : decode cX10_kiln 3 = .ok (.iconst 5, 1) := by decide +kernel
theorem dX10_kiln_4 : decode cX10_kiln 4 = .ok (.invokestatic 44, 3) := by decide +kernel
theorem dX10_kiln_7 : decode cX10_kiln 7 = .ok (.ifCond .ne 7, 3) := by decide +kernel
theorem dX10_kiln_10 : decode cX10_kiln 10 = .ok (.iconst 1, 1) := by decide +kernel
theorem dX10_kiln_11 : decode cX10_kiln 11 = .ok (.goto 4, 3) := by decide +kernel
theorem dX10_kiln_14 : decode cX10_kiln 14 = .ok (.iconst 0, 1) := by decide +kernel
theorem dX10_kiln_15 : decode cX10_kiln 15 = .ok (.iconst 1, 1) := by decide +kernel
theorem dX10_kiln_16 : decode cX10_kiln 16 = .ok (.invokevirtual 88, 3) := by decide +kernel
theorem dX10_kiln_19 : decode cX10_kiln 19 = .ok (.ifCond .eq 5, 3) := by decide +kernel
theorem dX10_kiln_22 : decode cX10_kiln 22 = .ok (.dconst 0, 1) := by decide +kernel
theorem dX10_kiln_23 : decode cX10_kiln 23 = .ok (.dreturn, 1) := by decide +kernel
theorem dX10_kiln_24 : decode cX10_kiln 24 = .ok (.iload_n 1, 1) := by decide +kernel
theorem dX10_kiln_25 : decode cX10_kiln 25 = .ok (.ifCond .ne 13, 3) := by decide +kernel
theorem dX10_kiln_28 : decode cX10_kiln 28 = .ok (.aload_n 0, 1) := by decide +kernel
theorem dX10_kiln_29 : decode cX10_kiln 29 = .ok (.getfield 28, 3) := by decide +kernel
theorem dX10_kiln_32 : decode cX10_kiln 32 = .ok (.getfield 52, 3) := by decide +kernel
theorem dX10_kiln_35 : decode cX10_kiln 35 = .ok (.goto 45, 3) := by decide +kernel
theorem dX10_kiln_38 : decode cX10_kiln 38 = .ok (.iload_n 1, 1) := by decide +kernel
theorem dX10_kiln_39 : decode cX10_kiln 39 = .ok (.iconst 1, 1) := by decide +kernel
theorem dX10_kiln_40 : decode cX10_kiln 40 = .ok (.if_icmp .ne 14, 3) := by decide +kernel
theorem dX10_kiln_43 : decode cX10_kiln 43 = .ok (.aload_n 0, 1) := by decide +kernel
theorem dX10_kiln_44 : decode cX10_kiln 44 = .ok (.getfield 28, 3) := by decide +kernel
theorem dX10_kiln_47 : decode cX10_kiln 47 = .ok (.getfield 252, 3) := by decide +kernel
theorem dX10_kiln_50 : decode cX10_kiln 50 = .ok (.f2d, 1) := by decide +kernel
theorem dX10_kiln_51 : decode cX10_kiln 51 = .ok (.goto 29, 3) := by decide +kernel
theorem dX10_kiln_54 : decode cX10_kiln 54 = .ok (.iload_n 1, 1) := by decide +kernel
theorem dX10_kiln_55 : decode cX10_kiln 55 = .ok (.iconst 2, 1) := by decide +kernel
theorem dX10_kiln_56 : decode cX10_kiln 56 = .ok (.if_icmp .ne 13, 3) := by decide +kernel
theorem dX10_kiln_59 : decode cX10_kiln 59 = .ok (.aload_n 0, 1) := by decide +kernel
theorem dX10_kiln_60 : decode cX10_kiln 60 = .ok (.getfield 28, 3) := by decide +kernel
theorem dX10_kiln_63 : decode cX10_kiln 63 = .ok (.invokevirtual 279, 3) := by decide +kernel
theorem dX10_kiln_66 : decode cX10_kiln 66 = .ok (.goto 14, 3) := by decide +kernel
theorem dX10_kiln_69 : decode cX10_kiln 69 = .ok (.aload_n 0, 1) := by decide +kernel
theorem dX10_kiln_70 : decode cX10_kiln 70 = .ok (.getfield 28, 3) := by decide +kernel
theorem dX10_kiln_73 : decode cX10_kiln 73 = .ok (.getfield 249, 3) := by decide +kernel
theorem dX10_kiln_76 : decode cX10_kiln 76 = .ok (.iload_n 1, 1) := by decide +kernel
theorem dX10_kiln_77 : decode cX10_kiln 77 = .ok (.iconst 3, 1) := by decide +kernel
theorem dX10_kiln_78 : decode cX10_kiln 78 = .ok (.isub, 1) := by decide +kernel
theorem dX10_kiln_79 : decode cX10_kiln 79 = .ok (.daload, 1) := by decide +kernel
theorem dX10_kiln_80 : decode cX10_kiln 80 = .ok (.dreturn, 1) := by decide +kernel
theorem dX10_toldOfShelf_0 : decode cX10_toldOfShelf 0 = .ok (.iconst 4, 1) := by decide +kernel
theorem dX10_toldOfShelf_1 : decode cX10_toldOfShelf 1 = .ok (.newarray .int, 2) := by decide +kernel
theorem dX10_toldOfShelf_3 : decode cX10_toldOfShelf 3 = .ok (.dup, 1) := by decide +kernel
theorem dX10_toldOfShelf_4 : decode cX10_toldOfShelf 4 = .ok (.iconst 0, 1) := by decide +kernel
theorem dX10_toldOfShelf_5 : decode cX10_toldOfShelf 5 = .ok (.aload_n 0, 1) := by decide +kernel
theorem dX10_toldOfShelf_6 : decode cX10_toldOfShelf 6 = .ok (.getfield 28, 3) := by decide +kernel
theorem dX10_toldOfShelf_9 : decode cX10_toldOfShelf 9 = .ok (.iload_n 1, 1) := by decide +kernel
theorem dX10_toldOfShelf_10 : decode cX10_toldOfShelf 10 = .ok (.invokevirtual 242, 3) := by decide +kernel
theorem dX10_toldOfShelf_13 : decode cX10_toldOfShelf 13 = .ok (.iastore, 1) := by decide +kernel
theorem dX10_toldOfShelf_14 : decode cX10_toldOfShelf 14 = .ok (.dup, 1) := by decide +kernel
theorem dX10_toldOfShelf_15 : decode cX10_toldOfShelf 15 = .ok (.iconst 1, 1) := by decide +kernel
theorem dX10_toldOfShelf_16 : decode cX10_toldOfShelf 16 = .ok (.aload_n 0, 1) := by decide +kernel
theorem dX10_toldOfShelf_17 : decode cX10_toldOfShelf 17 = .ok (.iload_n 1, 1) := by decide +kernel
theorem dX10_toldOfShelf_18 : decode cX10_toldOfShelf 18 = .ok (.invokevirtual 179, 3) := by decide +kernel
theorem dX10_toldOfShelf_21 : decode cX10_toldOfShelf 21 = .ok (.iastore, 1) := by decide +kernel
theorem dX10_toldOfShelf_22 : decode cX10_toldOfShelf 22 = .ok (.dup, 1) := by decide +kernel
theorem dX10_toldOfShelf_23 : decode cX10_toldOfShelf 23 = .ok (.iconst 2, 1) := by decide +kernel
theorem dX10_toldOfShelf_24 : decode cX10_toldOfShelf 24 = .ok (.aload_n 0, 1) := by decide +kernel
theorem dX10_toldOfShelf_25 : decode cX10_toldOfShelf 25 = .ok (.iload_n 1, 1) := by decide +kernel
theorem dX10_toldOfShelf_26 : decode cX10_toldOfShelf 26 = .ok (.invokevirtual 201, 3) := by decide +kernel
theorem dX10_toldOfShelf_29 : decode cX10_toldOfShelf 29 = .ok (.iastore, 1) := by decide +kernel
theorem dX10_toldOfShelf_30 : decode cX10_toldOfShelf 30 = .ok (.dup, 1) := by decide +kernel
theorem dX10_toldOfShelf_31 : decode cX10_toldOfShelf 31 = .ok (.iconst 3, 1) := by decide +kernel
theorem dX10_toldOfShelf_32 : decode cX10_toldOfShelf 32 = .ok (.aload_n 0, 1) := by decide +kernel
theorem dX10_toldOfShelf_33 : decode cX10_toldOfShelf 33 = .ok (.iload_n 1, 1) := by decide +kernel
theorem dX10_toldOfShelf_34 : decode cX10_toldOfShelf 34 = .ok (.invokevirtual 283, 3) := by decide +kernel
theorem dX10_toldOfShelf_37 : decode cX10_toldOfShelf 37 = .ok (.iastore, 1) := by decide +kernel
theorem dX10_toldOfShelf_38 : decode cX10_toldOfShelf 38 = .ok (.astore_n 3, 1) := by decide +kernel
theorem dX10_toldOfShelf_39 : decode cX10_toldOfShelf 39 = .ok (.aload_n 3, 1) := by decide +kernel
theorem dX10_toldOfShelf_40 : decode cX10_toldOfShelf 40 = .ok (.iload_n 2, 1) := by decide +kernel
theorem dX10_toldOfShelf_41 : decode cX10_toldOfShelf 41 = .ok (.iaload, 1) := by decide +kernel
theorem dX10_toldOfShelf_42 : decode cX10_toldOfShelf 42 = .ok (.ireturn, 1) := by decide +kernel
theorem dX10_ofShelf_0 : decode cX10_ofShelf 0 = .ok (.aload_n 0, 1) := by decide +kernel
theorem dX10_ofShelf_1 : decode cX10_ofShelf 1 = .ok (.iload_n 1, 1) := by decide +kernel
theorem dX10_ofShelf_2 : decode cX10_ofShelf 2 = .ok (.invokestatic 167, 3) := by decide +kernel
theorem dX10_ofShelf_5 : decode cX10_ofShelf 5 = .ok (.iconst 1, 1) := by decide +kernel
theorem dX10_ofShelf_6 : decode cX10_ofShelf 6 = .ok (.invokevirtual 88, 3) := by decide +kernel
theorem dX10_ofShelf_9 : decode cX10_ofShelf 9 = .ok (.ifCond .ne 25, 3) := by decide +kernel
theorem dX10_ofShelf_12 : decode cX10_ofShelf 12 = .ok (.aload_n 0, 1) := by decide +kernel
theorem dX10_ofShelf_13 : decode cX10_ofShelf 13 = .ok (.iload_n 2, 1) := by decide +kernel
theorem dX10_ofShelf_14 : decode cX10_ofShelf 14 = .ok (.iconst 0, 1) := by decide +kernel
theorem dX10_ofShelf_15 : decode cX10_ofShelf 15 = .ok (.iconst 3, 1) := by decide +kernel
theorem dX10_ofShelf_16 : decode cX10_ofShelf 16 = .ok (.invokestatic 44, 3) := by decide +kernel
theorem dX10_ofShelf_19 : decode cX10_ofShelf 19 = .ok (.ifCond .ne 7, 3) := by decide +kernel
theorem dX10_ofShelf_22 : decode cX10_ofShelf 22 = .ok (.iconst 1, 1) := by decide +kernel
theorem dX10_ofShelf_23 : decode cX10_ofShelf 23 = .ok (.goto 4, 3) := by decide +kernel
theorem dX10_ofShelf_26 : decode cX10_ofShelf 26 = .ok (.iconst 0, 1) := by decide +kernel
theorem dX10_ofShelf_27 : decode cX10_ofShelf 27 = .ok (.iconst 2, 1) := by decide +kernel
theorem dX10_ofShelf_28 : decode cX10_ofShelf 28 = .ok (.invokevirtual 36, 3) := by decide +kernel
theorem dX10_ofShelf_31 : decode cX10_ofShelf 31 = .ok (.ifCond .eq 7, 3) := by decide +kernel
theorem dX10_ofShelf_34 : decode cX10_ofShelf 34 = .ok (.iconst 0, 1) := by decide +kernel
theorem dX10_ofShelf_35 : decode cX10_ofShelf 35 = .ok (.goto 9, 3) := by decide +kernel
theorem dX10_ofShelf_38 : decode cX10_ofShelf 38 = .ok (.aload_n 0, 1) := by decide +kernel
theorem dX10_ofShelf_39 : decode cX10_ofShelf 39 = .ok (.iload_n 1, 1) := by decide +kernel
theorem dX10_ofShelf_40 : decode cX10_ofShelf 40 = .ok (.iload_n 2, 1) := by decide +kernel
theorem dX10_ofShelf_41 : decode cX10_ofShelf 41 = .ok (.invokevirtual 286, 3) := by decide +kernel
theorem dX10_ofShelf_44 : decode cX10_ofShelf 44 = .ok (.ireturn, 1) := by decide +kernel
theorem dX10_count_0 : decode cX10_count 0 = .ok (.iconst 0, 1) := by decide +kernel
theorem dX10_count_1 : decode cX10_count 1 = .ok (.istore_n 2, 1) := by decide +kernel
theorem dX10_count_2 : decode cX10_count 2 = .ok (.aload_n 0, 1) := by decide +kernel
theorem dX10_count_3 : decode cX10_count 3 = .ok (.getfield 22, 3) := by decide +kernel
theorem dX10_count_6 : decode cX10_count 6 = .ok (.invokevirtual 110, 3) := by decide +kernel
theorem dX10_count_9 : decode cX10_count 9 = .ok (.astore_n 3, 1) := by decide +kernel
theorem dX10_count_10 : decode cX10_count 10 = .ok (.aload_n 3, 1) := by decide +kernel
theorem dX10_count_11 : decode cX10_count 11 = .ok (.invokeinterface 114 1, 5) := by decide +kernel
theorem dX10_count_16 : decode cX10_count 16 = .ok (.ifCond .eq 26, 3) := by decide +kernel
theorem dX10_count_19 : decode cX10_count 19 = .ok (.aload_n 3, 1) := by decide +kernel
theorem dX10_count_20 : decode cX10_count 20 = .ok (.invokeinterface 120 1, 5) := by decide +kernel
theorem dX10_count_25 : decode cX10_count 25 = .ok (.checkcast 62, 3) := by decide +kernel
theorem dX10_count_28 : decode cX10_count 28 = .ok (.astore 4, 2) := by decide +kernel
theorem dX10_count_30 : decode cX10_count 30 = .ok (.iload_n 2, 1) := by decide +kernel
theorem dX10_count_31 : decode cX10_count 31 = .ok (.iconst 1, 1) := by decide +kernel
theorem dX10_count_32 : decode cX10_count 32 = .ok (.aload 4, 2) := by decide +kernel
theorem dX10_count_34 : decode cX10_count 34 = .ok (.iconst 4, 1) := by decide +kernel
theorem dX10_count_35 : decode cX10_count 35 = .ok (.iaload, 1) := by decide +kernel
theorem dX10_count_36 : decode cX10_count 36 = .ok (.isub, 1) := by decide +kernel
theorem dX10_count_37 : decode cX10_count 37 = .ok (.iadd, 1) := by decide +kernel
theorem dX10_count_38 : decode cX10_count 38 = .ok (.istore_n 2, 1) := by decide +kernel
theorem dX10_count_39 : decode cX10_count 39 = .ok (.goto (-29), 3) := by decide +kernel
theorem dX10_count_42 : decode cX10_count 42 = .ok (.bipush 16, 2) := by decide +kernel
theorem dX10_count_44 : decode cX10_count 44 = .ok (.newarray .int, 2) := by decide +kernel
theorem dX10_count_46 : decode cX10_count 46 = .ok (.dup, 1) := by decide +kernel
theorem dX10_count_47 : decode cX10_count 47 = .ok (.iconst 0, 1) := by decide +kernel
theorem dX10_count_48 : decode cX10_count 48 = .ok (.aload_n 0, 1) := by decide +kernel
theorem dX10_count_49 : decode cX10_count 49 = .ok (.getfield 131, 3) := by decide +kernel
theorem dX10_count_52 : decode cX10_count 52 = .ok (.iastore, 1) := by decide +kernel
theorem dX10_count_53 : decode cX10_count 53 = .ok (.dup, 1) := by decide +kernel
theorem dX10_count_54 : decode cX10_count 54 = .ok (.iconst 1, 1) := by decide +kernel
theorem dX10_count_55 : decode cX10_count 55 = .ok (.aload_n 0, 1) := by decide +kernel
theorem dX10_count_56 : decode cX10_count 56 = .ok (.getfield 28, 3) := by decide +kernel
theorem dX10_count_59 : decode cX10_count 59 = .ok (.getfield 289, 3) := by decide +kernel
theorem dX10_count_62 : decode cX10_count 62 = .ok (.iastore, 1) := by decide +kernel
theorem dX10_count_63 : decode cX10_count 63 = .ok (.dup, 1) := by decide +kernel
theorem dX10_count_64 : decode cX10_count 64 = .ok (.iconst 2, 1) := by decide +kernel
theorem dX10_count_65 : decode cX10_count 65 = .ok (.aload_n 0, 1) := by decide +kernel
theorem dX10_count_66 : decode cX10_count 66 = .ok (.getfield 28, 3) := by decide +kernel
theorem dX10_count_69 : decode cX10_count 69 = .ok (.getfield 48, 3) := by decide +kernel
theorem dX10_count_72 : decode cX10_count 72 = .ok (.invokestatic 127, 3) := by decide +kernel
theorem dX10_count_75 : decode cX10_count 75 = .ok (.iastore, 1) := by decide +kernel
theorem dX10_count_76 : decode cX10_count 76 = .ok (.dup, 1) := by decide +kernel
theorem dX10_count_77 : decode cX10_count 77 = .ok (.iconst 3, 1) := by decide +kernel
theorem dX10_count_78 : decode cX10_count 78 = .ok (.aload_n 0, 1) := by decide +kernel
theorem dX10_count_79 : decode cX10_count 79 = .ok (.getfield 28, 3) := by decide +kernel
theorem dX10_count_82 : decode cX10_count 82 = .ok (.getfield 48, 3) := by decide +kernel
theorem dX10_count_85 : decode cX10_count 85 = .ok (.ifCond .eq 13, 3) := by decide +kernel
theorem dX10_count_88 : decode cX10_count 88 = .ok (.aload_n 0, 1) := by decide +kernel
theorem dX10_count_89 : decode cX10_count 89 = .ok (.getfield 28, 3) := by decide +kernel
theorem dX10_count_92 : decode cX10_count 92 = .ok (.getfield 195, 3) := by decide +kernel
theorem dX10_count_95 : decode cX10_count 95 = .ok (.goto 4, 3) := by decide +kernel
theorem dX10_count_98 : decode cX10_count 98 = .ok (.iconst (-1), 1) := by decide +kernel
theorem dX10_count_99 : decode cX10_count 99 = .ok (.iastore, 1) := by decide +kernel
theorem dX10_count_100 : decode cX10_count 100 = .ok (.dup, 1) := by decide +kernel
theorem dX10_count_101 : decode cX10_count 101 = .ok (.iconst 4, 1) := by decide +kernel
theorem dX10_count_102 : decode cX10_count 102 = .ok (.aload_n 0, 1) := by decide +kernel
theorem dX10_count_103 : decode cX10_count 103 = .ok (.getfield 28, 3) := by decide +kernel
theorem dX10_count_106 : decode cX10_count 106 = .ok (.getfield 48, 3) := by decide +kernel
theorem dX10_count_109 : decode cX10_count 109 = .ok (.ifCond .eq 13, 3) := by decide +kernel
theorem dX10_count_112 : decode cX10_count 112 = .ok (.aload_n 0, 1) := by decide +kernel
theorem dX10_count_113 : decode cX10_count 113 = .ok (.getfield 28, 3) := by decide +kernel
theorem dX10_count_116 : decode cX10_count 116 = .ok (.getfield 198, 3) := by decide +kernel
theorem dX10_count_119 : decode cX10_count 119 = .ok (.goto 4, 3) := by decide +kernel
theorem dX10_count_122 : decode cX10_count 122 = .ok (.iconst 0, 1) := by decide +kernel
theorem dX10_count_123 : decode cX10_count 123 = .ok (.iastore, 1) := by decide +kernel
theorem dX10_count_124 : decode cX10_count 124 = .ok (.dup, 1) := by decide +kernel
theorem dX10_count_125 : decode cX10_count 125 = .ok (.iconst 5, 1) := by decide +kernel
theorem dX10_count_126 : decode cX10_count 126 = .ok (.aload_n 0, 1) := by decide +kernel
theorem dX10_count_127 : decode cX10_count 127 = .ok (.getfield 28, 3) := by decide +kernel
theorem dX10_count_130 : decode cX10_count 130 = .ok (.getfield 186, 3) := by decide +kernel
theorem dX10_count_133 : decode cX10_count 133 = .ok (.invokevirtual 40, 3) := by decide +kernel
theorem dX10_count_136 : decode cX10_count 136 = .ok (.iastore, 1) := by decide +kernel
theorem dX10_count_137 : decode cX10_count 137 = .ok (.dup, 1) := by decide +kernel
theorem dX10_count_138 : decode cX10_count 138 = .ok (.bipush 6, 2) := by decide +kernel
theorem dX10_count_140 : decode cX10_count 140 = .ok (.aload_n 0, 1) := by decide +kernel
theorem dX10_count_141 : decode cX10_count 141 = .ok (.getfield 19, 3) := by decide +kernel
theorem dX10_count_144 : decode cX10_count 144 = .ok (.invokevirtual 40, 3) := by decide +kernel
theorem dX10_count_147 : decode cX10_count 147 = .ok (.iastore, 1) := by decide +kernel
theorem dX10_count_148 : decode cX10_count 148 = .ok (.dup, 1) := by decide +kernel
theorem dX10_count_149 : decode cX10_count 149 = .ok (.bipush 7, 2) := by decide +kernel
theorem dX10_count_151 : decode cX10_count 151 = .ok (.aload_n 0, 1) := by decide +kernel
theorem dX10_count_152 : decode cX10_count 152 = .ok (.iconst 4, 1) := by decide +kernel
theorem dX10_count_153 : decode cX10_count 153 = .ok (.invokevirtual 137, 3) := by decide +kernel
theorem dX10_count_156 : decode cX10_count 156 = .ok (.iastore, 1) := by decide +kernel
theorem dX10_count_157 : decode cX10_count 157 = .ok (.dup, 1) := by decide +kernel
theorem dX10_count_158 : decode cX10_count 158 = .ok (.bipush 8, 2) := by decide +kernel
theorem dX10_count_160 : decode cX10_count 160 = .ok (.aload_n 0, 1) := by decide +kernel
theorem dX10_count_161 : decode cX10_count 161 = .ok (.iconst 5, 1) := by decide +kernel
theorem dX10_count_162 : decode cX10_count 162 = .ok (.invokevirtual 137, 3) := by decide +kernel
theorem dX10_count_165 : decode cX10_count 165 = .ok (.iastore, 1) := by decide +kernel
theorem dX10_count_166 : decode cX10_count 166 = .ok (.dup, 1) := by decide +kernel
theorem dX10_count_167 : decode cX10_count 167 = .ok (.bipush 9, 2) := by decide +kernel
theorem dX10_count_169 : decode cX10_count 169 = .ok (.aload_n 0, 1) := by decide +kernel
theorem dX10_count_170 : decode cX10_count 170 = .ok (.bipush 6, 2) := by decide +kernel
theorem dX10_count_172 : decode cX10_count 172 = .ok (.invokevirtual 137, 3) := by decide +kernel
theorem dX10_count_175 : decode cX10_count 175 = .ok (.iastore, 1) := by decide +kernel
theorem dX10_count_176 : decode cX10_count 176 = .ok (.dup, 1) := by decide +kernel
theorem dX10_count_177 : decode cX10_count 177 = .ok (.bipush 10, 2) := by decide +kernel
theorem dX10_count_179 : decode cX10_count 179 = .ok (.aload_n 0, 1) := by decide +kernel
theorem dX10_count_180 : decode cX10_count 180 = .ok (.getfield 28, 3) := by decide +kernel
theorem dX10_count_183 : decode cX10_count 183 = .ok (.getfield 292, 3) := by decide +kernel
theorem dX10_count_186 : decode cX10_count 186 = .ok (.iastore, 1) := by decide +kernel
theorem dX10_count_187 : decode cX10_count 187 = .ok (.dup, 1) := by decide +kernel
theorem dX10_count_188 : decode cX10_count 188 = .ok (.bipush 11, 2) := by decide +kernel
theorem dX10_count_190 : decode cX10_count 190 = .ok (.aload_n 0, 1) := by decide +kernel
theorem dX10_count_191 : decode cX10_count 191 = .ok (.getfield 28, 3) := by decide +kernel
theorem dX10_count_194 : decode cX10_count 194 = .ok (.getfield 295, 3) := by decide +kernel
theorem dX10_count_197 : decode cX10_count 197 = .ok (.iastore, 1) := by decide +kernel
theorem dX10_count_198 : decode cX10_count 198 = .ok (.dup, 1) := by decide +kernel
theorem dX10_count_199 : decode cX10_count 199 = .ok (.bipush 12, 2) := by decide +kernel
theorem dX10_count_201 : decode cX10_count 201 = .ok (.aload_n 0, 1) := by decide +kernel
theorem dX10_count_202 : decode cX10_count 202 = .ok (.getfield 264, 3) := by decide +kernel
theorem dX10_count_205 : decode cX10_count 205 = .ok (.iastore, 1) := by decide +kernel
theorem dX10_count_206 : decode cX10_count 206 = .ok (.dup, 1) := by decide +kernel
theorem dX10_count_207 : decode cX10_count 207 = .ok (.bipush 13, 2) := by decide +kernel
theorem dX10_count_209 : decode cX10_count 209 = .ok (.iload_n 2, 1) := by decide +kernel
theorem dX10_count_210 : decode cX10_count 210 = .ok (.iastore, 1) := by decide +kernel
theorem dX10_count_211 : decode cX10_count 211 = .ok (.dup, 1) := by decide +kernel
theorem dX10_count_212 : decode cX10_count 212 = .ok (.bipush 14, 2) := by decide +kernel
theorem dX10_count_214 : decode cX10_count 214 = .ok (.aload_n 0, 1) := by decide +kernel
theorem dX10_count_215 : decode cX10_count 215 = .ok (.getfield 221, 3) := by decide +kernel
theorem dX10_count_218 : decode cX10_count 218 = .ok (.iastore, 1) := by decide +kernel
theorem dX10_count_219 : decode cX10_count 219 = .ok (.dup, 1) := by decide +kernel
theorem dX10_count_220 : decode cX10_count 220 = .ok (.bipush 15, 2) := by decide +kernel
theorem dX10_count_222 : decode cX10_count 222 = .ok (.aload_n 0, 1) := by decide +kernel
theorem dX10_count_223 : decode cX10_count 223 = .ok (.getfield 28, 3) := by decide +kernel
theorem dX10_count_226 : decode cX10_count 226 = .ok (.getfield 218, 3) := by decide +kernel
theorem dX10_count_229 : decode cX10_count 229 = .ok (.invokestatic 127, 3) := by decide +kernel
theorem dX10_count_232 : decode cX10_count 232 = .ok (.iastore, 1) := by decide +kernel
theorem dX10_count_233 : decode cX10_count 233 = .ok (.astore_n 3, 1) := by decide +kernel
theorem dX10_count_234 : decode cX10_count 234 = .ok (.aload_n 3, 1) := by decide +kernel
theorem dX10_count_235 : decode cX10_count 235 = .ok (.iload_n 1, 1) := by decide +kernel
theorem dX10_count_236 : decode cX10_count 236 = .ok (.iaload, 1) := by decide +kernel
theorem dX10_count_237 : decode cX10_count 237 = .ok (.ireturn, 1) := by decide +kernel
theorem dX10_many_0 : decode cX10_many 0 = .ok (.aload_n 0, 1) := by decide +kernel
theorem dX10_many_1 : decode cX10_many 1 = .ok (.iload_n 1, 1) := by decide +kernel
theorem dX10_many_2 : decode cX10_many 2 = .ok (.iconst 0, 1) := by decide +kernel
theorem dX10_many_3 : decode cX10_many 3 = .ok (.bipush 15, 2) := by decide +kernel
theorem dX10_many_5 : decode cX10_many 5 = .ok (.invokestatic 44, 3) := by decide +kernel
theorem dX10_many_8 : decode cX10_many 8 = .ok (.ifCond .ne 7, 3) := by decide +kernel
theorem dX10_many_11 : decode cX10_many 11 = .ok (.iconst 1, 1) := by decide +kernel
theorem dX10_many_12 : decode cX10_many 12 = .ok (.goto 4, 3) := by decide +kernel
theorem dX10_many_15 : decode cX10_many 15 = .ok (.iconst 0, 1) := by decide +kernel
theorem dX10_many_16 : decode cX10_many 16 = .ok (.iconst 1, 1) := by decide +kernel
theorem dX10_many_17 : decode cX10_many 17 = .ok (.invokevirtual 88, 3) := by decide +kernel
theorem dX10_many_20 : decode cX10_many 20 = .ok (.ifCond .eq 7, 3) := by decide +kernel
theorem dX10_many_23 : decode cX10_many 23 = .ok (.iconst 0, 1) := by decide +kernel
theorem dX10_many_24 : decode cX10_many 24 = .ok (.goto 8, 3) := by decide +kernel
theorem dX10_many_27 : decode cX10_many 27 = .ok (.aload_n 0, 1) := by decide +kernel
theorem dX10_many_28 : decode cX10_many 28 = .ok (.iload_n 1, 1) := by decide +kernel
theorem dX10_many_29 : decode cX10_many 29 = .ok (.invokevirtual 298, 3) := by decide +kernel
theorem dX10_many_32 : decode cX10_many 32 = .ok (.ireturn, 1) := by decide +kernel
theorem dX10_coneBy_0 : decode cX10_coneBy 0 = .ok (.aload_n 0, 1) := by decide +kernel
theorem dX10_coneBy_1 : decode cX10_coneBy 1 = .ok (.getfield 28, 3) := by decide +kernel
theorem dX10_coneBy_4 : decode cX10_coneBy 4 = .ok (.invokevirtual 301, 3) := by decide +kernel
theorem dX10_coneBy_7 : decode cX10_coneBy 7 = .ok (.astore_n 3, 1) := by decide +kernel
theorem dX10_coneBy_8 : decode cX10_coneBy 8 = .ok (.iconst 0, 1) := by decide +kernel
theorem dX10_coneBy_9 : decode cX10_coneBy 9 = .ok (.istore 4, 2) := by decide +kernel
theorem dX10_coneBy_11 : decode cX10_coneBy 11 = .ok (.iload 4, 2) := by decide +kernel
theorem dX10_coneBy_13 : decode cX10_coneBy 13 = .ok (.iload_n 2, 1) := by decide +kernel
theorem dX10_coneBy_14 : decode cX10_coneBy 14 = .ok (.if_icmp .ge 13, 3) := by decide +kernel
theorem dX10_coneBy_17 : decode cX10_coneBy 17 = .ok (.aload_n 3, 1) := by decide +kernel
theorem dX10_coneBy_18 : decode cX10_coneBy 18 = .ok (.invokevirtual 204, 3) := by decide +kernel
theorem dX10_coneBy_21 : decode cX10_coneBy 21 = .ok (.iinc 4 1, 3) := by decide +kernel
theorem dX10_coneBy_24 : decode cX10_coneBy 24 = .ok (.goto (-13), 3) := by decide +kernel
theorem dX10_coneBy_27 : decode cX10_coneBy 27 = .ok (.aload_n 3, 1) := by decide +kernel
theorem dX10_coneBy_28 : decode cX10_coneBy 28 = .ok (.iload_n 1, 1) := by decide +kernel
theorem dX10_coneBy_29 : decode cX10_coneBy 29 = .ok (.invokevirtual 242, 3) := by decide +kernel
theorem dX10_coneBy_32 : decode cX10_coneBy 32 = .ok (.ireturn, 1) := by decide +kernel
theorem dX10_wouldCone_0 : decode cX10_wouldCone 0 = .ok (.aload_n 0, 1) := by decide +kernel
theorem dX10_wouldCone_1 : decode cX10_wouldCone 1 = .ok (.iload_n 1, 1) := by decide +kernel
theorem dX10_wouldCone_2 : decode cX10_wouldCone 2 = .ok (.invokestatic 167, 3) := by decide +kernel
theorem dX10_wouldCone_5 : decode cX10_wouldCone 5 = .ok (.iconst 1, 1) := by decide +kernel
theorem dX10_wouldCone_6 : decode cX10_wouldCone 6 = .ok (.invokevirtual 88, 3) := by decide +kernel
theorem dX10_wouldCone_9 : decode cX10_wouldCone 9 = .ok (.ifCond .ne 26, 3) := by decide +kernel
theorem dX10_wouldCone_12 : decode cX10_wouldCone 12 = .ok (.aload_n 0, 1) := by decide +kernel
theorem dX10_wouldCone_13 : decode cX10_wouldCone 13 = .ok (.iload_n 2, 1) := by decide +kernel
theorem dX10_wouldCone_14 : decode cX10_wouldCone 14 = .ok (.iconst 1, 1) := by decide +kernel
theorem dX10_wouldCone_15 : decode cX10_wouldCone 15 = .ok (.bipush 60, 2) := by decide +kernel
theorem dX10_wouldCone_17 : decode cX10_wouldCone 17 = .ok (.invokestatic 44, 3) := by decide +kernel
theorem dX10_wouldCone_20 : decode cX10_wouldCone 20 = .ok (.ifCond .ne 7, 3) := by decide +kernel
theorem dX10_wouldCone_23 : decode cX10_wouldCone 23 = .ok (.iconst 1, 1) := by decide +kernel
theorem dX10_wouldCone_24 : decode cX10_wouldCone 24 = .ok (.goto 4, 3) := by decide +kernel
theorem dX10_wouldCone_27 : decode cX10_wouldCone 27 = .ok (.iconst 0, 1) := by decide +kernel
theorem dX10_wouldCone_28 : decode cX10_wouldCone 28 = .ok (.iconst 2, 1) := by decide +kernel
theorem dX10_wouldCone_29 : decode cX10_wouldCone 29 = .ok (.invokevirtual 36, 3) := by decide +kernel
theorem dX10_wouldCone_32 : decode cX10_wouldCone 32 = .ok (.ifCond .eq 7, 3) := by decide +kernel
theorem dX10_wouldCone_35 : decode cX10_wouldCone 35 = .ok (.iconst 0, 1) := by decide +kernel
theorem dX10_wouldCone_36 : decode cX10_wouldCone 36 = .ok (.goto 9, 3) := by decide +kernel
theorem dX10_wouldCone_39 : decode cX10_wouldCone 39 = .ok (.aload_n 0, 1) := by decide +kernel
theorem dX10_wouldCone_40 : decode cX10_wouldCone 40 = .ok (.iload_n 1, 1) := by decide +kernel
theorem dX10_wouldCone_41 : decode cX10_wouldCone 41 = .ok (.iload_n 2, 1) := by decide +kernel
theorem dX10_wouldCone_42 : decode cX10_wouldCone 42 = .ok (.invokevirtual 305, 3) := by decide +kernel
theorem dX10_wouldCone_45 : decode cX10_wouldCone 45 = .ok (.ireturn, 1) := by decide +kernel
theorem dX10_ending_0 : decode cX10_ending 0 = .ok (.aload_n 0, 1) := by decide +kernel
theorem dX10_ending_1 : decode cX10_ending 1 = .ok (.getfield 28, 3) := by decide +kernel
theorem dX10_ending_4 : decode cX10_ending 4 = .ok (.invokevirtual 301, 3) := by decide +kernel
theorem dX10_ending_7 : decode cX10_ending 7 = .ok (.astore_n 1, 1) := by decide +kernel
theorem dX10_ending_8 : decode cX10_ending 8 = .ok (.iconst 0, 1) := by decide +kernel
theorem dX10_ending_9 : decode cX10_ending 9 = .ok (.istore_n 2, 1) := by decide +kernel
theorem dX10_ending_10 : decode cX10_ending 10 = .ok (.iload_n 2, 1) := by decide +kernel
theorem dX10_ending_11 : decode cX10_ending 11 = .ok (.sipush 300, 3) := by decide +kernel
theorem dX10_ending_14 : decode cX10_ending 14 = .ok (.if_icmp .gt 22, 3) := by decide +kernel
theorem dX10_ending_17 : decode cX10_ending 17 = .ok (.aload_n 1, 1) := by decide +kernel
theorem dX10_ending_18 : decode cX10_ending 18 = .ok (.getfield 48, 3) := by decide +kernel
theorem dX10_ending_21 : decode cX10_ending 21 = .ok (.ifCond .ne 5, 3) := by decide +kernel
theorem dX10_ending_24 : decode cX10_ending 24 = .ok (.iload_n 2, 1) := by decide +kernel
theorem dX10_ending_25 : decode cX10_ending 25 = .ok (.ireturn, 1) := by decide +kernel
theorem dX10_ending_26 : decode cX10_ending 26 = .ok (.aload_n 1, 1) := by decide +kernel
theorem dX10_ending_27 : decode cX10_ending 27 = .ok (.invokevirtual 204, 3) := by decide +kernel
theorem dX10_ending_30 : decode cX10_ending 30 = .ok (.iinc 2 1, 3) := by decide +kernel
theorem dX10_ending_33 : decode cX10_ending 33 = .ok (.goto (-23), 3) := by decide +kernel
theorem dX10_ending_36 : decode cX10_ending 36 = .ok (.iconst (-1), 1) := by decide +kernel
theorem dX10_ending_37 : decode cX10_ending 37 = .ok (.ireturn, 1) := by decide +kernel
theorem dX10_wouldEnd_0 : decode cX10_wouldEnd 0 = .ok (.aload_n 0, 1) := by decide +kernel
theorem dX10_wouldEnd_1 : decode cX10_wouldEnd 1 = .ok (.iconst 0, 1) := by decide +kernel
theorem dX10_wouldEnd_2 : decode cX10_wouldEnd 2 = .ok (.putfield 32, 3) := by decide +kernel
theorem dX10_wouldEnd_5 : decode cX10_wouldEnd 5 = .ok (.aload_n 0, 1) := by decide +kernel
theorem dX10_wouldEnd_6 : decode cX10_wouldEnd 6 = .ok (.invokevirtual 308, 3) := by decide +kernel
theorem dX10_wouldEnd_9 : decode cX10_wouldEnd 9 = .ok (.ireturn, 1) := by decide +kernel
theorem dX10_best_0 : decode cX10_best 0 = .ok (.aload_n 0, 1) := by decide +kernel
theorem dX10_best_1 : decode cX10_best 1 = .ok (.aload_n 0, 1) := by decide +kernel
theorem dX10_best_2 : decode cX10_best 2 = .ok (.iload_n 1, 1) := by decide +kernel
theorem dX10_best_3 : decode cX10_best 3 = .ok (.invokevirtual 95, 3) := by decide +kernel
theorem dX10_best_6 : decode cX10_best 6 = .ok (.iconst 1, 1) := by decide +kernel
theorem dX10_best_7 : decode cX10_best 7 = .ok (.invokevirtual 88, 3) := by decide +kernel
theorem dX10_best_10 : decode cX10_best 10 = .ok (.ifCond .ne 26, 3) := by decide +kernel
theorem dX10_best_13 : decode cX10_best 13 = .ok (.aload_n 0, 1) := by decide +kernel
theorem dX10_best_14 : decode cX10_best 14 = .ok (.iload_n 2, 1) := by decide +kernel
theorem dX10_best_15 : decode cX10_best 15 = .ok (.iconst 1, 1) := by decide +kernel
theorem dX10_best_16 : decode cX10_best 16 = .ok (.bipush 12, 2) := by decide +kernel
theorem dX10_best_18 : decode cX10_best 18 = .ok (.invokestatic 44, 3) := by decide +kernel
theorem dX10_best_21 : decode cX10_best 21 = .ok (.ifCond .ne 7, 3) := by decide +kernel
theorem dX10_best_24 : decode cX10_best 24 = .ok (.iconst 1, 1) := by decide +kernel
theorem dX10_best_25 : decode cX10_best 25 = .ok (.goto 4, 3) := by decide +kernel
theorem dX10_best_28 : decode cX10_best 28 = .ok (.iconst 0, 1) := by decide +kernel
theorem dX10_best_29 : decode cX10_best 29 = .ok (.iconst 2, 1) := by decide +kernel
theorem dX10_best_30 : decode cX10_best 30 = .ok (.invokevirtual 36, 3) := by decide +kernel
theorem dX10_best_33 : decode cX10_best 33 = .ok (.ifCond .eq 5, 3) := by decide +kernel
theorem dX10_best_36 : decode cX10_best 36 = .ok (.iconst 0, 1) := by decide +kernel
theorem dX10_best_37 : decode cX10_best 37 = .ok (.ireturn, 1) := by decide +kernel
theorem dX10_best_38 : decode cX10_best 38 = .ok (.iconst (-1), 1) := by decide +kernel
theorem dX10_best_39 : decode cX10_best 39 = .ok (.istore_n 3, 1) := by decide +kernel
theorem dX10_best_40 : decode cX10_best 40 = .ok (.iconst 0, 1) := by decide +kernel
theorem dX10_best_41 : decode cX10_best 41 = .ok (.istore 4, 2) := by decide +kernel
theorem dX10_best_43 : decode cX10_best 43 = .ok (.iload 4, 2) := by decide +kernel
theorem dX10_best_45 : decode cX10_best 45 = .ok (.aload_n 0, 1) := by decide +kernel
theorem dX10_best_46 : decode cX10_best 46 = .ok (.getfield 16, 3) := by decide +kernel
theorem dX10_best_49 : decode cX10_best 49 = .ok (.invokevirtual 40, 3) := by decide +kernel
theorem dX10_best_52 : decode cX10_best 52 = .ok (.if_icmp .ge 88, 3) := by decide +kernel
theorem dX10_best_55 : decode cX10_best 55 = .ok (.aload_n 0, 1) := by decide +kernel
theorem dX10_best_56 : decode cX10_best 56 = .ok (.iload 4, 2) := by decide +kernel
theorem dX10_best_58 : decode cX10_best 58 = .ok (.invokevirtual 230, 3) := by decide +kernel
theorem dX10_best_61 : decode cX10_best 61 = .ok (.aload_n 0, 1) := by decide +kernel
theorem dX10_best_62 : decode cX10_best 62 = .ok (.iload_n 1, 1) := by decide +kernel
theorem dX10_best_63 : decode cX10_best 63 = .ok (.invokevirtual 234, 3) := by decide +kernel
theorem dX10_best_66 : decode cX10_best 66 = .ok (.dsub, 1) := by decide +kernel
theorem dX10_best_67 : decode cX10_best 67 = .ok (.invokestatic 311, 3) := by decide +kernel
theorem dX10_best_70 : decode cX10_best 70 = .ok (.dstore 5, 2) := by decide +kernel
theorem dX10_best_72 : decode cX10_best 72 = .ok (.iload_n 2, 1) := by decide +kernel
theorem dX10_best_73 : decode cX10_best 73 = .ok (.aload_n 0, 1) := by decide +kernel
theorem dX10_best_74 : decode cX10_best 74 = .ok (.iload 4, 2) := by decide +kernel
theorem dX10_best_76 : decode cX10_best 76 = .ok (.invokevirtual 147, 3) := by decide +kernel
theorem dX10_best_79 : decode cX10_best 79 = .ok (.if_icmp .lt 55, 3) := by decide +kernel
theorem dX10_best_82 : decode cX10_best 82 = .ok (.iload_n 2, 1) := by decide +kernel
theorem dX10_best_83 : decode cX10_best 83 = .ok (.aload_n 0, 1) := by decide +kernel
theorem dX10_best_84 : decode cX10_best 84 = .ok (.iload 4, 2) := by decide +kernel
theorem dX10_best_86 : decode cX10_best 86 = .ok (.invokevirtual 147, 3) := by decide +kernel
theorem dX10_best_89 : decode cX10_best 89 = .ok (.iconst 2, 1) := by decide +kernel
theorem dX10_best_90 : decode cX10_best 90 = .ok (.iadd, 1) := by decide +kernel
theorem dX10_best_91 : decode cX10_best 91 = .ok (.if_icmp .gt 43, 3) := by decide +kernel
theorem dX10_best_94 : decode cX10_best 94 = .ok (.dload 5, 2) := by decide +kernel
theorem dX10_best_96 : decode cX10_best 96 = .ok (.ldc2_w 84, 3) := by decide +kernel
theorem dX10_best_99 : decode cX10_best 99 = .ok (.dcmp .l, 1) := by decide +kernel
theorem dX10_best_100 : decode cX10_best 100 = .ok (.ifCond .le 6, 3) := by decide +kernel
theorem dX10_best_103 : decode cX10_best 103 = .ok (.goto 31, 3) := by decide +kernel
theorem dX10_best_106 : decode cX10_best 106 = .ok (.iload_n 3, 1) := by decide +kernel
theorem dX10_best_107 : decode cX10_best 107 = .ok (.iconst (-1), 1) := by decide +kernel
theorem dX10_best_108 : decode cX10_best 108 = .ok (.if_icmp .eq 23, 3) := by decide +kernel
theorem dX10_best_111 : decode cX10_best 111 = .ok (.dload 5, 2) := by decide +kernel
theorem dX10_best_113 : decode cX10_best 113 = .ok (.aload_n 0, 1) := by decide +kernel
theorem dX10_best_114 : decode cX10_best 114 = .ok (.iload_n 3, 1) := by decide +kernel
theorem dX10_best_115 : decode cX10_best 115 = .ok (.invokevirtual 230, 3) := by decide +kernel
theorem dX10_best_118 : decode cX10_best 118 = .ok (.aload_n 0, 1) := by decide +kernel
theorem dX10_best_119 : decode cX10_best 119 = .ok (.iload_n 1, 1) := by decide +kernel
theorem dX10_best_120 : decode cX10_best 120 = .ok (.invokevirtual 234, 3) := by decide +kernel
theorem dX10_best_123 : decode cX10_best 123 = .ok (.dsub, 1) := by decide +kernel
theorem dX10_best_124 : decode cX10_best 124 = .ok (.invokestatic 311, 3) := by decide +kernel
theorem dX10_best_127 : decode cX10_best 127 = .ok (.dcmp .g, 1) := by decide +kernel
theorem dX10_best_128 : decode cX10_best 128 = .ok (.ifCond .ge 6, 3) := by decide +kernel
theorem dX10_best_131 : decode cX10_best 131 = .ok (.iload 4, 2) := by decide +kernel
theorem dX10_best_133 : decode cX10_best 133 = .ok (.istore_n 3, 1) := by decide +kernel
theorem dX10_best_134 : decode cX10_best 134 = .ok (.iinc 4 1, 3) := by decide +kernel
theorem dX10_best_137 : decode cX10_best 137 = .ok (.goto (-94), 3) := by decide +kernel
theorem dX10_best_140 : decode cX10_best 140 = .ok (.iload_n 3, 1) := by decide +kernel
theorem dX10_best_141 : decode cX10_best 141 = .ok (.ireturn, 1) := by decide +kernel
theorem dX10_holding_0 : decode cX10_holding 0 = .ok (.aload_n 0, 1) := by decide +kernel
theorem dX10_holding_1 : decode cX10_holding 1 = .ok (.iload_n 1, 1) := by decide +kernel
theorem dX10_holding_2 : decode cX10_holding 2 = .ok (.invokevirtual 283, 3) := by decide +kernel
theorem dX10_holding_5 : decode cX10_holding 5 = .ok (.istore_n 2, 1) := by decide +kernel
theorem dX10_holding_6 : decode cX10_holding 6 = .ok (.iconst 1, 1) := by decide +kernel
theorem dX10_holding_7 : decode cX10_holding 7 = .ok (.istore_n 3, 1) := by decide +kernel
theorem dX10_holding_8 : decode cX10_holding 8 = .ok (.aload_n 0, 1) := by decide +kernel
theorem dX10_holding_9 : decode cX10_holding 9 = .ok (.getfield 19, 3) := by decide +kernel
theorem dX10_holding_12 : decode cX10_holding 12 = .ok (.invokevirtual 110, 3) := by decide +kernel
theorem dX10_holding_15 : decode cX10_holding 15 = .ok (.astore 4, 2) := by decide +kernel
theorem dX10_holding_17 : decode cX10_holding 17 = .ok (.aload 4, 2) := by decide +kernel
theorem dX10_holding_19 : decode cX10_holding 19 = .ok (.invokeinterface 114 1, 5) := by decide +kernel
theorem dX10_holding_24 : decode cX10_holding 24 = .ok (.ifCond .eq 73, 3) := by decide +kernel
theorem dX10_holding_27 : decode cX10_holding 27 = .ok (.aload 4, 2) := by decide +kernel
theorem dX10_holding_29 : decode cX10_holding 29 = .ok (.invokeinterface 120 1, 5) := by decide +kernel
theorem dX10_holding_34 : decode cX10_holding 34 = .ok (.checkcast 99, 3) := by decide +kernel
theorem dX10_holding_37 : decode cX10_holding 37 = .ok (.astore 5, 2) := by decide +kernel
theorem dX10_holding_39 : decode cX10_holding 39 = .ok (.aload 5, 2) := by decide +kernel
theorem dX10_holding_41 : decode cX10_holding 41 = .ok (.getfield 124, 3) := by decide +kernel
theorem dX10_holding_44 : decode cX10_holding 44 = .ok (.iconst 1, 1) := by decide +kernel
theorem dX10_holding_45 : decode cX10_holding 45 = .ok (.if_icmp .eq 12, 3) := by decide +kernel
theorem dX10_holding_48 : decode cX10_holding 48 = .ok (.aload 5, 2) := by decide +kernel
theorem dX10_holding_50 : decode cX10_holding 50 = .ok (.getfield 124, 3) := by decide +kernel
theorem dX10_holding_53 : decode cX10_holding 53 = .ok (.iconst 3, 1) := by decide +kernel
theorem dX10_holding_54 : decode cX10_holding 54 = .ok (.if_icmp .ne 40, 3) := by decide +kernel
theorem dX10_holding_57 : decode cX10_holding 57 = .ok (.aload 5, 2) := by decide +kernel
theorem dX10_holding_59 : decode cX10_holding 59 = .ok (.getfield 150, 3) := by decide +kernel
theorem dX10_holding_62 : decode cX10_holding 62 = .ok (.iconst (-1), 1) := by decide +kernel
theorem dX10_holding_63 : decode cX10_holding 63 = .ok (.if_icmp .ne 31, 3) := by decide +kernel
theorem dX10_holding_66 : decode cX10_holding 66 = .ok (.aload 5, 2) := by decide +kernel
theorem dX10_holding_68 : decode cX10_holding 68 = .ok (.getfield 173, 3) := by decide +kernel
theorem dX10_holding_71 : decode cX10_holding 71 = .ok (.iload_n 1, 1) := by decide +kernel
theorem dX10_holding_72 : decode cX10_holding 72 = .ok (.invokestatic 176, 3) := by decide +kernel
theorem dX10_holding_75 : decode cX10_holding 75 = .ok (.if_icmp .gt 19, 3) := by decide +kernel
theorem dX10_holding_78 : decode cX10_holding 78 = .ok (.iload_n 3, 1) := by decide +kernel
theorem dX10_holding_79 : decode cX10_holding 79 = .ok (.iload_n 3, 1) := by decide +kernel
theorem dX10_holding_80 : decode cX10_holding 80 = .ok (.aload 5, 2) := by decide +kernel
theorem dX10_holding_82 : decode cX10_holding 82 = .ok (.getfield 156, 3) := by decide +kernel
theorem dX10_holding_85 : decode cX10_holding 85 = .ok (.ishl, 1) := by decide +kernel
theorem dX10_holding_86 : decode cX10_holding 86 = .ok (.iconst 2, 1) := by decide +kernel
theorem dX10_holding_87 : decode cX10_holding 87 = .ok (.iload_n 2, 1) := by decide +kernel
theorem dX10_holding_88 : decode cX10_holding 88 = .ok (.ishl, 1) := by decide +kernel
theorem dX10_holding_89 : decode cX10_holding 89 = .ok (.iconst 1, 1) := by decide +kernel
theorem dX10_holding_90 : decode cX10_holding 90 = .ok (.isub, 1) := by decide +kernel
theorem dX10_holding_91 : decode cX10_holding 91 = .ok (.iand, 1) := by decide +kernel
theorem dX10_holding_92 : decode cX10_holding 92 = .ok (.ior, 1) := by decide +kernel
theorem dX10_holding_93 : decode cX10_holding 93 = .ok (.istore_n 3, 1) := by decide +kernel
theorem dX10_holding_94 : decode cX10_holding 94 = .ok (.goto (-77), 3) := by decide +kernel
theorem dX10_holding_97 : decode cX10_holding 97 = .ok (.iload_n 2, 1) := by decide +kernel
theorem dX10_holding_98 : decode cX10_holding 98 = .ok (.istore 4, 2) := by decide +kernel
theorem dX10_holding_100 : decode cX10_holding 100 = .ok (.iload_n 3, 1) := by decide +kernel
theorem dX10_holding_101 : decode cX10_holding 101 = .ok (.iload 4, 2) := by decide +kernel
theorem dX10_holding_103 : decode cX10_holding 103 = .ok (.ishr, 1) := by decide +kernel
theorem dX10_holding_104 : decode cX10_holding 104 = .ok (.iconst 1, 1) := by decide +kernel
theorem dX10_holding_105 : decode cX10_holding 105 = .ok (.iand, 1) := by decide +kernel
theorem dX10_holding_106 : decode cX10_holding 106 = .ok (.ifCond .ne 9, 3) := by decide +kernel
theorem dX10_holding_109 : decode cX10_holding 109 = .ok (.iinc 4 (-1), 3) := by decide +kernel
theorem dX10_holding_112 : decode cX10_holding 112 = .ok (.goto (-12), 3) := by decide +kernel
theorem dX10_holding_115 : decode cX10_holding 115 = .ok (.iload 4, 2) := by decide +kernel
theorem dX10_holding_117 : decode cX10_holding 117 = .ok (.ireturn, 1) := by decide +kernel
theorem dX10_wouldHold_0 : decode cX10_wouldHold 0 = .ok (.aload_n 0, 1) := by decide +kernel
theorem dX10_wouldHold_1 : decode cX10_wouldHold 1 = .ok (.iload_n 1, 1) := by decide +kernel
theorem dX10_wouldHold_2 : decode cX10_wouldHold 2 = .ok (.invokestatic 167, 3) := by decide +kernel
theorem dX10_wouldHold_5 : decode cX10_wouldHold 5 = .ok (.iconst 1, 1) := by decide +kernel
theorem dX10_wouldHold_6 : decode cX10_wouldHold 6 = .ok (.invokevirtual 88, 3) := by decide +kernel
theorem dX10_wouldHold_9 : decode cX10_wouldHold 9 = .ok (.ifCond .eq 7, 3) := by decide +kernel
theorem dX10_wouldHold_12 : decode cX10_wouldHold 12 = .ok (.iconst 0, 1) := by decide +kernel
theorem dX10_wouldHold_13 : decode cX10_wouldHold 13 = .ok (.goto 8, 3) := by decide +kernel
theorem dX10_wouldHold_16 : decode cX10_wouldHold 16 = .ok (.aload_n 0, 1) := by decide +kernel
theorem dX10_wouldHold_17 : decode cX10_wouldHold 17 = .ok (.iload_n 1, 1) := by decide +kernel
theorem dX10_wouldHold_18 : decode cX10_wouldHold 18 = .ok (.invokevirtual 314, 3) := by decide +kernel
theorem dX10_wouldHold_21 : decode cX10_wouldHold 21 = .ok (.ireturn, 1) := by decide +kernel
theorem dX10_add_0 : decode cX10_add 0 = .ok (.lload_n 0, 1) := by decide +kernel
theorem dX10_add_1 : decode cX10_add 1 = .ok (.ldc2_w 317, 3) := by decide +kernel
theorem dX10_add_4 : decode cX10_add 4 = .ok (.lmul, 1) := by decide +kernel
theorem dX10_add_5 : decode cX10_add 5 = .ok (.lload_n 2, 1) := by decide +kernel
theorem dX10_add_6 : decode cX10_add 6 = .ok (.ladd, 1) := by decide +kernel
theorem dX10_add_7 : decode cX10_add 7 = .ok (.lreturn, 1) := by decide +kernel
theorem dX10_digest_0 : decode cX10_digest 0 = .ok (.aload_n 0, 1) := by decide +kernel
theorem dX10_digest_1 : decode cX10_digest 1 = .ok (.iconst 0, 1) := by decide +kernel
theorem dX10_digest_2 : decode cX10_digest 2 = .ok (.putfield 32, 3) := by decide +kernel
theorem dX10_digest_5 : decode cX10_digest 5 = .ok (.ldc2_w 319, 3) := by decide +kernel
theorem dX10_digest_8 : decode cX10_digest 8 = .ok (.lstore_n 1, 1) := by decide +kernel
theorem dX10_digest_9 : decode cX10_digest 9 = .ok (.iconst 0, 1) := by decide +kernel
theorem dX10_digest_10 : decode cX10_digest 10 = .ok (.istore_n 3, 1) := by decide +kernel
theorem dX10_digest_11 : decode cX10_digest 11 = .ok (.iload_n 3, 1) := by decide +kernel
theorem dX10_digest_12 : decode cX10_digest 12 = .ok (.bipush 16, 2) := by decide +kernel
theorem dX10_digest_14 : decode cX10_digest 14 = .ok (.if_icmp .ge 20, 3) := by decide +kernel
theorem dX10_digest_17 : decode cX10_digest 17 = .ok (.lload_n 1, 1) := by decide +kernel
theorem dX10_digest_18 : decode cX10_digest 18 = .ok (.aload_n 0, 1) := by decide +kernel
theorem dX10_digest_19 : decode cX10_digest 19 = .ok (.iload_n 3, 1) := by decide +kernel
theorem dX10_digest_20 : decode cX10_digest 20 = .ok (.invokevirtual 298, 3) := by decide +kernel
theorem dX10_digest_23 : decode cX10_digest 23 = .ok (.i2l, 1) := by decide +kernel
theorem dX10_digest_24 : decode cX10_digest 24 = .ok (.invokestatic 321, 3) := by decide +kernel
theorem dX10_digest_27 : decode cX10_digest 27 = .ok (.lstore_n 1, 1) := by decide +kernel
theorem dX10_digest_28 : decode cX10_digest 28 = .ok (.iinc 3 1, 3) := by decide +kernel
theorem dX10_digest_31 : decode cX10_digest 31 = .ok (.goto (-20), 3) := by decide +kernel
theorem dX10_digest_34 : decode cX10_digest 34 = .ok (.iconst 0, 1) := by decide +kernel
theorem dX10_digest_35 : decode cX10_digest 35 = .ok (.istore_n 3, 1) := by decide +kernel
theorem dX10_digest_36 : decode cX10_digest 36 = .ok (.iload_n 3, 1) := by decide +kernel
theorem dX10_digest_37 : decode cX10_digest 37 = .ok (.aload_n 0, 1) := by decide +kernel
theorem dX10_digest_38 : decode cX10_digest 38 = .ok (.getfield 19, 3) := by decide +kernel
theorem dX10_digest_41 : decode cX10_digest 41 = .ok (.invokevirtual 40, 3) := by decide +kernel
theorem dX10_digest_44 : decode cX10_digest 44 = .ok (.if_icmp .ge 62, 3) := by decide +kernel
theorem dX10_digest_47 : decode cX10_digest 47 = .ok (.iconst 0, 1) := by decide +kernel
theorem dX10_digest_48 : decode cX10_digest 48 = .ok (.istore 4, 2) := by decide +kernel
theorem dX10_digest_50 : decode cX10_digest 50 = .ok (.iload 4, 2) := by decide +kernel
theorem dX10_digest_52 : decode cX10_digest 52 = .ok (.bipush 8, 2) := by decide +kernel
theorem dX10_digest_54 : decode cX10_digest 54 = .ok (.if_icmp .ge 22, 3) := by decide +kernel
theorem dX10_digest_57 : decode cX10_digest 57 = .ok (.lload_n 1, 1) := by decide +kernel
theorem dX10_digest_58 : decode cX10_digest 58 = .ok (.aload_n 0, 1) := by decide +kernel
theorem dX10_digest_59 : decode cX10_digest 59 = .ok (.iload_n 3, 1) := by decide +kernel
theorem dX10_digest_60 : decode cX10_digest 60 = .ok (.iload 4, 2) := by decide +kernel
theorem dX10_digest_62 : decode cX10_digest 62 = .ok (.invokevirtual 267, 3) := by decide +kernel
theorem dX10_digest_65 : decode cX10_digest 65 = .ok (.i2l, 1) := by decide +kernel
theorem dX10_digest_66 : decode cX10_digest 66 = .ok (.invokestatic 321, 3) := by decide +kernel
theorem dX10_digest_69 : decode cX10_digest 69 = .ok (.lstore_n 1, 1) := by decide +kernel
theorem dX10_digest_70 : decode cX10_digest 70 = .ok (.iinc 4 1, 3) := by decide +kernel
theorem dX10_digest_73 : decode cX10_digest 73 = .ok (.goto (-23), 3) := by decide +kernel
theorem dX10_digest_76 : decode cX10_digest 76 = .ok (.lload_n 1, 1) := by decide +kernel
theorem dX10_digest_77 : decode cX10_digest 77 = .ok (.ldc_w 324, 3) := by decide +kernel
theorem dX10_digest_80 : decode cX10_digest 80 = .ok (.aload_n 0, 1) := by decide +kernel
theorem dX10_digest_81 : decode cX10_digest 81 = .ok (.getfield 19, 3) := by decide +kernel
theorem dX10_digest_84 : decode cX10_digest 84 = .ok (.iload_n 3, 1) := by decide +kernel
theorem dX10_digest_85 : decode cX10_digest 85 = .ok (.invokevirtual 58, 3) := by decide +kernel
theorem dX10_digest_88 : decode cX10_digest 88 = .ok (.checkcast 99, 3) := by decide +kernel
theorem dX10_digest_91 : decode cX10_digest 91 = .ok (.getfield 270, 3) := by decide +kernel
theorem dX10_digest_94 : decode cX10_digest 94 = .ok (.fmul, 1) := by decide +kernel
theorem dX10_digest_95 : decode cX10_digest 95 = .ok (.f2l, 1) := by decide +kernel
theorem dX10_digest_96 : decode cX10_digest 96 = .ok (.invokestatic 321, 3) := by decide +kernel
theorem dX10_digest_99 : decode cX10_digest 99 = .ok (.lstore_n 1, 1) := by decide +kernel
theorem dX10_digest_100 : decode cX10_digest 100 = .ok (.iinc 3 1, 3) := by decide +kernel
theorem dX10_digest_103 : decode cX10_digest 103 = .ok (.goto (-67), 3) := by decide +kernel
theorem dX10_digest_106 : decode cX10_digest 106 = .ok (.iconst 0, 1) := by decide +kernel
theorem dX10_digest_107 : decode cX10_digest 107 = .ok (.istore_n 3, 1) := by decide +kernel
theorem dX10_digest_108 : decode cX10_digest 108 = .ok (.iload_n 3, 1) := by decide +kernel
theorem dX10_digest_109 : decode cX10_digest 109 = .ok (.aload_n 0, 1) := by decide +kernel
theorem dX10_digest_110 : decode cX10_digest 110 = .ok (.getfield 16, 3) := by decide +kernel
theorem dX10_digest_113 : decode cX10_digest 113 = .ok (.invokevirtual 40, 3) := by decide +kernel
theorem dX10_digest_116 : decode cX10_digest 116 = .ok (.if_icmp .ge 33, 3) := by decide +kernel
theorem dX10_digest_119 : decode cX10_digest 119 = .ok (.lload_n 1, 1) := by decide +kernel
theorem dX10_digest_120 : decode cX10_digest 120 = .ok (.ldc2_w 325, 3) := by decide +kernel
theorem dX10_digest_123 : decode cX10_digest 123 = .ok (.aload_n 0, 1) := by decide +kernel
theorem dX10_digest_124 : decode cX10_digest 124 = .ok (.iload_n 3, 1) := by decide +kernel
theorem dX10_digest_125 : decode cX10_digest 125 = .ok (.invokevirtual 230, 3) := by decide +kernel
theorem dX10_digest_128 : decode cX10_digest 128 = .ok (.dmul, 1) := by decide +kernel
theorem dX10_digest_129 : decode cX10_digest 129 = .ok (.d2l, 1) := by decide +kernel
theorem dX10_digest_130 : decode cX10_digest 130 = .ok (.invokestatic 321, 3) := by decide +kernel
theorem dX10_digest_133 : decode cX10_digest 133 = .ok (.aload_n 0, 1) := by decide +kernel
theorem dX10_digest_134 : decode cX10_digest 134 = .ok (.iload_n 3, 1) := by decide +kernel
theorem dX10_digest_135 : decode cX10_digest 135 = .ok (.invokevirtual 147, 3) := by decide +kernel
theorem dX10_digest_138 : decode cX10_digest 138 = .ok (.i2l, 1) := by decide +kernel
theorem dX10_digest_139 : decode cX10_digest 139 = .ok (.invokestatic 321, 3) := by decide +kernel
theorem dX10_digest_142 : decode cX10_digest 142 = .ok (.lstore_n 1, 1) := by decide +kernel
theorem dX10_digest_143 : decode cX10_digest 143 = .ok (.iinc 3 1, 3) := by decide +kernel
theorem dX10_digest_146 : decode cX10_digest 146 = .ok (.goto (-38), 3) := by decide +kernel
theorem dX10_digest_149 : decode cX10_digest 149 = .ok (.iconst 0, 1) := by decide +kernel
theorem dX10_digest_150 : decode cX10_digest 150 = .ok (.istore_n 3, 1) := by decide +kernel
theorem dX10_digest_151 : decode cX10_digest 151 = .ok (.iload_n 3, 1) := by decide +kernel
theorem dX10_digest_152 : decode cX10_digest 152 = .ok (.iconst 3, 1) := by decide +kernel
theorem dX10_digest_153 : decode cX10_digest 153 = .ok (.if_icmp .ge 59, 3) := by decide +kernel
theorem dX10_digest_156 : decode cX10_digest 156 = .ok (.iconst 0, 1) := by decide +kernel
theorem dX10_digest_157 : decode cX10_digest 157 = .ok (.istore 4, 2) := by decide +kernel
theorem dX10_digest_159 : decode cX10_digest 159 = .ok (.iload 4, 2) := by decide +kernel
theorem dX10_digest_161 : decode cX10_digest 161 = .ok (.iconst 4, 1) := by decide +kernel
theorem dX10_digest_162 : decode cX10_digest 162 = .ok (.if_icmp .ge 22, 3) := by decide +kernel
theorem dX10_digest_165 : decode cX10_digest 165 = .ok (.lload_n 1, 1) := by decide +kernel
theorem dX10_digest_166 : decode cX10_digest 166 = .ok (.aload_n 0, 1) := by decide +kernel
theorem dX10_digest_167 : decode cX10_digest 167 = .ok (.iload_n 3, 1) := by decide +kernel
theorem dX10_digest_168 : decode cX10_digest 168 = .ok (.iload 4, 2) := by decide +kernel
theorem dX10_digest_170 : decode cX10_digest 170 = .ok (.invokevirtual 286, 3) := by decide +kernel
theorem dX10_digest_173 : decode cX10_digest 173 = .ok (.i2l, 1) := by decide +kernel
theorem dX10_digest_174 : decode cX10_digest 174 = .ok (.invokestatic 321, 3) := by decide +kernel
theorem dX10_digest_177 : decode cX10_digest 177 = .ok (.lstore_n 1, 1) := by decide +kernel
theorem dX10_digest_178 : decode cX10_digest 178 = .ok (.iinc 4 1, 3) := by decide +kernel
theorem dX10_digest_181 : decode cX10_digest 181 = .ok (.goto (-22), 3) := by decide +kernel
theorem dX10_digest_184 : decode cX10_digest 184 = .ok (.lload_n 1, 1) := by decide +kernel
theorem dX10_digest_185 : decode cX10_digest 185 = .ok (.aload_n 0, 1) := by decide +kernel
theorem dX10_digest_186 : decode cX10_digest 186 = .ok (.iload_n 3, 1) := by decide +kernel
theorem dX10_digest_187 : decode cX10_digest 187 = .ok (.invokevirtual 314, 3) := by decide +kernel
theorem dX10_digest_190 : decode cX10_digest 190 = .ok (.i2l, 1) := by decide +kernel
theorem dX10_digest_191 : decode cX10_digest 191 = .ok (.invokestatic 321, 3) := by decide +kernel
theorem dX10_digest_194 : decode cX10_digest 194 = .ok (.aload_n 0, 1) := by decide +kernel
theorem dX10_digest_195 : decode cX10_digest 195 = .ok (.iload_n 3, 1) := by decide +kernel
theorem dX10_digest_196 : decode cX10_digest 196 = .ok (.bipush 20, 2) := by decide +kernel
theorem dX10_digest_198 : decode cX10_digest 198 = .ok (.invokevirtual 305, 3) := by decide +kernel
theorem dX10_digest_201 : decode cX10_digest 201 = .ok (.i2l, 1) := by decide +kernel
theorem dX10_digest_202 : decode cX10_digest 202 = .ok (.invokestatic 321, 3) := by decide +kernel
theorem dX10_digest_205 : decode cX10_digest 205 = .ok (.lstore_n 1, 1) := by decide +kernel
theorem dX10_digest_206 : decode cX10_digest 206 = .ok (.iinc 3 1, 3) := by decide +kernel
theorem dX10_digest_209 : decode cX10_digest 209 = .ok (.goto (-58), 3) := by decide +kernel
theorem dX10_digest_212 : decode cX10_digest 212 = .ok (.lload_n 1, 1) := by decide +kernel
theorem dX10_digest_213 : decode cX10_digest 213 = .ok (.ldc2_w 325, 3) := by decide +kernel
theorem dX10_digest_216 : decode cX10_digest 216 = .ok (.aload_n 0, 1) := by decide +kernel
theorem dX10_digest_217 : decode cX10_digest 217 = .ok (.getfield 28, 3) := by decide +kernel
theorem dX10_digest_220 : decode cX10_digest 220 = .ok (.getfield 52, 3) := by decide +kernel
theorem dX10_digest_223 : decode cX10_digest 223 = .ok (.dmul, 1) := by decide +kernel
theorem dX10_digest_224 : decode cX10_digest 224 = .ok (.d2l, 1) := by decide +kernel
theorem dX10_digest_225 : decode cX10_digest 225 = .ok (.invokestatic 321, 3) := by decide +kernel
theorem dX10_digest_228 : decode cX10_digest 228 = .ok (.ldc_w 324, 3) := by decide +kernel
theorem dX10_digest_231 : decode cX10_digest 231 = .ok (.aload_n 0, 1) := by decide +kernel
theorem dX10_digest_232 : decode cX10_digest 232 = .ok (.getfield 28, 3) := by decide +kernel
theorem dX10_digest_235 : decode cX10_digest 235 = .ok (.getfield 252, 3) := by decide +kernel
theorem dX10_digest_238 : decode cX10_digest 238 = .ok (.fmul, 1) := by decide +kernel
theorem dX10_digest_239 : decode cX10_digest 239 = .ok (.f2l, 1) := by decide +kernel
theorem dX10_digest_240 : decode cX10_digest 240 = .ok (.invokestatic 321, 3) := by decide +kernel
theorem dX10_digest_243 : decode cX10_digest 243 = .ok (.aload_n 0, 1) := by decide +kernel
theorem dX10_digest_244 : decode cX10_digest 244 = .ok (.invokevirtual 308, 3) := by decide +kernel
theorem dX10_digest_247 : decode cX10_digest 247 = .ok (.i2l, 1) := by decide +kernel
theorem dX10_digest_248 : decode cX10_digest 248 = .ok (.invokestatic 321, 3) := by decide +kernel
theorem dX10_digest_251 : decode cX10_digest 251 = .ok (.lreturn, 1) := by decide +kernel
