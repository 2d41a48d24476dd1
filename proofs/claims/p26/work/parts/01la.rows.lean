theorem dL_below_0 : decode cL_below 0 = .ok (.iload_n 0, 1) := by decide +kernel
theorem dL_below_1 : decode cL_below 1 = .ok (.ldc 7, 2) := by decide +kernel
theorem dL_below_3 : decode cL_below 3 = .ok (.iand, 1) := by decide +kernel
theorem dL_below_4 : decode cL_below 4 = .ok (.iload_n 1, 1) := by decide +kernel
theorem dL_below_5 : decode cL_below 5 = .ok (.irem, 1) := by decide +kernel
theorem dL_below_6 : decode cL_below 6 = .ok (.ireturn, 1) := by decide +kernel
theorem dL_cell_0 : decode cL_cell 0 = .ok (.iload_n 1, 1) := by decide +kernel
theorem dL_cell_1 : decode cL_cell 1 = .ok (.aload_n 0, 1) := by decide +kernel
theorem dL_cell_2 : decode cL_cell 2 = .ok (.arraylength, 1) := by decide +kernel
theorem dL_cell_3 : decode cL_cell 3 = .ok (.if_icmp .ge 9, 3) := by decide +kernel
theorem dL_cell_6 : decode cL_cell 6 = .ok (.aload_n 0, 1) := by decide +kernel
theorem dL_cell_7 : decode cL_cell 7 = .ok (.iload_n 1, 1) := by decide +kernel
theorem dL_cell_8 : decode cL_cell 8 = .ok (.iaload, 1) := by decide +kernel
theorem dL_cell_9 : decode cL_cell 9 = .ok (.goto 9, 3) := by decide +kernel
theorem dL_cell_12 : decode cL_cell 12 = .ok (.ldc 8, 2) := by decide +kernel
theorem dL_cell_14 : decode cL_cell 14 = .ok (.iload_n 1, 1) := by decide +kernel
theorem dL_cell_15 : decode cL_cell 15 = .ok (.iconst 3, 1) := by decide +kernel
theorem dL_cell_16 : decode cL_cell 16 = .ok (.iadd, 1) := by decide +kernel
theorem dL_cell_17 : decode cL_cell 17 = .ok (.imul, 1) := by decide +kernel
theorem dL_cell_18 : decode cL_cell 18 = .ok (.ireturn, 1) := by decide +kernel
theorem dL_machine_0 : decode cL_machine 0 = .ok (.iconst 2, 1) := by decide +kernel
theorem dL_machine_1 : decode cL_machine 1 = .ok (.iload_n 1, 1) := by decide +kernel
theorem dL_machine_2 : decode cL_machine 2 = .ok (.iconst 3, 1) := by decide +kernel
theorem dL_machine_3 : decode cL_machine 3 = .ok (.invokestatic 9, 3) := by decide +kernel
theorem dL_machine_6 : decode cL_machine 6 = .ok (.iadd, 1) := by decide +kernel
theorem dL_machine_7 : decode cL_machine 7 = .ok (.istore 4, 2) := by decide +kernel
theorem dL_machine_9 : decode cL_machine 9 = .ok (.aload_n 0, 1) := by decide +kernel
theorem dL_machine_10 : decode cL_machine 10 = .ok (.iload 4, 2) := by decide +kernel
theorem dL_machine_12 : decode cL_machine 12 = .ok (.invokevirtual 15, 3) := by decide +kernel
theorem dL_machine_15 : decode cL_machine 15 = .ok (.istore 5, 2) := by decide +kernel
theorem dL_machine_17 : decode cL_machine 17 = .ok (.iconst 0, 1) := by decide +kernel
theorem dL_machine_18 : decode cL_machine 18 = .ok (.istore 6, 2) := by decide +kernel
theorem dL_machine_20 : decode cL_machine 20 = .ok (.iload 6, 2) := by decide +kernel
theorem dL_machine_22 : decode cL_machine 22 = .ok (.iconst 2, 1) := by decide +kernel
theorem dL_machine_23 : decode cL_machine 23 = .ok (.iload 4, 2) := by decide +kernel
theorem dL_machine_25 : decode cL_machine 25 = .ok (.imul, 1) := by decide +kernel
theorem dL_machine_26 : decode cL_machine 26 = .ok (.if_icmp .ge 119, 3) := by decide +kernel
theorem dL_machine_29 : decode cL_machine 29 = .ok (.iload 6, 2) := by decide +kernel
theorem dL_machine_31 : decode cL_machine 31 = .ok (.iconst 4, 1) := by decide +kernel
theorem dL_machine_32 : decode cL_machine 32 = .ok (.if_icmp .ge 7, 3) := by decide +kernel
theorem dL_machine_35 : decode cL_machine 35 = .ok (.iload_n 1, 1) := by decide +kernel
theorem dL_machine_36 : decode cL_machine 36 = .ok (.goto 4, 3) := by decide +kernel
theorem dL_machine_39 : decode cL_machine 39 = .ok (.iload_n 2, 1) := by decide +kernel
theorem dL_machine_40 : decode cL_machine 40 = .ok (.iconst 3, 1) := by decide +kernel
theorem dL_machine_41 : decode cL_machine 41 = .ok (.iload 6, 2) := by decide +kernel
theorem dL_machine_43 : decode cL_machine 43 = .ok (.iconst 4, 1) := by decide +kernel
theorem dL_machine_44 : decode cL_machine 44 = .ok (.irem, 1) := by decide +kernel
theorem dL_machine_45 : decode cL_machine 45 = .ok (.iconst 5, 1) := by decide +kernel
theorem dL_machine_46 : decode cL_machine 46 = .ok (.imul, 1) := by decide +kernel
theorem dL_machine_47 : decode cL_machine 47 = .ok (.iadd, 1) := by decide +kernel
theorem dL_machine_48 : decode cL_machine 48 = .ok (.ishr, 1) := by decide +kernel
theorem dL_machine_49 : decode cL_machine 49 = .ok (.istore 7, 2) := by decide +kernel
theorem dL_machine_51 : decode cL_machine 51 = .ok (.iload 7, 2) := by decide +kernel
theorem dL_machine_53 : decode cL_machine 53 = .ok (.iload 6, 2) := by decide +kernel
theorem dL_machine_55 : decode cL_machine 55 = .ok (.iadd, 1) := by decide +kernel
theorem dL_machine_56 : decode cL_machine 56 = .ok (.bipush 9, 2) := by decide +kernel
theorem dL_machine_58 : decode cL_machine 58 = .ok (.invokestatic 9, 3) := by decide +kernel
theorem dL_machine_61 : decode cL_machine 61 = .ok (.iload_n 3, 1) := by decide +kernel
theorem dL_machine_62 : decode cL_machine 62 = .ok (.if_icmp .lt 6, 3) := by decide +kernel
theorem dL_machine_65 : decode cL_machine 65 = .ok (.goto 74, 3) := by decide +kernel
theorem dL_machine_68 : decode cL_machine 68 = .ok (.iload 7, 2) := by decide +kernel
theorem dL_machine_70 : decode cL_machine 70 = .ok (.iconst 4, 1) := by decide +kernel
theorem dL_machine_71 : decode cL_machine 71 = .ok (.ishr, 1) := by decide +kernel
theorem dL_machine_72 : decode cL_machine 72 = .ok (.iconst 3, 1) := by decide +kernel
theorem dL_machine_73 : decode cL_machine 73 = .ok (.iload 4, 2) := by decide +kernel
theorem dL_machine_75 : decode cL_machine 75 = .ok (.imul, 1) := by decide +kernel
theorem dL_machine_76 : decode cL_machine 76 = .ok (.iconst 1, 1) := by decide +kernel
theorem dL_machine_77 : decode cL_machine 77 = .ok (.iadd, 1) := by decide +kernel
theorem dL_machine_78 : decode cL_machine 78 = .ok (.invokestatic 9, 3) := by decide +kernel
theorem dL_machine_81 : decode cL_machine 81 = .ok (.istore 8, 2) := by decide +kernel
theorem dL_machine_83 : decode cL_machine 83 = .ok (.aload_n 0, 1) := by decide +kernel
theorem dL_machine_84 : decode cL_machine 84 = .ok (.iload 5, 2) := by decide +kernel
theorem dL_machine_86 : decode cL_machine 86 = .ok (.iload 6, 2) := by decide +kernel
theorem dL_machine_88 : decode cL_machine 88 = .ok (.iconst 2, 1) := by decide +kernel
theorem dL_machine_89 : decode cL_machine 89 = .ok (.idiv, 1) := by decide +kernel
theorem dL_machine_90 : decode cL_machine 90 = .ok (.iload 6, 2) := by decide +kernel
theorem dL_machine_92 : decode cL_machine 92 = .ok (.iconst 2, 1) := by decide +kernel
theorem dL_machine_93 : decode cL_machine 93 = .ok (.irem, 1) := by decide +kernel
theorem dL_machine_94 : decode cL_machine 94 = .ok (.iload 7, 2) := by decide +kernel
theorem dL_machine_96 : decode cL_machine 96 = .ok (.iconst 2, 1) := by decide +kernel
theorem dL_machine_97 : decode cL_machine 97 = .ok (.invokestatic 9, 3) := by decide +kernel
theorem dL_machine_100 : decode cL_machine 100 = .ok (.iload 7, 2) := by decide +kernel
theorem dL_machine_102 : decode cL_machine 102 = .ok (.iconst 1, 1) := by decide +kernel
theorem dL_machine_103 : decode cL_machine 103 = .ok (.ishr, 1) := by decide +kernel
theorem dL_machine_104 : decode cL_machine 104 = .ok (.iconst 2, 1) := by decide +kernel
theorem dL_machine_105 : decode cL_machine 105 = .ok (.invokestatic 9, 3) := by decide +kernel
theorem dL_machine_108 : decode cL_machine 108 = .ok (.ifCond .ne 7, 3) := by decide +kernel
theorem dL_machine_111 : decode cL_machine 111 = .ok (.iconst 1, 1) := by decide +kernel
theorem dL_machine_112 : decode cL_machine 112 = .ok (.goto 4, 3) := by decide +kernel
theorem dL_machine_115 : decode cL_machine 115 = .ok (.iconst (-1), 1) := by decide +kernel
theorem dL_machine_116 : decode cL_machine 116 = .ok (.iload 8, 2) := by decide +kernel
theorem dL_machine_118 : decode cL_machine 118 = .ok (.iconst 3, 1) := by decide +kernel
theorem dL_machine_119 : decode cL_machine 119 = .ok (.iload 4, 2) := by decide +kernel
theorem dL_machine_121 : decode cL_machine 121 = .ok (.imul, 1) := by decide +kernel
theorem dL_machine_122 : decode cL_machine 122 = .ok (.if_icmp .ne 8, 3) := by decide +kernel
theorem dL_machine_125 : decode cL_machine 125 = .ok (.iload 4, 2) := by decide +kernel
theorem dL_machine_127 : decode cL_machine 127 = .ok (.goto 8, 3) := by decide +kernel
theorem dL_machine_130 : decode cL_machine 130 = .ok (.iload 8, 2) := by decide +kernel
theorem dL_machine_132 : decode cL_machine 132 = .ok (.iload 4, 2) := by decide +kernel
theorem dL_machine_134 : decode cL_machine 134 = .ok (.irem, 1) := by decide +kernel
theorem dL_machine_135 : decode cL_machine 135 = .ok (.invokevirtual 21, 3) := by decide +kernel
theorem dL_machine_138 : decode cL_machine 138 = .ok (.pop, 1) := by decide +kernel
theorem dL_machine_139 : decode cL_machine 139 = .ok (.iinc 6 1, 3) := by decide +kernel
theorem dL_machine_142 : decode cL_machine 142 = .ok (.goto (-122), 3) := by decide +kernel
theorem dL_machine_145 : decode cL_machine 145 = .ok (.iload 5, 2) := by decide +kernel
theorem dL_machine_147 : decode cL_machine 147 = .ok (.ireturn, 1) := by decide +kernel
theorem dL_law_0 : decode cL_law 0 = .ok (.new 16, 3) := by decide +kernel
theorem dL_law_3 : decode cL_law 3 = .ok (.dup, 1) := by decide +kernel
theorem dL_law_4 : decode cL_law 4 = .ok (.invokespecial 25, 3) := by decide +kernel
theorem dL_law_7 : decode cL_law 7 = .ok (.astore_n 1, 1) := by decide +kernel
theorem dL_law_8 : decode cL_law 8 = .ok (.iconst 0, 1) := by decide +kernel
theorem dL_law_9 : decode cL_law 9 = .ok (.istore_n 2, 1) := by decide +kernel
theorem dL_law_10 : decode cL_law 10 = .ok (.iload_n 2, 1) := by decide +kernel
theorem dL_law_11 : decode cL_law 11 = .ok (.iconst 5, 1) := by decide +kernel
theorem dL_law_12 : decode cL_law 12 = .ok (.if_icmp .ge 43, 3) := by decide +kernel
theorem dL_law_15 : decode cL_law 15 = .ok (.aload_n 1, 1) := by decide +kernel
theorem dL_law_16 : decode cL_law 16 = .ok (.aload_n 0, 1) := by decide +kernel
theorem dL_law_17 : decode cL_law 17 = .ok (.iconst 2, 1) := by decide +kernel
theorem dL_law_18 : decode cL_law 18 = .ok (.iload_n 2, 1) := by decide +kernel
theorem dL_law_19 : decode cL_law 19 = .ok (.imul, 1) := by decide +kernel
theorem dL_law_20 : decode cL_law 20 = .ok (.invokestatic 26, 3) := by decide +kernel
theorem dL_law_23 : decode cL_law 23 = .ok (.aload_n 0, 1) := by decide +kernel
theorem dL_law_24 : decode cL_law 24 = .ok (.iconst 2, 1) := by decide +kernel
theorem dL_law_25 : decode cL_law 25 = .ok (.iload_n 2, 1) := by decide +kernel
theorem dL_law_26 : decode cL_law 26 = .ok (.imul, 1) := by decide +kernel
theorem dL_law_27 : decode cL_law 27 = .ok (.iconst 1, 1) := by decide +kernel
theorem dL_law_28 : decode cL_law 28 = .ok (.iadd, 1) := by decide +kernel
theorem dL_law_29 : decode cL_law 29 = .ok (.invokestatic 26, 3) := by decide +kernel
theorem dL_law_32 : decode cL_law 32 = .ok (.iconst 4, 1) := by decide +kernel
theorem dL_law_33 : decode cL_law 33 = .ok (.aload_n 0, 1) := by decide +kernel
theorem dL_law_34 : decode cL_law 34 = .ok (.bipush 10, 2) := by decide +kernel
theorem dL_law_36 : decode cL_law 36 = .ok (.invokestatic 26, 3) := by decide +kernel
theorem dL_law_39 : decode cL_law 39 = .ok (.bipush 6, 2) := by decide +kernel
theorem dL_law_41 : decode cL_law 41 = .ok (.invokestatic 9, 3) := by decide +kernel
theorem dL_law_44 : decode cL_law 44 = .ok (.iadd, 1) := by decide +kernel
theorem dL_law_45 : decode cL_law 45 = .ok (.invokestatic 30, 3) := by decide +kernel
theorem dL_law_48 : decode cL_law 48 = .ok (.pop, 1) := by decide +kernel
theorem dL_law_49 : decode cL_law 49 = .ok (.iinc 2 1, 3) := by decide +kernel
theorem dL_law_52 : decode cL_law 52 = .ok (.goto (-42), 3) := by decide +kernel
theorem dL_law_55 : decode cL_law 55 = .ok (.iconst 0, 1) := by decide +kernel
theorem dL_law_56 : decode cL_law 56 = .ok (.istore_n 2, 1) := by decide +kernel
theorem dL_law_57 : decode cL_law 57 = .ok (.iconst 0, 1) := by decide +kernel
theorem dL_law_58 : decode cL_law 58 = .ok (.istore_n 3, 1) := by decide +kernel
theorem dL_law_59 : decode cL_law 59 = .ok (.iconst 0, 1) := by decide +kernel
theorem dL_law_60 : decode cL_law 60 = .ok (.istore 4, 2) := by decide +kernel
theorem dL_law_62 : decode cL_law 62 = .ok (.iload 4, 2) := by decide +kernel
theorem dL_law_64 : decode cL_law 64 = .ok (.bipush 50, 2) := by decide +kernel
theorem dL_law_66 : decode cL_law 66 = .ok (.if_icmp .ge 729, 3) := by decide +kernel
theorem dL_law_69 : decode cL_law 69 = .ok (.aload_n 0, 1) := by decide +kernel
theorem dL_law_70 : decode cL_law 70 = .ok (.bipush 11, 2) := by decide +kernel
theorem dL_law_72 : decode cL_law 72 = .ok (.iload 4, 2) := by decide +kernel
theorem dL_law_74 : decode cL_law 74 = .ok (.bipush 20, 2) := by decide +kernel
theorem dL_law_76 : decode cL_law 76 = .ok (.irem, 1) := by decide +kernel
theorem dL_law_77 : decode cL_law 77 = .ok (.iadd, 1) := by decide +kernel
theorem dL_law_78 : decode cL_law 78 = .ok (.invokestatic 26, 3) := by decide +kernel
theorem dL_law_81 : decode cL_law 81 = .ok (.iload 4, 2) := by decide +kernel
theorem dL_law_83 : decode cL_law 83 = .ok (.bipush 20, 2) := by decide +kernel
theorem dL_law_85 : decode cL_law 85 = .ok (.idiv, 1) := by decide +kernel
theorem dL_law_86 : decode cL_law 86 = .ok (.iconst 5, 1) := by decide +kernel
theorem dL_law_87 : decode cL_law 87 = .ok (.imul, 1) := by decide +kernel
theorem dL_law_88 : decode cL_law 88 = .ok (.ishr, 1) := by decide +kernel
theorem dL_law_89 : decode cL_law 89 = .ok (.istore 5, 2) := by decide +kernel
theorem dL_law_91 : decode cL_law 91 = .ok (.aload_n 1, 1) := by decide +kernel
theorem dL_law_92 : decode cL_law 92 = .ok (.iconst 0, 1) := by decide +kernel
theorem dL_law_93 : decode cL_law 93 = .ok (.invokevirtual 33, 3) := by decide +kernel
theorem dL_law_96 : decode cL_law 96 = .ok (.istore 6, 2) := by decide +kernel
theorem dL_law_98 : decode cL_law 98 = .ok (.iload 5, 2) := by decide +kernel
theorem dL_law_100 : decode cL_law 100 = .ok (.iconst 4, 1) := by decide +kernel
theorem dL_law_101 : decode cL_law 101 = .ok (.ishr, 1) := by decide +kernel
theorem dL_law_102 : decode cL_law 102 = .ok (.iload 6, 2) := by decide +kernel
theorem dL_law_104 : decode cL_law 104 = .ok (.invokestatic 9, 3) := by decide +kernel
theorem dL_law_107 : decode cL_law 107 = .ok (.istore 7, 2) := by decide +kernel
theorem dL_law_109 : decode cL_law 109 = .ok (.aload_n 1, 1) := by decide +kernel
theorem dL_law_110 : decode cL_law 110 = .ok (.iload 7, 2) := by decide +kernel
theorem dL_law_112 : decode cL_law 112 = .ok (.iconst 2, 1) := by decide +kernel
theorem dL_law_113 : decode cL_law 113 = .ok (.invokevirtual 36, 3) := by decide +kernel
theorem dL_law_116 : decode cL_law 116 = .ok (.istore 8, 2) := by decide +kernel
theorem dL_law_118 : decode cL_law 118 = .ok (.aload_n 1, 1) := by decide +kernel
theorem dL_law_119 : decode cL_law 119 = .ok (.bipush 9, 2) := by decide +kernel
theorem dL_law_121 : decode cL_law 121 = .ok (.invokevirtual 33, 3) := by decide +kernel
theorem dL_law_124 : decode cL_law 124 = .ok (.istore 9, 2) := by decide +kernel
theorem dL_law_126 : decode cL_law 126 = .ok (.iload 5, 2) := by decide +kernel
theorem dL_law_128 : decode cL_law 128 = .ok (.bipush 13, 2) := by decide +kernel
theorem dL_law_130 : decode cL_law 130 = .ok (.invokestatic 9, 3) := by decide +kernel
theorem dL_law_133 : decode cL_law 133 = .ok (.tableswitch 599 0 9 #[55, 55, 55, 249, 249, 272, 330, 330, 525, 525], 55) := by decide +kernel
theorem dL_law_188 : decode cL_law 188 = .ok (.iload 5, 2) := by decide +kernel
theorem dL_law_190 : decode cL_law 190 = .ok (.iconst 3, 1) := by decide +kernel
theorem dL_law_191 : decode cL_law 191 = .ok (.ishr, 1) := by decide +kernel
theorem dL_law_192 : decode cL_law 192 = .ok (.iconst 4, 1) := by decide +kernel
theorem dL_law_193 : decode cL_law 193 = .ok (.invokestatic 9, 3) := by decide +kernel
theorem dL_law_196 : decode cL_law 196 = .ok (.istore 10, 2) := by decide +kernel
theorem dL_law_198 : decode cL_law 198 = .ok (.iload 10, 2) := by decide +kernel
theorem dL_law_200 : decode cL_law 200 = .ok (.ifCond .ne 17, 3) := by decide +kernel
theorem dL_law_203 : decode cL_law 203 = .ok (.iconst 1, 1) := by decide +kernel
theorem dL_law_204 : decode cL_law 204 = .ok (.iload 5, 2) := by decide +kernel
theorem dL_law_206 : decode cL_law 206 = .ok (.iconst 5, 1) := by decide +kernel
theorem dL_law_207 : decode cL_law 207 = .ok (.ishr, 1) := by decide +kernel
theorem dL_law_208 : decode cL_law 208 = .ok (.bipush 30, 2) := by decide +kernel
theorem dL_law_210 : decode cL_law 210 = .ok (.invokestatic 9, 3) := by decide +kernel
theorem dL_law_213 : decode cL_law 213 = .ok (.iadd, 1) := by decide +kernel
theorem dL_law_214 : decode cL_law 214 = .ok (.goto 31, 3) := by decide +kernel
theorem dL_law_217 : decode cL_law 217 = .ok (.iload 10, 2) := by decide +kernel
theorem dL_law_219 : decode cL_law 219 = .ok (.iconst 1, 1) := by decide +kernel
theorem dL_law_220 : decode cL_law 220 = .ok (.if_icmp .ne 15, 3) := by decide +kernel
theorem dL_law_223 : decode cL_law 223 = .ok (.iload 5, 2) := by decide +kernel
theorem dL_law_225 : decode cL_law 225 = .ok (.iconst 5, 1) := by decide +kernel
theorem dL_law_226 : decode cL_law 226 = .ok (.ishr, 1) := by decide +kernel
theorem dL_law_227 : decode cL_law 227 = .ok (.bipush 10, 2) := by decide +kernel
theorem dL_law_229 : decode cL_law 229 = .ok (.invokestatic 9, 3) := by decide +kernel
theorem dL_law_232 : decode cL_law 232 = .ok (.goto 13, 3) := by decide +kernel
theorem dL_law_235 : decode cL_law 235 = .ok (.iconst 1, 1) := by decide +kernel
theorem dL_law_236 : decode cL_law 236 = .ok (.iload 5, 2) := by decide +kernel
theorem dL_law_238 : decode cL_law 238 = .ok (.iconst 5, 1) := by decide +kernel
theorem dL_law_239 : decode cL_law 239 = .ok (.ishr, 1) := by decide +kernel
theorem dL_law_240 : decode cL_law 240 = .ok (.iconst 3, 1) := by decide +kernel
theorem dL_law_241 : decode cL_law 241 = .ok (.invokestatic 9, 3) := by decide +kernel
theorem dL_law_244 : decode cL_law 244 = .ok (.iadd, 1) := by decide +kernel
theorem dL_law_245 : decode cL_law 245 = .ok (.istore 11, 2) := by decide +kernel
theorem dL_law_247 : decode cL_law 247 = .ok (.aload_n 1, 1) := by decide +kernel
theorem dL_law_248 : decode cL_law 248 = .ok (.iload 7, 2) := by decide +kernel
theorem dL_law_250 : decode cL_law 250 = .ok (.iload 10, 2) := by decide +kernel
theorem dL_law_252 : decode cL_law 252 = .ok (.iload 11, 2) := by decide +kernel
theorem dL_law_254 : decode cL_law 254 = .ok (.iload 10, 2) := by decide +kernel
theorem dL_law_256 : decode cL_law 256 = .ok (.iconst 1, 1) := by decide +kernel
theorem dL_law_257 : decode cL_law 257 = .ok (.if_icmp .ne 18, 3) := by decide +kernel
theorem dL_law_260 : decode cL_law 260 = .ok (.iconst 1, 1) := by decide +kernel
theorem dL_law_261 : decode cL_law 261 = .ok (.iload 5, 2) := by decide +kernel
theorem dL_law_263 : decode cL_law 263 = .ok (.bipush 6, 2) := by decide +kernel
theorem dL_law_265 : decode cL_law 265 = .ok (.ishr, 1) := by decide +kernel
theorem dL_law_266 : decode cL_law 266 = .ok (.bipush 10, 2) := by decide +kernel
theorem dL_law_268 : decode cL_law 268 = .ok (.invokestatic 9, 3) := by decide +kernel
theorem dL_law_271 : decode cL_law 271 = .ok (.iadd, 1) := by decide +kernel
theorem dL_law_272 : decode cL_law 272 = .ok (.goto 4, 3) := by decide +kernel
theorem dL_law_275 : decode cL_law 275 = .ok (.iconst 0, 1) := by decide +kernel
theorem dL_law_276 : decode cL_law 276 = .ok (.invokestatic 39, 3) := by decide +kernel
theorem dL_law_279 : decode cL_law 279 = .ok (.istore 12, 2) := by decide +kernel
theorem dL_law_281 : decode cL_law 281 = .ok (.iload 12, 2) := by decide +kernel
theorem dL_law_283 : decode cL_law 283 = .ok (.ifCond .ge 7, 3) := by decide +kernel
theorem dL_law_286 : decode cL_law 286 = .ok (.iconst 1, 1) := by decide +kernel
theorem dL_law_287 : decode cL_law 287 = .ok (.goto 4, 3) := by decide +kernel
theorem dL_law_290 : decode cL_law 290 = .ok (.iconst 0, 1) := by decide +kernel
theorem dL_law_291 : decode cL_law 291 = .ok (.iload 8, 2) := by decide +kernel
theorem dL_law_293 : decode cL_law 293 = .ok (.ifCond .lt 7, 3) := by decide +kernel
theorem dL_law_296 : decode cL_law 296 = .ok (.iconst 1, 1) := by decide +kernel
theorem dL_law_297 : decode cL_law 297 = .ok (.goto 4, 3) := by decide +kernel
theorem dL_law_300 : decode cL_law 300 = .ok (.iconst 0, 1) := by decide +kernel
theorem dL_law_301 : decode cL_law 301 = .ok (.if_icmp .ne 49, 3) := by decide +kernel
theorem dL_law_304 : decode cL_law 304 = .ok (.iload 12, 2) := by decide +kernel
theorem dL_law_306 : decode cL_law 306 = .ok (.iconst 1, 1) := by decide +kernel
theorem dL_law_307 : decode cL_law 307 = .ok (.if_icmp .ne 27, 3) := by decide +kernel
theorem dL_law_310 : decode cL_law 310 = .ok (.aload_n 1, 1) := by decide +kernel
theorem dL_law_311 : decode cL_law 311 = .ok (.iload 7, 2) := by decide +kernel
theorem dL_law_313 : decode cL_law 313 = .ok (.iconst 2, 1) := by decide +kernel
theorem dL_law_314 : decode cL_law 314 = .ok (.invokevirtual 36, 3) := by decide +kernel
theorem dL_law_317 : decode cL_law 317 = .ok (.iload 10, 2) := by decide +kernel
theorem dL_law_319 : decode cL_law 319 = .ok (.if_icmp .ne 31, 3) := by decide +kernel
theorem dL_law_322 : decode cL_law 322 = .ok (.aload_n 1, 1) := by decide +kernel
theorem dL_law_323 : decode cL_law 323 = .ok (.iload 7, 2) := by decide +kernel
theorem dL_law_325 : decode cL_law 325 = .ok (.iconst 3, 1) := by decide +kernel
theorem dL_law_326 : decode cL_law 326 = .ok (.invokevirtual 36, 3) := by decide +kernel
theorem dL_law_329 : decode cL_law 329 = .ok (.iload 11, 2) := by decide +kernel
theorem dL_law_331 : decode cL_law 331 = .ok (.if_icmp .ne 19, 3) := by decide +kernel
theorem dL_law_334 : decode cL_law 334 = .ok (.iload 12, 2) := by decide +kernel
theorem dL_law_336 : decode cL_law 336 = .ok (.ifCond .ne 16, 3) := by decide +kernel
theorem dL_law_339 : decode cL_law 339 = .ok (.aload_n 1, 1) := by decide +kernel
theorem dL_law_340 : decode cL_law 340 = .ok (.iload 7, 2) := by decide +kernel
theorem dL_law_342 : decode cL_law 342 = .ok (.iconst 2, 1) := by decide +kernel
theorem dL_law_343 : decode cL_law 343 = .ok (.invokevirtual 36, 3) := by decide +kernel
theorem dL_law_346 : decode cL_law 346 = .ok (.iconst (-1), 1) := by decide +kernel
theorem dL_law_347 : decode cL_law 347 = .ok (.if_icmp .eq 5, 3) := by decide +kernel
theorem dL_law_350 : decode cL_law 350 = .ok (.iconst 0, 1) := by decide +kernel
theorem dL_law_351 : decode cL_law 351 = .ok (.ireturn, 1) := by decide +kernel
theorem dL_law_352 : decode cL_law 352 = .ok (.iload_n 2, 1) := by decide +kernel
theorem dL_law_353 : decode cL_law 353 = .ok (.iload 12, 2) := by decide +kernel
theorem dL_law_355 : decode cL_law 355 = .ok (.ifCond .ge 7, 3) := by decide +kernel
theorem dL_law_358 : decode cL_law 358 = .ok (.iconst 0, 1) := by decide +kernel
theorem dL_law_359 : decode cL_law 359 = .ok (.goto 4, 3) := by decide +kernel
theorem dL_law_362 : decode cL_law 362 = .ok (.iconst 1, 1) := by decide +kernel
theorem dL_law_363 : decode cL_law 363 = .ok (.iadd, 1) := by decide +kernel
theorem dL_law_364 : decode cL_law 364 = .ok (.istore_n 2, 1) := by decide +kernel
theorem dL_law_365 : decode cL_law 365 = .ok (.iload_n 3, 1) := by decide +kernel
theorem dL_law_366 : decode cL_law 366 = .ok (.iload 12, 2) := by decide +kernel
theorem dL_law_368 : decode cL_law 368 = .ok (.iconst 1, 1) := by decide +kernel
theorem dL_law_369 : decode cL_law 369 = .ok (.if_icmp .ne 7, 3) := by decide +kernel
theorem dL_law_372 : decode cL_law 372 = .ok (.iconst 1, 1) := by decide +kernel
theorem dL_law_373 : decode cL_law 373 = .ok (.goto 4, 3) := by decide +kernel
theorem dL_law_376 : decode cL_law 376 = .ok (.iconst 0, 1) := by decide +kernel
theorem dL_law_377 : decode cL_law 377 = .ok (.iadd, 1) := by decide +kernel
theorem dL_law_378 : decode cL_law 378 = .ok (.istore_n 3, 1) := by decide +kernel
theorem dL_law_379 : decode cL_law 379 = .ok (.goto 373, 3) := by decide +kernel
theorem dL_law_382 : decode cL_law 382 = .ok (.iload 8, 2) := by decide +kernel
theorem dL_law_384 : decode cL_law 384 = .ok (.ifCond .ge 368, 3) := by decide +kernel
theorem dL_law_387 : decode cL_law 387 = .ok (.aload_n 1, 1) := by decide +kernel
theorem dL_law_388 : decode cL_law 388 = .ok (.iload 7, 2) := by decide +kernel
theorem dL_law_390 : decode cL_law 390 = .ok (.invokevirtual 43, 3) := by decide +kernel
theorem dL_law_393 : decode cL_law 393 = .ok (.aload_n 1, 1) := by decide +kernel
theorem dL_law_394 : decode cL_law 394 = .ok (.iload 7, 2) := by decide +kernel
theorem dL_law_396 : decode cL_law 396 = .ok (.iconst 2, 1) := by decide +kernel
theorem dL_law_397 : decode cL_law 397 = .ok (.invokevirtual 36, 3) := by decide +kernel
theorem dL_law_400 : decode cL_law 400 = .ok (.if_icmp .eq 352, 3) := by decide +kernel
theorem dL_law_403 : decode cL_law 403 = .ok (.iconst 0, 1) := by decide +kernel
theorem dL_law_404 : decode cL_law 404 = .ok (.ireturn, 1) := by decide +kernel
theorem dL_law_405 : decode cL_law 405 = .ok (.iload 5, 2) := by decide +kernel
theorem dL_law_407 : decode cL_law 407 = .ok (.iconst 3, 1) := by decide +kernel
theorem dL_law_408 : decode cL_law 408 = .ok (.ishr, 1) := by decide +kernel
theorem dL_law_409 : decode cL_law 409 = .ok (.iconst 4, 1) := by decide +kernel
theorem dL_law_410 : decode cL_law 410 = .ok (.invokestatic 9, 3) := by decide +kernel
theorem dL_law_413 : decode cL_law 413 = .ok (.istore 10, 2) := by decide +kernel
theorem dL_law_415 : decode cL_law 415 = .ok (.aload_n 1, 1) := by decide +kernel
theorem dL_law_416 : decode cL_law 416 = .ok (.iconst 2, 1) := by decide +kernel
theorem dL_law_417 : decode cL_law 417 = .ok (.iload 10, 2) := by decide +kernel
theorem dL_law_419 : decode cL_law 419 = .ok (.iadd, 1) := by decide +kernel
theorem dL_law_420 : decode cL_law 420 = .ok (.invokevirtual 33, 3) := by decide +kernel
theorem dL_law_423 : decode cL_law 423 = .ok (.istore 11, 2) := by decide +kernel
theorem dL_law_425 : decode cL_law 425 = .ok (.aload_n 1, 1) := by decide +kernel
theorem dL_law_426 : decode cL_law 426 = .ok (.iload 10, 2) := by decide +kernel
theorem dL_law_428 : decode cL_law 428 = .ok (.invokevirtual 46, 3) := by decide +kernel
theorem dL_law_431 : decode cL_law 431 = .ok (.iload 11, 2) := by decide +kernel
theorem dL_law_433 : decode cL_law 433 = .ok (.if_icmp .ne 28, 3) := by decide +kernel
theorem dL_law_436 : decode cL_law 436 = .ok (.aload_n 1, 1) := by decide +kernel
theorem dL_law_437 : decode cL_law 437 = .ok (.iconst 2, 1) := by decide +kernel
theorem dL_law_438 : decode cL_law 438 = .ok (.iload 10, 2) := by decide +kernel
theorem dL_law_440 : decode cL_law 440 = .ok (.iadd, 1) := by decide +kernel
theorem dL_law_441 : decode cL_law 441 = .ok (.invokevirtual 33, 3) := by decide +kernel
theorem dL_law_444 : decode cL_law 444 = .ok (.ifCond .ne 17, 3) := by decide +kernel
theorem dL_law_447 : decode cL_law 447 = .ok (.aload_n 1, 1) := by decide +kernel
theorem dL_law_448 : decode cL_law 448 = .ok (.bipush 9, 2) := by decide +kernel
theorem dL_law_450 : decode cL_law 450 = .ok (.invokevirtual 33, 3) := by decide +kernel
theorem dL_law_453 : decode cL_law 453 = .ok (.iload 9, 2) := by decide +kernel
theorem dL_law_455 : decode cL_law 455 = .ok (.iload 11, 2) := by decide +kernel
theorem dL_law_457 : decode cL_law 457 = .ok (.iadd, 1) := by decide +kernel
theorem dL_law_458 : decode cL_law 458 = .ok (.if_icmp .eq 294, 3) := by decide +kernel
theorem dL_law_461 : decode cL_law 461 = .ok (.iconst 0, 1) := by decide +kernel
theorem dL_law_462 : decode cL_law 462 = .ok (.ireturn, 1) := by decide +kernel
theorem dL_law_463 : decode cL_law 463 = .ok (.iload 5, 2) := by decide +kernel
theorem dL_law_465 : decode cL_law 465 = .ok (.iconst 3, 1) := by decide +kernel
theorem dL_law_466 : decode cL_law 466 = .ok (.ishr, 1) := by decide +kernel
theorem dL_law_467 : decode cL_law 467 = .ok (.iconst 2, 1) := by decide +kernel
theorem dL_law_468 : decode cL_law 468 = .ok (.aload_n 1, 1) := by decide +kernel
theorem dL_law_469 : decode cL_law 469 = .ok (.iload 7, 2) := by decide +kernel
theorem dL_law_471 : decode cL_law 471 = .ok (.iconst 0, 1) := by decide +kernel
theorem dL_law_472 : decode cL_law 472 = .ok (.invokevirtual 36, 3) := by decide +kernel
theorem dL_law_475 : decode cL_law 475 = .ok (.imul, 1) := by decide +kernel
theorem dL_law_476 : decode cL_law 476 = .ok (.invokestatic 9, 3) := by decide +kernel
theorem dL_law_479 : decode cL_law 479 = .ok (.istore 10, 2) := by decide +kernel
theorem dL_law_481 : decode cL_law 481 = .ok (.aload_n 1, 1) := by decide +kernel
theorem dL_law_482 : decode cL_law 482 = .ok (.iload 7, 2) := by decide +kernel
theorem dL_law_484 : decode cL_law 484 = .ok (.iload 10, 2) := by decide +kernel
theorem dL_law_486 : decode cL_law 486 = .ok (.iconst 2, 1) := by decide +kernel
theorem dL_law_487 : decode cL_law 487 = .ok (.idiv, 1) := by decide +kernel
theorem dL_law_488 : decode cL_law 488 = .ok (.iload 10, 2) := by decide +kernel
theorem dL_law_490 : decode cL_law 490 = .ok (.iconst 2, 1) := by decide +kernel
theorem dL_law_491 : decode cL_law 491 = .ok (.irem, 1) := by decide +kernel
theorem dL_law_492 : decode cL_law 492 = .ok (.iconst 0, 1) := by decide +kernel
theorem dL_law_493 : decode cL_law 493 = .ok (.invokevirtual 49, 3) := by decide +kernel
theorem dL_law_496 : decode cL_law 496 = .ok (.ifCond .ge 7, 3) := by decide +kernel
theorem dL_law_499 : decode cL_law 499 = .ok (.iconst 1, 1) := by decide +kernel
theorem dL_law_500 : decode cL_law 500 = .ok (.goto 4, 3) := by decide +kernel
theorem dL_law_503 : decode cL_law 503 = .ok (.iconst 0, 1) := by decide +kernel
theorem dL_law_504 : decode cL_law 504 = .ok (.istore 11, 2) := by decide +kernel
theorem dL_law_506 : decode cL_law 506 = .ok (.iload 5, 2) := by decide +kernel
theorem dL_law_508 : decode cL_law 508 = .ok (.iconst 5, 1) := by decide +kernel
theorem dL_law_509 : decode cL_law 509 = .ok (.ishr, 1) := by decide +kernel
theorem dL_law_510 : decode cL_law 510 = .ok (.aload_n 1, 1) := by decide +kernel
theorem dL_law_511 : decode cL_law 511 = .ok (.iload 7, 2) := by decide +kernel
theorem dL_law_513 : decode cL_law 513 = .ok (.iconst 0, 1) := by decide +kernel
theorem dL_law_514 : decode cL_law 514 = .ok (.invokevirtual 36, 3) := by decide +kernel
theorem dL_law_517 : decode cL_law 517 = .ok (.iconst 1, 1) := by decide +kernel
theorem dL_law_518 : decode cL_law 518 = .ok (.iadd, 1) := by decide +kernel
theorem dL_law_519 : decode cL_law 519 = .ok (.invokestatic 9, 3) := by decide +kernel
theorem dL_law_522 : decode cL_law 522 = .ok (.istore 12, 2) := by decide +kernel
theorem dL_law_524 : decode cL_law 524 = .ok (.iload 5, 2) := by decide +kernel
theorem dL_law_526 : decode cL_law 526 = .ok (.bipush 6, 2) := by decide +kernel
theorem dL_law_528 : decode cL_law 528 = .ok (.ishr, 1) := by decide +kernel
theorem dL_law_529 : decode cL_law 529 = .ok (.iconst 2, 1) := by decide +kernel
theorem dL_law_530 : decode cL_law 530 = .ok (.invokestatic 9, 3) := by decide +kernel
theorem dL_law_533 : decode cL_law 533 = .ok (.istore 13, 2) := by decide +kernel
theorem dL_law_535 : decode cL_law 535 = .ok (.iload 11, 2) := by decide +kernel
theorem dL_law_537 : decode cL_law 537 = .ok (.ifCond .eq 26, 3) := by decide +kernel
theorem dL_law_540 : decode cL_law 540 = .ok (.aload_n 1, 1) := by decide +kernel
theorem dL_law_541 : decode cL_law 541 = .ok (.iload 7, 2) := by decide +kernel
theorem dL_law_543 : decode cL_law 543 = .ok (.iload 10, 2) := by decide +kernel
theorem dL_law_545 : decode cL_law 545 = .ok (.iconst 2, 1) := by decide +kernel
theorem dL_law_546 : decode cL_law 546 = .ok (.idiv, 1) := by decide +kernel
theorem dL_law_547 : decode cL_law 547 = .ok (.iload 10, 2) := by decide +kernel
theorem dL_law_549 : decode cL_law 549 = .ok (.iconst 2, 1) := by decide +kernel
theorem dL_law_550 : decode cL_law 550 = .ok (.irem, 1) := by decide +kernel
theorem dL_law_551 : decode cL_law 551 = .ok (.iload 13, 2) := by decide +kernel
theorem dL_law_553 : decode cL_law 553 = .ok (.iconst 1, 1) := by decide +kernel
theorem dL_law_554 : decode cL_law 554 = .ok (.iload 12, 2) := by decide +kernel
theorem dL_law_556 : decode cL_law 556 = .ok (.invokevirtual 21, 3) := by decide +kernel
theorem dL_law_559 : decode cL_law 559 = .ok (.pop, 1) := by decide +kernel
theorem dL_law_560 : decode cL_law 560 = .ok (.goto 23, 3) := by decide +kernel
theorem dL_law_563 : decode cL_law 563 = .ok (.aload_n 1, 1) := by decide +kernel
theorem dL_law_564 : decode cL_law 564 = .ok (.iload 7, 2) := by decide +kernel
theorem dL_law_566 : decode cL_law 566 = .ok (.iload 10, 2) := by decide +kernel
theorem dL_law_568 : decode cL_law 568 = .ok (.iconst 2, 1) := by decide +kernel
theorem dL_law_569 : decode cL_law 569 = .ok (.idiv, 1) := by decide +kernel
theorem dL_law_570 : decode cL_law 570 = .ok (.iload 10, 2) := by decide +kernel
theorem dL_law_572 : decode cL_law 572 = .ok (.iconst 2, 1) := by decide +kernel
theorem dL_law_573 : decode cL_law 573 = .ok (.irem, 1) := by decide +kernel
theorem dL_law_574 : decode cL_law 574 = .ok (.iload 13, 2) := by decide +kernel
theorem dL_law_576 : decode cL_law 576 = .ok (.iconst (-1), 1) := by decide +kernel
theorem dL_law_577 : decode cL_law 577 = .ok (.iload 12, 2) := by decide +kernel
theorem dL_law_579 : decode cL_law 579 = .ok (.invokevirtual 52, 3) := by decide +kernel
theorem dL_law_582 : decode cL_law 582 = .ok (.pop, 1) := by decide +kernel
theorem dL_law_583 : decode cL_law 583 = .ok (.aload_n 1, 1) := by decide +kernel
theorem dL_law_584 : decode cL_law 584 = .ok (.iload 7, 2) := by decide +kernel
theorem dL_law_586 : decode cL_law 586 = .ok (.iconst 2, 1) := by decide +kernel
theorem dL_law_587 : decode cL_law 587 = .ok (.invokevirtual 36, 3) := by decide +kernel
theorem dL_law_590 : decode cL_law 590 = .ok (.iconst (-1), 1) := by decide +kernel
theorem dL_law_591 : decode cL_law 591 = .ok (.if_icmp .ne 65, 3) := by decide +kernel
theorem dL_law_594 : decode cL_law 594 = .ok (.aload_n 1, 1) := by decide +kernel
theorem dL_law_595 : decode cL_law 595 = .ok (.bipush 9, 2) := by decide +kernel
theorem dL_law_597 : decode cL_law 597 = .ok (.invokevirtual 33, 3) := by decide +kernel
theorem dL_law_600 : decode cL_law 600 = .ok (.iload 9, 2) := by decide +kernel
theorem dL_law_602 : decode cL_law 602 = .ok (.iload 8, 2) := by decide +kernel
theorem dL_law_604 : decode cL_law 604 = .ok (.ifCond .ge 7, 3) := by decide +kernel
theorem dL_law_607 : decode cL_law 607 = .ok (.iconst 0, 1) := by decide +kernel
theorem dL_law_608 : decode cL_law 608 = .ok (.goto 4, 3) := by decide +kernel
theorem dL_law_611 : decode cL_law 611 = .ok (.iconst 1, 1) := by decide +kernel
theorem dL_law_612 : decode cL_law 612 = .ok (.iadd, 1) := by decide +kernel
theorem dL_law_613 : decode cL_law 613 = .ok (.if_icmp .ne 43, 3) := by decide +kernel
theorem dL_law_616 : decode cL_law 616 = .ok (.aload_n 1, 1) := by decide +kernel
theorem dL_law_617 : decode cL_law 617 = .ok (.iload 7, 2) := by decide +kernel
theorem dL_law_619 : decode cL_law 619 = .ok (.iload 10, 2) := by decide +kernel
theorem dL_law_621 : decode cL_law 621 = .ok (.iconst 2, 1) := by decide +kernel
theorem dL_law_622 : decode cL_law 622 = .ok (.idiv, 1) := by decide +kernel
theorem dL_law_623 : decode cL_law 623 = .ok (.iload 10, 2) := by decide +kernel
theorem dL_law_625 : decode cL_law 625 = .ok (.iconst 2, 1) := by decide +kernel
theorem dL_law_626 : decode cL_law 626 = .ok (.irem, 1) := by decide +kernel
theorem dL_law_627 : decode cL_law 627 = .ok (.iconst 0, 1) := by decide +kernel
theorem dL_law_628 : decode cL_law 628 = .ok (.invokevirtual 49, 3) := by decide +kernel
theorem dL_law_631 : decode cL_law 631 = .ok (.iload 13, 2) := by decide +kernel
theorem dL_law_633 : decode cL_law 633 = .ok (.if_icmp .ne 23, 3) := by decide +kernel
theorem dL_law_636 : decode cL_law 636 = .ok (.aload_n 1, 1) := by decide +kernel
theorem dL_law_637 : decode cL_law 637 = .ok (.iload 7, 2) := by decide +kernel
theorem dL_law_639 : decode cL_law 639 = .ok (.iload 10, 2) := by decide +kernel
theorem dL_law_641 : decode cL_law 641 = .ok (.iconst 2, 1) := by decide +kernel
theorem dL_law_642 : decode cL_law 642 = .ok (.idiv, 1) := by decide +kernel
theorem dL_law_643 : decode cL_law 643 = .ok (.iload 10, 2) := by decide +kernel
theorem dL_law_645 : decode cL_law 645 = .ok (.iconst 2, 1) := by decide +kernel
theorem dL_law_646 : decode cL_law 646 = .ok (.irem, 1) := by decide +kernel
theorem dL_law_647 : decode cL_law 647 = .ok (.iconst 2, 1) := by decide +kernel
theorem dL_law_648 : decode cL_law 648 = .ok (.invokevirtual 49, 3) := by decide +kernel
theorem dL_law_651 : decode cL_law 651 = .ok (.iload 12, 2) := by decide +kernel
theorem dL_law_653 : decode cL_law 653 = .ok (.if_icmp .eq 99, 3) := by decide +kernel
theorem dL_law_656 : decode cL_law 656 = .ok (.iconst 0, 1) := by decide +kernel
theorem dL_law_657 : decode cL_law 657 = .ok (.ireturn, 1) := by decide +kernel
theorem dL_law_658 : decode cL_law 658 = .ok (.aload_n 1, 1) := by decide +kernel
theorem dL_law_659 : decode cL_law 659 = .ok (.iload 7, 2) := by decide +kernel
theorem dL_law_661 : decode cL_law 661 = .ok (.iconst 5, 1) := by decide +kernel
theorem dL_law_662 : decode cL_law 662 = .ok (.invokevirtual 36, 3) := by decide +kernel
theorem dL_law_665 : decode cL_law 665 = .ok (.istore 10, 2) := by decide +kernel
theorem dL_law_667 : decode cL_law 667 = .ok (.iload 6, 2) := by decide +kernel
theorem dL_law_669 : decode cL_law 669 = .ok (.bipush 12, 2) := by decide +kernel
theorem dL_law_671 : decode cL_law 671 = .ok (.if_icmp .eq 81, 3) := by decide +kernel
theorem dL_law_674 : decode cL_law 674 = .ok (.iload 10, 2) := by decide +kernel
theorem dL_law_676 : decode cL_law 676 = .ok (.ifCond .ne 6, 3) := by decide +kernel
theorem dL_law_679 : decode cL_law 679 = .ok (.goto 73, 3) := by decide +kernel
theorem dL_law_682 : decode cL_law 682 = .ok (.aload_n 1, 1) := by decide +kernel
theorem dL_law_683 : decode cL_law 683 = .ok (.iload 7, 2) := by decide +kernel
theorem dL_law_685 : decode cL_law 685 = .ok (.iload 5, 2) := by decide +kernel
theorem dL_law_687 : decode cL_law 687 = .ok (.iconst 3, 1) := by decide +kernel
theorem dL_law_688 : decode cL_law 688 = .ok (.ishr, 1) := by decide +kernel
theorem dL_law_689 : decode cL_law 689 = .ok (.iload 10, 2) := by decide +kernel
theorem dL_law_691 : decode cL_law 691 = .ok (.invokestatic 9, 3) := by decide +kernel
theorem dL_law_694 : decode cL_law 694 = .ok (.invokevirtual 56, 3) := by decide +kernel
theorem dL_law_697 : decode cL_law 697 = .ok (.iload 6, 2) := by decide +kernel
theorem dL_law_699 : decode cL_law 699 = .ok (.if_icmp .ne 31, 3) := by decide +kernel
theorem dL_law_702 : decode cL_law 702 = .ok (.aload_n 1, 1) := by decide +kernel
theorem dL_law_703 : decode cL_law 703 = .ok (.iload 6, 2) := by decide +kernel
theorem dL_law_705 : decode cL_law 705 = .ok (.iconst 2, 1) := by decide +kernel
theorem dL_law_706 : decode cL_law 706 = .ok (.invokevirtual 36, 3) := by decide +kernel
theorem dL_law_709 : decode cL_law 709 = .ok (.iconst (-1), 1) := by decide +kernel
theorem dL_law_710 : decode cL_law 710 = .ok (.if_icmp .ne 20, 3) := by decide +kernel
theorem dL_law_713 : decode cL_law 713 = .ok (.aload_n 1, 1) := by decide +kernel
theorem dL_law_714 : decode cL_law 714 = .ok (.iload 6, 2) := by decide +kernel
theorem dL_law_716 : decode cL_law 716 = .ok (.iconst 0, 1) := by decide +kernel
theorem dL_law_717 : decode cL_law 717 = .ok (.invokevirtual 36, 3) := by decide +kernel
theorem dL_law_720 : decode cL_law 720 = .ok (.aload_n 1, 1) := by decide +kernel
theorem dL_law_721 : decode cL_law 721 = .ok (.iload 7, 2) := by decide +kernel
theorem dL_law_723 : decode cL_law 723 = .ok (.iconst 0, 1) := by decide +kernel
theorem dL_law_724 : decode cL_law 724 = .ok (.invokevirtual 36, 3) := by decide +kernel
theorem dL_law_727 : decode cL_law 727 = .ok (.if_icmp .eq 25, 3) := by decide +kernel
theorem dL_law_730 : decode cL_law 730 = .ok (.iconst 0, 1) := by decide +kernel
theorem dL_law_731 : decode cL_law 731 = .ok (.ireturn, 1) := by decide +kernel
theorem dL_law_732 : decode cL_law 732 = .ok (.aload_n 1, 1) := by decide +kernel
theorem dL_law_733 : decode cL_law 733 = .ok (.iload 7, 2) := by decide +kernel
theorem dL_law_735 : decode cL_law 735 = .ok (.iload 5, 2) := by decide +kernel
theorem dL_law_737 : decode cL_law 737 = .ok (.iconst 3, 1) := by decide +kernel
theorem dL_law_738 : decode cL_law 738 = .ok (.ishr, 1) := by decide +kernel
theorem dL_law_739 : decode cL_law 739 = .ok (.bipush 120, 2) := by decide +kernel
theorem dL_law_741 : decode cL_law 741 = .ok (.invokestatic 9, 3) := by decide +kernel
theorem dL_law_744 : decode cL_law 744 = .ok (.invokestatic 59, 3) := by decide +kernel
theorem dL_law_747 : decode cL_law 747 = .ok (.ifCond .ne 5, 3) := by decide +kernel
theorem dL_law_750 : decode cL_law 750 = .ok (.iconst 0, 1) := by decide +kernel
theorem dL_law_751 : decode cL_law 751 = .ok (.ireturn, 1) := by decide +kernel
theorem dL_law_752 : decode cL_law 752 = .ok (.aload_n 1, 1) := by decide +kernel
theorem dL_law_753 : decode cL_law 753 = .ok (.bipush 7, 2) := by decide +kernel
theorem dL_law_755 : decode cL_law 755 = .ok (.invokevirtual 33, 3) := by decide +kernel
theorem dL_law_758 : decode cL_law 758 = .ok (.iload_n 2, 1) := by decide +kernel
theorem dL_law_759 : decode cL_law 759 = .ok (.if_icmp .ne 28, 3) := by decide +kernel
theorem dL_law_762 : decode cL_law 762 = .ok (.aload_n 1, 1) := by decide +kernel
theorem dL_law_763 : decode cL_law 763 = .ok (.bipush 8, 2) := by decide +kernel
theorem dL_law_765 : decode cL_law 765 = .ok (.invokevirtual 33, 3) := by decide +kernel
theorem dL_law_768 : decode cL_law 768 = .ok (.iload_n 3, 1) := by decide +kernel
theorem dL_law_769 : decode cL_law 769 = .ok (.if_icmp .ne 18, 3) := by decide +kernel
theorem dL_law_772 : decode cL_law 772 = .ok (.iload 4, 2) := by decide +kernel
theorem dL_law_774 : decode cL_law 774 = .ok (.iconst 5, 1) := by decide +kernel
theorem dL_law_775 : decode cL_law 775 = .ok (.irem, 1) := by decide +kernel
theorem dL_law_776 : decode cL_law 776 = .ok (.iconst 4, 1) := by decide +kernel
theorem dL_law_777 : decode cL_law 777 = .ok (.if_icmp .ne 12, 3) := by decide +kernel
theorem dL_law_780 : decode cL_law 780 = .ok (.aload_n 1, 1) := by decide +kernel
theorem dL_law_781 : decode cL_law 781 = .ok (.invokestatic 63, 3) := by decide +kernel
theorem dL_law_784 : decode cL_law 784 = .ok (.ifCond .ne 5, 3) := by decide +kernel
theorem dL_law_787 : decode cL_law 787 = .ok (.iconst 0, 1) := by decide +kernel
theorem dL_law_788 : decode cL_law 788 = .ok (.ireturn, 1) := by decide +kernel
theorem dL_law_789 : decode cL_law 789 = .ok (.iinc 4 1, 3) := by decide +kernel
theorem dL_law_792 : decode cL_law 792 = .ok (.goto (-730), 3) := by decide +kernel
theorem dL_law_795 : decode cL_law 795 = .ok (.aload_n 1, 1) := by decide +kernel
theorem dL_law_796 : decode cL_law 796 = .ok (.invokevirtual 67, 3) := by decide +kernel
theorem dL_law_799 : decode cL_law 799 = .ok (.lstore 4, 2) := by decide +kernel
theorem dL_law_801 : decode cL_law 801 = .ok (.aload_n 1, 1) := by decide +kernel
theorem dL_law_802 : decode cL_law 802 = .ok (.invokestatic 63, 3) := by decide +kernel
theorem dL_law_805 : decode cL_law 805 = .ok (.ifCond .eq 24, 3) := by decide +kernel
theorem dL_law_808 : decode cL_law 808 = .ok (.aload_n 1, 1) := by decide +kernel
theorem dL_law_809 : decode cL_law 809 = .ok (.invokevirtual 67, 3) := by decide +kernel
theorem dL_law_812 : decode cL_law 812 = .ok (.lload 4, 2) := by decide +kernel
theorem dL_law_814 : decode cL_law 814 = .ok (.lcmp, 1) := by decide +kernel
theorem dL_law_815 : decode cL_law 815 = .ok (.ifCond .ne 14, 3) := by decide +kernel
theorem dL_law_818 : decode cL_law 818 = .ok (.aload_n 1, 1) := by decide +kernel
theorem dL_law_819 : decode cL_law 819 = .ok (.invokestatic 71, 3) := by decide +kernel
theorem dL_law_822 : decode cL_law 822 = .ok (.ifCond .eq 7, 3) := by decide +kernel
theorem dL_law_825 : decode cL_law 825 = .ok (.iconst 1, 1) := by decide +kernel
theorem dL_law_826 : decode cL_law 826 = .ok (.goto 4, 3) := by decide +kernel
theorem dL_law_829 : decode cL_law 829 = .ok (.iconst 0, 1) := by decide +kernel
theorem dL_law_830 : decode cL_law 830 = .ok (.ireturn, 1) := by decide +kernel
theorem dL_prove_0 : decode cL_prove 0 = .ok (.aload_n 0, 1) := by decide +kernel
theorem dL_prove_1 : decode cL_prove 1 = .ok (.iload_n 1, 1) := by decide +kernel
theorem dL_prove_2 : decode cL_prove 2 = .ok (.iload_n 2, 1) := by decide +kernel
theorem dL_prove_3 : decode cL_prove 3 = .ok (.iload_n 3, 1) := by decide +kernel
theorem dL_prove_4 : decode cL_prove 4 = .ok (.iload 4, 2) := by decide +kernel
theorem dL_prove_6 : decode cL_prove 6 = .ok (.invokevirtual 74, 3) := by decide +kernel
theorem dL_prove_9 : decode cL_prove 9 = .ok (.ifCond .eq 7, 3) := by decide +kernel
theorem dL_prove_12 : decode cL_prove 12 = .ok (.iconst 1, 1) := by decide +kernel
theorem dL_prove_13 : decode cL_prove 13 = .ok (.goto 4, 3) := by decide +kernel
theorem dL_prove_16 : decode cL_prove 16 = .ok (.iconst 0, 1) := by decide +kernel
theorem dL_prove_17 : decode cL_prove 17 = .ok (.ireturn, 1) := by decide +kernel
theorem dL_prove_18 : decode cL_prove 18 = .ok (.astore 5, 2) := by decide +kernel
theorem dL_prove_20 : decode cL_prove 20 = .ok (.iconst (-1), 1) := by decide +kernel
theorem dL_prove_21 : decode cL_prove 21 = .ok (.ireturn, 1) := by decide +kernel
theorem dL_isStep_0 : decode cL_isStep 0 = .ok (.aload_n 0, 1) := by decide +kernel
theorem dL_isStep_1 : decode cL_isStep 1 = .ok (.iload_n 1, 1) := by decide +kernel
theorem dL_isStep_2 : decode cL_isStep 2 = .ok (.iload_n 2, 1) := by decide +kernel
theorem dL_isStep_3 : decode cL_isStep 3 = .ok (.iconst 0, 1) := by decide +kernel
theorem dL_isStep_4 : decode cL_isStep 4 = .ok (.invokevirtual 79, 3) := by decide +kernel
theorem dL_isStep_7 : decode cL_isStep 7 = .ok (.istore_n 3, 1) := by decide +kernel
theorem dL_isStep_8 : decode cL_isStep 8 = .ok (.aload_n 0, 1) := by decide +kernel
theorem dL_isStep_9 : decode cL_isStep 9 = .ok (.iload_n 1, 1) := by decide +kernel
theorem dL_isStep_10 : decode cL_isStep 10 = .ok (.iload_n 2, 1) := by decide +kernel
theorem dL_isStep_11 : decode cL_isStep 11 = .ok (.iconst 1, 1) := by decide +kernel
theorem dL_isStep_12 : decode cL_isStep 12 = .ok (.invokevirtual 79, 3) := by decide +kernel
theorem dL_isStep_15 : decode cL_isStep 15 = .ok (.istore 4, 2) := by decide +kernel
theorem dL_isStep_17 : decode cL_isStep 17 = .ok (.aload_n 0, 1) := by decide +kernel
theorem dL_isStep_18 : decode cL_isStep 18 = .ok (.iload_n 1, 1) := by decide +kernel
theorem dL_isStep_19 : decode cL_isStep 19 = .ok (.iload_n 2, 1) := by decide +kernel
theorem dL_isStep_20 : decode cL_isStep 20 = .ok (.iconst 2, 1) := by decide +kernel
theorem dL_isStep_21 : decode cL_isStep 21 = .ok (.invokevirtual 79, 3) := by decide +kernel
theorem dL_isStep_24 : decode cL_isStep 24 = .ok (.istore 5, 2) := by decide +kernel
theorem dL_isStep_26 : decode cL_isStep 26 = .ok (.aload_n 0, 1) := by decide +kernel
theorem dL_isStep_27 : decode cL_isStep 27 = .ok (.iload_n 1, 1) := by decide +kernel
theorem dL_isStep_28 : decode cL_isStep 28 = .ok (.iload_n 2, 1) := by decide +kernel
theorem dL_isStep_29 : decode cL_isStep 29 = .ok (.iconst 1, 1) := by decide +kernel
theorem dL_isStep_30 : decode cL_isStep 30 = .ok (.iadd, 1) := by decide +kernel
theorem dL_isStep_31 : decode cL_isStep 31 = .ok (.iconst 2, 1) := by decide +kernel
theorem dL_isStep_32 : decode cL_isStep 32 = .ok (.invokevirtual 79, 3) := by decide +kernel
theorem dL_isStep_35 : decode cL_isStep 35 = .ok (.istore 6, 2) := by decide +kernel
theorem dL_isStep_37 : decode cL_isStep 37 = .ok (.aload_n 0, 1) := by decide +kernel
theorem dL_isStep_38 : decode cL_isStep 38 = .ok (.iload_n 1, 1) := by decide +kernel
theorem dL_isStep_39 : decode cL_isStep 39 = .ok (.iload_n 2, 1) := by decide +kernel
theorem dL_isStep_40 : decode cL_isStep 40 = .ok (.iload 5, 2) := by decide +kernel
theorem dL_isStep_42 : decode cL_isStep 42 = .ok (.invokevirtual 83, 3) := by decide +kernel
theorem dL_isStep_45 : decode cL_isStep 45 = .ok (.istore 7, 2) := by decide +kernel
theorem dL_isStep_47 : decode cL_isStep 47 = .ok (.iload_n 3, 1) := by decide +kernel
theorem dL_isStep_48 : decode cL_isStep 48 = .ok (.iload_n 2, 1) := by decide +kernel
theorem dL_isStep_49 : decode cL_isStep 49 = .ok (.if_icmp .ne 31, 3) := by decide +kernel
theorem dL_isStep_52 : decode cL_isStep 52 = .ok (.iload 4, 2) := by decide +kernel
theorem dL_isStep_54 : decode cL_isStep 54 = .ok (.aload_n 0, 1) := by decide +kernel
theorem dL_isStep_55 : decode cL_isStep 55 = .ok (.iload_n 1, 1) := by decide +kernel
theorem dL_isStep_56 : decode cL_isStep 56 = .ok (.iconst 0, 1) := by decide +kernel
theorem dL_isStep_57 : decode cL_isStep 57 = .ok (.invokevirtual 36, 3) := by decide +kernel
theorem dL_isStep_60 : decode cL_isStep 60 = .ok (.if_icmp .ge 20, 3) := by decide +kernel
theorem dL_isStep_63 : decode cL_isStep 63 = .ok (.aload_n 0, 1) := by decide +kernel
theorem dL_isStep_64 : decode cL_isStep 64 = .ok (.iload_n 1, 1) := by decide +kernel
theorem dL_isStep_65 : decode cL_isStep 65 = .ok (.iload 4, 2) := by decide +kernel
theorem dL_isStep_67 : decode cL_isStep 67 = .ok (.iload 7, 2) := by decide +kernel
theorem dL_isStep_69 : decode cL_isStep 69 = .ok (.iconst 0, 1) := by decide +kernel
theorem dL_isStep_70 : decode cL_isStep 70 = .ok (.invokevirtual 49, 3) := by decide +kernel
theorem dL_isStep_73 : decode cL_isStep 73 = .ok (.ifCond .lt 7, 3) := by decide +kernel
theorem dL_isStep_76 : decode cL_isStep 76 = .ok (.iconst 1, 1) := by decide +kernel
theorem dL_isStep_77 : decode cL_isStep 77 = .ok (.goto 4, 3) := by decide +kernel
theorem dL_isStep_80 : decode cL_isStep 80 = .ok (.iconst 0, 1) := by decide +kernel
theorem dL_isStep_81 : decode cL_isStep 81 = .ok (.istore 8, 2) := by decide +kernel
theorem dL_isStep_83 : decode cL_isStep 83 = .ok (.aload_n 0, 1) := by decide +kernel
theorem dL_isStep_84 : decode cL_isStep 84 = .ok (.iload_n 1, 1) := by decide +kernel
theorem dL_isStep_85 : decode cL_isStep 85 = .ok (.iload_n 2, 1) := by decide +kernel
theorem dL_isStep_86 : decode cL_isStep 86 = .ok (.iconst 1, 1) := by decide +kernel
theorem dL_isStep_87 : decode cL_isStep 87 = .ok (.iadd, 1) := by decide +kernel
theorem dL_isStep_88 : decode cL_isStep 88 = .ok (.iconst 0, 1) := by decide +kernel
theorem dL_isStep_89 : decode cL_isStep 89 = .ok (.invokevirtual 79, 3) := by decide +kernel
theorem dL_isStep_92 : decode cL_isStep 92 = .ok (.iload_n 3, 1) := by decide +kernel
theorem dL_isStep_93 : decode cL_isStep 93 = .ok (.iload 8, 2) := by decide +kernel
theorem dL_isStep_95 : decode cL_isStep 95 = .ok (.ifCond .eq 7, 3) := by decide +kernel
theorem dL_isStep_98 : decode cL_isStep 98 = .ok (.iconst 1, 1) := by decide +kernel
theorem dL_isStep_99 : decode cL_isStep 99 = .ok (.goto 4, 3) := by decide +kernel
theorem dL_isStep_102 : decode cL_isStep 102 = .ok (.iconst 0, 1) := by decide +kernel
theorem dL_isStep_103 : decode cL_isStep 103 = .ok (.iadd, 1) := by decide +kernel
theorem dL_isStep_104 : decode cL_isStep 104 = .ok (.if_icmp .eq 5, 3) := by decide +kernel
theorem dL_isStep_107 : decode cL_isStep 107 = .ok (.iconst 0, 1) := by decide +kernel
theorem dL_isStep_108 : decode cL_isStep 108 = .ok (.ireturn, 1) := by decide +kernel
theorem dL_isStep_109 : decode cL_isStep 109 = .ok (.iload 8, 2) := by decide +kernel
theorem dL_isStep_111 : decode cL_isStep 111 = .ok (.ifCond .ne 49, 3) := by decide +kernel
theorem dL_isStep_114 : decode cL_isStep 114 = .ok (.iload 6, 2) := by decide +kernel
theorem dL_isStep_116 : decode cL_isStep 116 = .ok (.iload 5, 2) := by decide +kernel
theorem dL_isStep_118 : decode cL_isStep 118 = .ok (.if_icmp .ne 40, 3) := by decide +kernel
theorem dL_isStep_121 : decode cL_isStep 121 = .ok (.aload_n 0, 1) := by decide +kernel
theorem dL_isStep_122 : decode cL_isStep 122 = .ok (.iload_n 1, 1) := by decide +kernel
theorem dL_isStep_123 : decode cL_isStep 123 = .ok (.iload_n 2, 1) := by decide +kernel
theorem dL_isStep_124 : decode cL_isStep 124 = .ok (.iconst 1, 1) := by decide +kernel
theorem dL_isStep_125 : decode cL_isStep 125 = .ok (.iadd, 1) := by decide +kernel
theorem dL_isStep_126 : decode cL_isStep 126 = .ok (.iconst 1, 1) := by decide +kernel
theorem dL_isStep_127 : decode cL_isStep 127 = .ok (.invokevirtual 79, 3) := by decide +kernel
theorem dL_isStep_130 : decode cL_isStep 130 = .ok (.iload 4, 2) := by decide +kernel
theorem dL_isStep_132 : decode cL_isStep 132 = .ok (.if_icmp .ne 26, 3) := by decide +kernel
theorem dL_isStep_135 : decode cL_isStep 135 = .ok (.aload_n 0, 1) := by decide +kernel
theorem dL_isStep_136 : decode cL_isStep 136 = .ok (.iload_n 1, 1) := by decide +kernel
theorem dL_isStep_137 : decode cL_isStep 137 = .ok (.iload_n 2, 1) := by decide +kernel
theorem dL_isStep_138 : decode cL_isStep 138 = .ok (.iconst 1, 1) := by decide +kernel
theorem dL_isStep_139 : decode cL_isStep 139 = .ok (.iadd, 1) := by decide +kernel
theorem dL_isStep_140 : decode cL_isStep 140 = .ok (.iconst 3, 1) := by decide +kernel
theorem dL_isStep_141 : decode cL_isStep 141 = .ok (.invokevirtual 79, 3) := by decide +kernel
theorem dL_isStep_144 : decode cL_isStep 144 = .ok (.aload_n 0, 1) := by decide +kernel
theorem dL_isStep_145 : decode cL_isStep 145 = .ok (.iload_n 1, 1) := by decide +kernel
theorem dL_isStep_146 : decode cL_isStep 146 = .ok (.iload_n 2, 1) := by decide +kernel
theorem dL_isStep_147 : decode cL_isStep 147 = .ok (.iconst 3, 1) := by decide +kernel
theorem dL_isStep_148 : decode cL_isStep 148 = .ok (.invokevirtual 79, 3) := by decide +kernel
theorem dL_isStep_151 : decode cL_isStep 151 = .ok (.if_icmp .ne 7, 3) := by decide +kernel
theorem dL_isStep_154 : decode cL_isStep 154 = .ok (.iconst 1, 1) := by decide +kernel
theorem dL_isStep_155 : decode cL_isStep 155 = .ok (.goto 4, 3) := by decide +kernel
theorem dL_isStep_158 : decode cL_isStep 158 = .ok (.iconst 0, 1) := by decide +kernel
theorem dL_isStep_159 : decode cL_isStep 159 = .ok (.ireturn, 1) := by decide +kernel
theorem dL_isStep_160 : decode cL_isStep 160 = .ok (.aload_n 0, 1) := by decide +kernel
theorem dL_isStep_161 : decode cL_isStep 161 = .ok (.iload_n 1, 1) := by decide +kernel
theorem dL_isStep_162 : decode cL_isStep 162 = .ok (.iload 4, 2) := by decide +kernel
theorem dL_isStep_164 : decode cL_isStep 164 = .ok (.iload 7, 2) := by decide +kernel
theorem dL_isStep_166 : decode cL_isStep 166 = .ok (.iconst 0, 1) := by decide +kernel
theorem dL_isStep_167 : decode cL_isStep 167 = .ok (.invokevirtual 49, 3) := by decide +kernel
theorem dL_isStep_170 : decode cL_isStep 170 = .ok (.istore 9, 2) := by decide +kernel
theorem dL_isStep_172 : decode cL_isStep 172 = .ok (.aload_n 0, 1) := by decide +kernel
theorem dL_isStep_173 : decode cL_isStep 173 = .ok (.iload_n 1, 1) := by decide +kernel
theorem dL_isStep_174 : decode cL_isStep 174 = .ok (.iload 4, 2) := by decide +kernel
theorem dL_isStep_176 : decode cL_isStep 176 = .ok (.iload 7, 2) := by decide +kernel
theorem dL_isStep_178 : decode cL_isStep 178 = .ok (.iconst 1, 1) := by decide +kernel
theorem dL_isStep_179 : decode cL_isStep 179 = .ok (.invokevirtual 49, 3) := by decide +kernel
theorem dL_isStep_182 : decode cL_isStep 182 = .ok (.iconst 1, 1) := by decide +kernel
theorem dL_isStep_183 : decode cL_isStep 183 = .ok (.if_icmp .ne 7, 3) := by decide +kernel
theorem dL_isStep_186 : decode cL_isStep 186 = .ok (.iconst 1, 1) := by decide +kernel
theorem dL_isStep_187 : decode cL_isStep 187 = .ok (.goto 4, 3) := by decide +kernel
theorem dL_isStep_190 : decode cL_isStep 190 = .ok (.iconst (-1), 1) := by decide +kernel
theorem dL_isStep_191 : decode cL_isStep 191 = .ok (.istore 10, 2) := by decide +kernel
theorem dL_isStep_193 : decode cL_isStep 193 = .ok (.iload 6, 2) := by decide +kernel
theorem dL_isStep_195 : decode cL_isStep 195 = .ok (.iload 5, 2) := by decide +kernel
theorem dL_isStep_197 : decode cL_isStep 197 = .ok (.iload 10, 2) := by decide +kernel
theorem dL_isStep_199 : decode cL_isStep 199 = .ok (.iadd, 1) := by decide +kernel
theorem dL_isStep_200 : decode cL_isStep 200 = .ok (.if_icmp .ne 65, 3) := by decide +kernel
theorem dL_isStep_203 : decode cL_isStep 203 = .ok (.aload_n 0, 1) := by decide +kernel
theorem dL_isStep_204 : decode cL_isStep 204 = .ok (.iload_n 1, 1) := by decide +kernel
theorem dL_isStep_205 : decode cL_isStep 205 = .ok (.iload_n 2, 1) := by decide +kernel
theorem dL_isStep_206 : decode cL_isStep 206 = .ok (.iconst 1, 1) := by decide +kernel
theorem dL_isStep_207 : decode cL_isStep 207 = .ok (.iadd, 1) := by decide +kernel
theorem dL_isStep_208 : decode cL_isStep 208 = .ok (.iconst 1, 1) := by decide +kernel
theorem dL_isStep_209 : decode cL_isStep 209 = .ok (.invokevirtual 79, 3) := by decide +kernel
theorem dL_isStep_212 : decode cL_isStep 212 = .ok (.aload_n 0, 1) := by decide +kernel
theorem dL_isStep_213 : decode cL_isStep 213 = .ok (.iload_n 1, 1) := by decide +kernel
theorem dL_isStep_214 : decode cL_isStep 214 = .ok (.iload 4, 2) := by decide +kernel
theorem dL_isStep_216 : decode cL_isStep 216 = .ok (.iload 7, 2) := by decide +kernel
theorem dL_isStep_218 : decode cL_isStep 218 = .ok (.iconst 2, 1) := by decide +kernel
theorem dL_isStep_219 : decode cL_isStep 219 = .ok (.invokevirtual 49, 3) := by decide +kernel
theorem dL_isStep_222 : decode cL_isStep 222 = .ok (.if_icmp .ne 43, 3) := by decide +kernel
theorem dL_isStep_225 : decode cL_isStep 225 = .ok (.aload_n 0, 1) := by decide +kernel
theorem dL_isStep_226 : decode cL_isStep 226 = .ok (.iload_n 1, 1) := by decide +kernel
theorem dL_isStep_227 : decode cL_isStep 227 = .ok (.iload_n 2, 1) := by decide +kernel
theorem dL_isStep_228 : decode cL_isStep 228 = .ok (.iconst 1, 1) := by decide +kernel
theorem dL_isStep_229 : decode cL_isStep 229 = .ok (.iadd, 1) := by decide +kernel
theorem dL_isStep_230 : decode cL_isStep 230 = .ok (.iload 5, 2) := by decide +kernel
theorem dL_isStep_232 : decode cL_isStep 232 = .ok (.invokevirtual 83, 3) := by decide +kernel
theorem dL_isStep_235 : decode cL_isStep 235 = .ok (.iload 9, 2) := by decide +kernel
theorem dL_isStep_237 : decode cL_isStep 237 = .ok (.if_icmp .ne 28, 3) := by decide +kernel
theorem dL_isStep_240 : decode cL_isStep 240 = .ok (.aload_n 0, 1) := by decide +kernel
