set_option maxRecDepth 20000 in
theorem ggX10_amend_X10_refused : GoodIn wsX10_amend wsX10_refused := goodIn_r _ [8, 2, 3, 9, 10, 11, 7, 12, 13, 14, 15, 16, 17, 18, 19, 20, 21, 22, 23, 24, 25, 26, 27, 28, 29, 30, 31, 32, 33, 34, 35, 36, 37, 38, 39, 40, 41, 42, 43, 44, 58, 59, 60, 61, 62, 63, 64, 65, 66, 67, 68, 69, 70, 71, 72] (by decide +kernel) (by decide +kernel)
set_option maxRecDepth 20000 in
theorem gX10_amend_X10_refused : GoodIn wsX10_amend (wsV RX10 70 RX10 yX10_refused wsX10_refused) := goodIn_app (goodIn_of _ (by decide +kernel)) ggX10_amend_X10_refused
theorem dX10_amend_0 : decode cX10_amend 0 = .ok (.aload_n 0, 1) := by decide +kernel
theorem dX10_amend_1 : decode cX10_amend 1 = .ok (.aload_n 0, 1) := by decide +kernel
theorem dX10_amend_2 : decode cX10_amend 2 = .ok (.iload_n 1, 1) := by decide +kernel
theorem dX10_amend_3 : decode cX10_amend 3 = .ok (.iload_n 2, 1) := by decide +kernel
theorem dX10_amend_4 : decode cX10_amend 4 = .ok (.iload_n 3, 1) := by decide +kernel
theorem dX10_amend_5 : decode cX10_amend 5 = .ok (.iload 4, 2) := by decide +kernel
theorem dX10_amend_7 : decode cX10_amend 7 = .ok (.iload 5, 2) := by decide +kernel
theorem dX10_amend_9 : decode cX10_amend 9 = .ok (.iload 6, 2) := by decide +kernel
theorem dX10_amend_11 : decode cX10_amend 11 = .ok (.iconst 0, 1) := by decide +kernel
theorem dX10_amend_12 : decode cX10_amend 12 = .ok (.invokevirtual 70, 3) := by decide +kernel
theorem dX10_amend_15 : decode cX10_amend 15 = .ok (.putfield 19, 3) := by decide +kernel
theorem dX10_amend_18 : decode cX10_amend 18 = .ok (.aload_n 0, 1) := by decide +kernel
theorem dX10_amend_19 : decode cX10_amend 19 = .ok (.getfield 19, 3) := by decide +kernel
theorem dX10_amend_22 : decode cX10_amend 22 = .ok (.ifCond .ne 33, 3) := by decide +kernel
theorem dX10_amend_25 : decode cX10_amend 25 = .ok (.aload_n 0, 1) := by decide +kernel
theorem dX10_amend_26 : decode cX10_amend 26 = .ok (.aload_n 0, 1) := by decide +kernel
theorem dX10_amend_27 : decode cX10_amend 27 = .ok (.getfield 10, 3) := by decide +kernel
theorem dX10_amend_30 : decode cX10_amend 30 = .ok (.iload_n 1, 1) := by decide +kernel
theorem dX10_amend_31 : decode cX10_amend 31 = .ok (.invokevirtual 48, 3) := by decide +kernel
theorem dX10_amend_34 : decode cX10_amend 34 = .ok (.checkcast 35, 3) := by decide +kernel
theorem dX10_amend_37 : decode cX10_amend 37 = .ok (.iload_n 2, 1) := by decide +kernel
theorem dX10_amend_38 : decode cX10_amend 38 = .ok (.iload_n 3, 1) := by decide +kernel
theorem dX10_amend_39 : decode cX10_amend 39 = .ok (.iload 4, 2) := by decide +kernel
theorem dX10_amend_41 : decode cX10_amend 41 = .ok (.iload 5, 2) := by decide +kernel
theorem dX10_amend_43 : decode cX10_amend 43 = .ok (.iload 6, 2) := by decide +kernel
theorem dX10_amend_45 : decode cX10_amend 45 = .ok (.invokevirtual 74, 3) := by decide +kernel
theorem dX10_amend_48 : decode cX10_amend 48 = .ok (.ifCond .eq 7, 3) := by decide +kernel
theorem dX10_amend_51 : decode cX10_amend 51 = .ok (.iconst 1, 1) := by decide +kernel
theorem dX10_amend_52 : decode cX10_amend 52 = .ok (.goto 4, 3) := by decide +kernel
theorem dX10_amend_55 : decode cX10_amend 55 = .ok (.iconst 0, 1) := by decide +kernel
theorem dX10_amend_56 : decode cX10_amend 56 = .ok (.ireturn, 1) := by decide +kernel
set_option maxRecDepth 20000 in
theorem ggX10_child_X10_isMachine : GoodIn wsX10_child wsX10_isMachine := goodIn_r _ [18, 2, 19, 20, 21, 22, 23, 24, 25, 26, 17, 27, 167, 168, 169, 170, 171, 172, 173, 187, 188, 189] (by decide +kernel) (by decide +kernel)
set_option maxRecDepth 20000 in
theorem gX10_child_X10_isMachine : GoodIn wsX10_child (wsV RX10 44 RX10 yX10_isMachine wsX10_isMachine) := goodIn_app (goodIn_of _ (by decide +kernel)) ggX10_child_X10_isMachine
set_option maxRecDepth 20000 in
theorem ggX10_child_X10_refuse : GoodIn wsX10_child wsX10_refuse := goodIn_r _ [31, 1, 167, 168, 169, 170, 171, 172, 173] (by decide +kernel) (by decide +kernel)
set_option maxRecDepth 20000 in
theorem gX10_child_X10_refuse : GoodIn wsX10_child (wsV RX10 31 RX10 yX10_refuse wsX10_refuse) := goodIn_app (goodIn_of _ (by decide +kernel)) ggX10_child_X10_refuse
set_option maxRecDepth 20000 in
theorem ggX10_child_X10_is : GoodIn wsX10_child wsX10_is := goodIn_r _ [27] (by decide +kernel) (by decide +kernel)
set_option maxRecDepth 20000 in
theorem gX10_child_X10_is : GoodIn wsX10_child (va_wsS RX10 27 yX10_is wsX10_is) := goodIn_app (goodIn_of _ (by decide +kernel)) ggX10_child_X10_is
set_option maxRecDepth 20000 in
theorem ggX10_child_Jx4a65c_size_8abf5 : GoodIn wsX10_child wsJx4a65c_size_8abf5 := goodIn_r _ [23, 24, 187, 188, 189] (by decide +kernel) (by decide +kernel)
set_option maxRecDepth 20000 in
theorem gX10_child_Jx4a65c_size_8abf5 : GoodIn wsX10_child (wsV RX10 23 RJx4a65c yJx4a65c_size_8abf5 wsJx4a65c_size_8abf5) := goodIn_app (goodIn_of _ (by decide +kernel)) ggX10_child_Jx4a65c_size_8abf5
set_option maxRecDepth 20000 in
theorem ggX10_child_X8_init : GoodIn wsX10_child wsX8_init := goodIn_r _ [112, 113, 64, 65, 114, 115, 116, 107, 117, 101, 174, 175, 176, 177, 178] (by decide +kernel) (by decide +kernel)
set_option maxRecDepth 20000 in
theorem gX10_child_X8_init : GoodIn wsX10_child (wsX8_init) := ggX10_child_X8_init
set_option maxRecDepth 20000 in
theorem ggX10_child_Jx4a65c_add_9ea2d : GoodIn wsX10_child wsJx4a65c_add_9ea2d := goodIn_r _ [122, 123, 124, 48, 24, 125, 126, 127, 22, 128, 129, 130, 131, 132, 133, 134, 135, 136, 137, 138, 82, 78, 83, 139, 140, 141, 142, 143, 144, 145, 146, 147, 148, 149, 150, 151, 152, 153, 154, 155, 156, 157, 158, 159, 160, 161, 162, 77, 79, 163, 164, 165, 166, 187, 188, 189] (by decide +kernel) (by decide +kernel)
set_option maxRecDepth 20000 in
theorem gX10_child_Jx4a65c_add_9ea2d : GoodIn wsX10_child (wsV RX10 40 RJx4a65c yJx4a65c_add_9ea2d wsJx4a65c_add_9ea2d) := goodIn_app (goodIn_of _ (by decide +kernel)) ggX10_child_Jx4a65c_add_9ea2d
theorem dX10_child_0 : decode cX10_child 0 = .ok (.aload_n 0, 1) := by decide +kernel
theorem dX10_child_1 : decode cX10_child 1 = .ok (.iconst 0, 1) := by decide +kernel
theorem dX10_child_2 : decode cX10_child 2 = .ok (.putfield 19, 3) := by decide +kernel
theorem dX10_child_5 : decode cX10_child 5 = .ok (.aload_n 0, 1) := by decide +kernel
theorem dX10_child_6 : decode cX10_child 6 = .ok (.iload_n 1, 1) := by decide +kernel
theorem dX10_child_7 : decode cX10_child 7 = .ok (.invokevirtual 44, 3) := by decide +kernel
theorem dX10_child_10 : decode cX10_child 10 = .ok (.ifCond .ne 9, 3) := by decide +kernel
theorem dX10_child_13 : decode cX10_child 13 = .ok (.aload_n 0, 1) := by decide +kernel
theorem dX10_child_14 : decode cX10_child 14 = .ok (.iconst 1, 1) := by decide +kernel
theorem dX10_child_15 : decode cX10_child 15 = .ok (.invokevirtual 31, 3) := by decide +kernel
theorem dX10_child_18 : decode cX10_child 18 = .ok (.ireturn, 1) := by decide +kernel
theorem dX10_child_19 : decode cX10_child 19 = .ok (.aload_n 0, 1) := by decide +kernel
theorem dX10_child_20 : decode cX10_child 20 = .ok (.getfield 10, 3) := by decide +kernel
theorem dX10_child_23 : decode cX10_child 23 = .ok (.iload_n 1, 1) := by decide +kernel
theorem dX10_child_24 : decode cX10_child 24 = .ok (.invokevirtual 48, 3) := by decide +kernel
theorem dX10_child_27 : decode cX10_child 27 = .ok (.checkcast 35, 3) := by decide +kernel
theorem dX10_child_30 : decode cX10_child 30 = .ok (.astore_n 3, 1) := by decide +kernel
theorem dX10_child_31 : decode cX10_child 31 = .ok (.iload_n 2, 1) := by decide +kernel
theorem dX10_child_32 : decode cX10_child 32 = .ok (.iconst 0, 1) := by decide +kernel
theorem dX10_child_33 : decode cX10_child 33 = .ok (.aload_n 0, 1) := by decide +kernel
theorem dX10_child_34 : decode cX10_child 34 = .ok (.aload_n 3, 1) := by decide +kernel
theorem dX10_child_35 : decode cX10_child 35 = .ok (.invokevirtual 93, 3) := by decide +kernel
theorem dX10_child_38 : decode cX10_child 38 = .ok (.iconst 1, 1) := by decide +kernel
theorem dX10_child_39 : decode cX10_child 39 = .ok (.isub, 1) := by decide +kernel
theorem dX10_child_40 : decode cX10_child 40 = .ok (.invokestatic 27, 3) := by decide +kernel
theorem dX10_child_43 : decode cX10_child 43 = .ok (.ifCond .ne 9, 3) := by decide +kernel
theorem dX10_child_46 : decode cX10_child 46 = .ok (.aload_n 0, 1) := by decide +kernel
theorem dX10_child_47 : decode cX10_child 47 = .ok (.iconst 2, 1) := by decide +kernel
theorem dX10_child_48 : decode cX10_child 48 = .ok (.invokevirtual 31, 3) := by decide +kernel
theorem dX10_child_51 : decode cX10_child 51 = .ok (.ireturn, 1) := by decide +kernel
theorem dX10_child_52 : decode cX10_child 52 = .ok (.aload_n 0, 1) := by decide +kernel
theorem dX10_child_53 : decode cX10_child 53 = .ok (.getfield 10, 3) := by decide +kernel
theorem dX10_child_56 : decode cX10_child 56 = .ok (.invokevirtual 23, 3) := by decide +kernel
theorem dX10_child_59 : decode cX10_child 59 = .ok (.bipush 12, 2) := by decide +kernel
theorem dX10_child_61 : decode cX10_child 61 = .ok (.if_icmp .ne 9, 3) := by decide +kernel
theorem dX10_child_64 : decode cX10_child 64 = .ok (.aload_n 0, 1) := by decide +kernel
theorem dX10_child_65 : decode cX10_child 65 = .ok (.iconst 3, 1) := by decide +kernel
theorem dX10_child_66 : decode cX10_child 66 = .ok (.invokevirtual 31, 3) := by decide +kernel
theorem dX10_child_69 : decode cX10_child 69 = .ok (.ireturn, 1) := by decide +kernel
theorem dX10_child_70 : decode cX10_child 70 = .ok (.aload_n 3, 1) := by decide +kernel
theorem dX10_child_71 : decode cX10_child 71 = .ok (.sipush 500, 3) := by decide +kernel
theorem dX10_child_74 : decode cX10_child 74 = .ok (.invokevirtual 81, 3) := by decide +kernel
theorem dX10_child_77 : decode cX10_child 77 = .ok (.astore 4, 2) := by decide +kernel
theorem dX10_child_79 : decode cX10_child 79 = .ok (.new 35, 3) := by decide +kernel
theorem dX10_child_82 : decode cX10_child 82 = .ok (.dup, 1) := by decide +kernel
theorem dX10_child_83 : decode cX10_child 83 = .ok (.aload_n 3, 1) := by decide +kernel
theorem dX10_child_84 : decode cX10_child 84 = .ok (.getfield 52, 3) := by decide +kernel
theorem dX10_child_87 : decode cX10_child 87 = .ok (.invokespecial 37, 3) := by decide +kernel
theorem dX10_child_90 : decode cX10_child 90 = .ok (.astore 5, 2) := by decide +kernel
theorem dX10_child_92 : decode cX10_child 92 = .ok (.iconst 0, 1) := by decide +kernel
theorem dX10_child_93 : decode cX10_child 93 = .ok (.istore 6, 2) := by decide +kernel
theorem dX10_child_95 : decode cX10_child 95 = .ok (.iload 6, 2) := by decide +kernel
theorem dX10_child_97 : decode cX10_child 97 = .ok (.aload_n 3, 1) := by decide +kernel
theorem dX10_child_98 : decode cX10_child 98 = .ok (.getfield 59, 3) := by decide +kernel
theorem dX10_child_101 : decode cX10_child 101 = .ok (.arraylength, 1) := by decide +kernel
theorem dX10_child_102 : decode cX10_child 102 = .ok (.if_icmp .ge 44, 3) := by decide +kernel
theorem dX10_child_105 : decode cX10_child 105 = .ok (.aload 5, 2) := by decide +kernel
theorem dX10_child_107 : decode cX10_child 107 = .ok (.getfield 59, 3) := by decide +kernel
theorem dX10_child_110 : decode cX10_child 110 = .ok (.iload 6, 2) := by decide +kernel
theorem dX10_child_112 : decode cX10_child 112 = .ok (.aload_n 3, 1) := by decide +kernel
theorem dX10_child_113 : decode cX10_child 113 = .ok (.getfield 59, 3) := by decide +kernel
theorem dX10_child_116 : decode cX10_child 116 = .ok (.iload 6, 2) := by decide +kernel
theorem dX10_child_118 : decode cX10_child 118 = .ok (.aaload, 1) := by decide +kernel
theorem dX10_child_119 : decode cX10_child 119 = .ok (.ifnonnull 7, 3) := by decide +kernel
theorem dX10_child_122 : decode cX10_child 122 = .ok (.aconst_null, 1) := by decide +kernel
theorem dX10_child_123 : decode cX10_child 123 = .ok (.goto 16, 3) := by decide +kernel
theorem dX10_child_126 : decode cX10_child 126 = .ok (.aload_n 3, 1) := by decide +kernel
theorem dX10_child_127 : decode cX10_child 127 = .ok (.getfield 59, 3) := by decide +kernel
theorem dX10_child_130 : decode cX10_child 130 = .ok (.iload 6, 2) := by decide +kernel
theorem dX10_child_132 : decode cX10_child 132 = .ok (.aaload, 1) := by decide +kernel
theorem dX10_child_133 : decode cX10_child 133 = .ok (.invokevirtual 97, 3) := by decide +kernel
theorem dX10_child_136 : decode cX10_child 136 = .ok (.checkcast 98, 3) := by decide +kernel
theorem dX10_child_139 : decode cX10_child 139 = .ok (.aastore, 1) := by decide +kernel
theorem dX10_child_140 : decode cX10_child 140 = .ok (.iinc 6 1, 3) := by decide +kernel
theorem dX10_child_143 : decode cX10_child 143 = .ok (.goto (-48), 3) := by decide +kernel
theorem dX10_child_146 : decode cX10_child 146 = .ok (.iload_n 2, 1) := by decide +kernel
theorem dX10_child_147 : decode cX10_child 147 = .ok (.iconst 1, 1) := by decide +kernel
theorem dX10_child_148 : decode cX10_child 148 = .ok (.isub, 1) := by decide +kernel
theorem dX10_child_149 : decode cX10_child 149 = .ok (.istore 6, 2) := by decide +kernel
theorem dX10_child_151 : decode cX10_child 151 = .ok (.iconst 3, 1) := by decide +kernel
theorem dX10_child_152 : decode cX10_child 152 = .ok (.newarray .int, 2) := by decide +kernel
theorem dX10_child_154 : decode cX10_child 154 = .ok (.dup, 1) := by decide +kernel
theorem dX10_child_155 : decode cX10_child 155 = .ok (.iconst 0, 1) := by decide +kernel
theorem dX10_child_156 : decode cX10_child 156 = .ok (.iload_n 2, 1) := by decide +kernel
theorem dX10_child_157 : decode cX10_child 157 = .ok (.ifCond .ne 7, 3) := by decide +kernel
theorem dX10_child_160 : decode cX10_child 160 = .ok (.iconst 1, 1) := by decide +kernel
theorem dX10_child_161 : decode cX10_child 161 = .ok (.goto 9, 3) := by decide +kernel
theorem dX10_child_164 : decode cX10_child 164 = .ok (.iconst 1, 1) := by decide +kernel
theorem dX10_child_165 : decode cX10_child 165 = .ok (.iload 6, 2) := by decide +kernel
theorem dX10_child_167 : decode cX10_child 167 = .ok (.iconst 2, 1) := by decide +kernel
theorem dX10_child_168 : decode cX10_child 168 = .ok (.irem, 1) := by decide +kernel
theorem dX10_child_169 : decode cX10_child 169 = .ok (.isub, 1) := by decide +kernel
theorem dX10_child_170 : decode cX10_child 170 = .ok (.iastore, 1) := by decide +kernel
theorem dX10_child_171 : decode cX10_child 171 = .ok (.dup, 1) := by decide +kernel
theorem dX10_child_172 : decode cX10_child 172 = .ok (.iconst 1, 1) := by decide +kernel
theorem dX10_child_173 : decode cX10_child 173 = .ok (.iload_n 2, 1) := by decide +kernel
theorem dX10_child_174 : decode cX10_child 174 = .ok (.ifCond .eq 11, 3) := by decide +kernel
theorem dX10_child_177 : decode cX10_child 177 = .ok (.iload 6, 2) := by decide +kernel
theorem dX10_child_179 : decode cX10_child 179 = .ok (.iconst 4, 1) := by decide +kernel
theorem dX10_child_180 : decode cX10_child 180 = .ok (.irem, 1) := by decide +kernel
theorem dX10_child_181 : decode cX10_child 181 = .ok (.iconst 2, 1) := by decide +kernel
theorem dX10_child_182 : decode cX10_child 182 = .ok (.if_icmp .ge 7, 3) := by decide +kernel
theorem dX10_child_185 : decode cX10_child 185 = .ok (.iconst 1, 1) := by decide +kernel
theorem dX10_child_186 : decode cX10_child 186 = .ok (.goto 4, 3) := by decide +kernel
theorem dX10_child_189 : decode cX10_child 189 = .ok (.iconst (-1), 1) := by decide +kernel
theorem dX10_child_190 : decode cX10_child 190 = .ok (.iastore, 1) := by decide +kernel
theorem dX10_child_191 : decode cX10_child 191 = .ok (.dup, 1) := by decide +kernel
theorem dX10_child_192 : decode cX10_child 192 = .ok (.iconst 2, 1) := by decide +kernel
theorem dX10_child_193 : decode cX10_child 193 = .ok (.iload_n 2, 1) := by decide +kernel
theorem dX10_child_194 : decode cX10_child 194 = .ok (.ifCond .ne 10, 3) := by decide +kernel
theorem dX10_child_197 : decode cX10_child 197 = .ok (.aload_n 3, 1) := by decide +kernel
theorem dX10_child_198 : decode cX10_child 198 = .ok (.getfield 52, 3) := by decide +kernel
theorem dX10_child_201 : decode cX10_child 201 = .ok (.goto 7, 3) := by decide +kernel
theorem dX10_child_204 : decode cX10_child 204 = .ok (.iload 6, 2) := by decide +kernel
theorem dX10_child_206 : decode cX10_child 206 = .ok (.iconst 4, 1) := by decide +kernel
theorem dX10_child_207 : decode cX10_child 207 = .ok (.idiv, 1) := by decide +kernel
theorem dX10_child_208 : decode cX10_child 208 = .ok (.iastore, 1) := by decide +kernel
theorem dX10_child_209 : decode cX10_child 209 = .ok (.astore 7, 2) := by decide +kernel
theorem dX10_child_211 : decode cX10_child 211 = .ok (.aload 5, 2) := by decide +kernel
theorem dX10_child_213 : decode cX10_child 213 = .ok (.getfield 59, 3) := by decide +kernel
theorem dX10_child_216 : decode cX10_child 216 = .ok (.iconst 2, 1) := by decide +kernel
theorem dX10_child_217 : decode cX10_child 217 = .ok (.aload 4, 2) := by decide +kernel
theorem dX10_child_219 : decode cX10_child 219 = .ok (.getfield 103, 3) := by decide +kernel
theorem dX10_child_222 : decode cX10_child 222 = .ok (.imul, 1) := by decide +kernel
theorem dX10_child_223 : decode cX10_child 223 = .ok (.aload 4, 2) := by decide +kernel
theorem dX10_child_225 : decode cX10_child 225 = .ok (.invokevirtual 106, 3) := by decide +kernel
theorem dX10_child_228 : decode cX10_child 228 = .ok (.iadd, 1) := by decide +kernel
theorem dX10_child_229 : decode cX10_child 229 = .ok (.aload 7, 2) := by decide +kernel
theorem dX10_child_231 : decode cX10_child 231 = .ok (.aastore, 1) := by decide +kernel
theorem dX10_child_232 : decode cX10_child 232 = .ok (.aload_n 0, 1) := by decide +kernel
theorem dX10_child_233 : decode cX10_child 233 = .ok (.getfield 10, 3) := by decide +kernel
theorem dX10_child_236 : decode cX10_child 236 = .ok (.aload 5, 2) := by decide +kernel
theorem dX10_child_238 : decode cX10_child 238 = .ok (.invokevirtual 40, 3) := by decide +kernel
theorem dX10_child_241 : decode cX10_child 241 = .ok (.pop, 1) := by decide +kernel
theorem dX10_child_242 : decode cX10_child 242 = .ok (.aload_n 0, 1) := by decide +kernel
theorem dX10_child_243 : decode cX10_child 243 = .ok (.getfield 10, 3) := by decide +kernel
theorem dX10_child_246 : decode cX10_child 246 = .ok (.invokevirtual 23, 3) := by decide +kernel
theorem dX10_child_249 : decode cX10_child 249 = .ok (.iconst 1, 1) := by decide +kernel
theorem dX10_child_250 : decode cX10_child 250 = .ok (.isub, 1) := by decide +kernel
theorem dX10_child_251 : decode cX10_child 251 = .ok (.ireturn, 1) := by decide +kernel
set_option maxRecDepth 20000 in
theorem ggX10_tag_X10_is : GoodIn wsX10_tag wsX10_is := goodIn_r _ [7] (by decide +kernel) (by decide +kernel)
set_option maxRecDepth 20000 in
theorem gX10_tag_X10_is : GoodIn wsX10_tag (va_wsS RX10 27 yX10_is wsX10_is) := goodIn_app (goodIn_of _ (by decide +kernel)) ggX10_tag_X10_is
set_option maxRecDepth 20000 in
theorem ggX10_tag_X10_refuse : GoodIn wsX10_tag wsX10_refuse := goodIn_r _ [11, 1, 72, 73, 74, 75, 76, 77, 78] (by decide +kernel) (by decide +kernel)
set_option maxRecDepth 20000 in
theorem gX10_tag_X10_refuse : GoodIn wsX10_tag (wsV RX10 31 RX10 yX10_refuse wsX10_refuse) := goodIn_app (goodIn_of _ (by decide +kernel)) ggX10_tag_X10_refuse
set_option maxRecDepth 20000 in
theorem ggX10_tag_Jx4a65c_size_8abf5 : GoodIn wsX10_tag wsJx4a65c_size_8abf5 := goodIn_r _ [16, 17, 79, 80, 81] (by decide +kernel) (by decide +kernel)
set_option maxRecDepth 20000 in
theorem gX10_tag_Jx4a65c_size_8abf5 : GoodIn wsX10_tag (wsV RX10 23 RJx4a65c yJx4a65c_size_8abf5 wsJx4a65c_size_8abf5) := goodIn_app (goodIn_of _ (by decide +kernel)) ggX10_tag_Jx4a65c_size_8abf5
set_option maxRecDepth 20000 in
theorem ggX10_tag_Jx4a65c_add_9ea2d : GoodIn wsX10_tag wsJx4a65c_add_9ea2d := goodIn_r _ [21, 22, 23, 24, 17, 25, 26, 27, 15, 28, 29, 30, 31, 32, 33, 34, 35, 36, 37, 38, 39, 40, 41, 42, 43, 44, 45, 46, 47, 48, 49, 50, 51, 52, 53, 54, 55, 56, 57, 58, 59, 60, 61, 62, 63, 64, 65, 66, 67, 68, 69, 70, 71, 79, 80, 81] (by decide +kernel) (by decide +kernel)
set_option maxRecDepth 20000 in
theorem gX10_tag_Jx4a65c_add_9ea2d : GoodIn wsX10_tag (wsV RX10 40 RJx4a65c yJx4a65c_add_9ea2d wsJx4a65c_add_9ea2d) := goodIn_app (goodIn_of _ (by decide +kernel)) ggX10_tag_Jx4a65c_add_9ea2d
theorem dX10_tag_0 : decode cX10_tag 0 = .ok (.aload_n 0, 1) := by decide +kernel
theorem dX10_tag_1 : decode cX10_tag 1 = .ok (.iconst 0, 1) := by decide +kernel
theorem dX10_tag_2 : decode cX10_tag 2 = .ok (.putfield 19, 3) := by decide +kernel
theorem dX10_tag_5 : decode cX10_tag 5 = .ok (.iload_n 1, 1) := by decide +kernel
theorem dX10_tag_6 : decode cX10_tag 6 = .ok (.iconst 1, 1) := by decide +kernel
theorem dX10_tag_7 : decode cX10_tag 7 = .ok (.iconst 3, 1) := by decide +kernel
theorem dX10_tag_8 : decode cX10_tag 8 = .ok (.invokestatic 27, 3) := by decide +kernel
theorem dX10_tag_11 : decode cX10_tag 11 = .ok (.ifCond .eq 23, 3) := by decide +kernel
theorem dX10_tag_14 : decode cX10_tag 14 = .ok (.iload_n 2, 1) := by decide +kernel
theorem dX10_tag_15 : decode cX10_tag 15 = .ok (.iconst 1, 1) := by decide +kernel
theorem dX10_tag_16 : decode cX10_tag 16 = .ok (.bipush 63, 2) := by decide +kernel
theorem dX10_tag_18 : decode cX10_tag 18 = .ok (.invokestatic 27, 3) := by decide +kernel
theorem dX10_tag_21 : decode cX10_tag 21 = .ok (.ifCond .eq 13, 3) := by decide +kernel
theorem dX10_tag_24 : decode cX10_tag 24 = .ok (.iload_n 3, 1) := by decide +kernel
theorem dX10_tag_25 : decode cX10_tag 25 = .ok (.iconst 1, 1) := by decide +kernel
theorem dX10_tag_26 : decode cX10_tag 26 = .ok (.bipush 63, 2) := by decide +kernel
theorem dX10_tag_28 : decode cX10_tag 28 = .ok (.invokestatic 27, 3) := by decide +kernel
theorem dX10_tag_31 : decode cX10_tag 31 = .ok (.ifCond .ne 9, 3) := by decide +kernel
theorem dX10_tag_34 : decode cX10_tag 34 = .ok (.aload_n 0, 1) := by decide +kernel
theorem dX10_tag_35 : decode cX10_tag 35 = .ok (.iconst 1, 1) := by decide +kernel
theorem dX10_tag_36 : decode cX10_tag 36 = .ok (.invokevirtual 31, 3) := by decide +kernel
theorem dX10_tag_39 : decode cX10_tag 39 = .ok (.ireturn, 1) := by decide +kernel
theorem dX10_tag_40 : decode cX10_tag 40 = .ok (.aload_n 0, 1) := by decide +kernel
theorem dX10_tag_41 : decode cX10_tag 41 = .ok (.getfield 16, 3) := by decide +kernel
theorem dX10_tag_44 : decode cX10_tag 44 = .ok (.invokevirtual 23, 3) := by decide +kernel
theorem dX10_tag_47 : decode cX10_tag 47 = .ok (.iconst 4, 1) := by decide +kernel
theorem dX10_tag_48 : decode cX10_tag 48 = .ok (.if_icmp .ne 9, 3) := by decide +kernel
theorem dX10_tag_51 : decode cX10_tag 51 = .ok (.aload_n 0, 1) := by decide +kernel
theorem dX10_tag_52 : decode cX10_tag 52 = .ok (.iconst 2, 1) := by decide +kernel
theorem dX10_tag_53 : decode cX10_tag 53 = .ok (.invokevirtual 31, 3) := by decide +kernel
theorem dX10_tag_56 : decode cX10_tag 56 = .ok (.ireturn, 1) := by decide +kernel
theorem dX10_tag_57 : decode cX10_tag 57 = .ok (.iconst 3, 1) := by decide +kernel
theorem dX10_tag_58 : decode cX10_tag 58 = .ok (.newarray .int, 2) := by decide +kernel
theorem dX10_tag_60 : decode cX10_tag 60 = .ok (.dup, 1) := by decide +kernel
theorem dX10_tag_61 : decode cX10_tag 61 = .ok (.iconst 0, 1) := by decide +kernel
theorem dX10_tag_62 : decode cX10_tag 62 = .ok (.iload_n 1, 1) := by decide +kernel
theorem dX10_tag_63 : decode cX10_tag 63 = .ok (.iastore, 1) := by decide +kernel
theorem dX10_tag_64 : decode cX10_tag 64 = .ok (.dup, 1) := by decide +kernel
theorem dX10_tag_65 : decode cX10_tag 65 = .ok (.iconst 1, 1) := by decide +kernel
theorem dX10_tag_66 : decode cX10_tag 66 = .ok (.iload_n 2, 1) := by decide +kernel
theorem dX10_tag_67 : decode cX10_tag 67 = .ok (.iastore, 1) := by decide +kernel
theorem dX10_tag_68 : decode cX10_tag 68 = .ok (.dup, 1) := by decide +kernel
theorem dX10_tag_69 : decode cX10_tag 69 = .ok (.iconst 2, 1) := by decide +kernel
theorem dX10_tag_70 : decode cX10_tag 70 = .ok (.iload_n 3, 1) := by decide +kernel
theorem dX10_tag_71 : decode cX10_tag 71 = .ok (.iastore, 1) := by decide +kernel
theorem dX10_tag_72 : decode cX10_tag 72 = .ok (.astore 4, 2) := by decide +kernel
theorem dX10_tag_74 : decode cX10_tag 74 = .ok (.aload_n 0, 1) := by decide +kernel
theorem dX10_tag_75 : decode cX10_tag 75 = .ok (.getfield 16, 3) := by decide +kernel
theorem dX10_tag_78 : decode cX10_tag 78 = .ok (.aload 4, 2) := by decide +kernel
theorem dX10_tag_80 : decode cX10_tag 80 = .ok (.invokevirtual 40, 3) := by decide +kernel
theorem dX10_tag_83 : decode cX10_tag 83 = .ok (.pop, 1) := by decide +kernel
theorem dX10_tag_84 : decode cX10_tag 84 = .ok (.aload_n 0, 1) := by decide +kernel
theorem dX10_tag_85 : decode cX10_tag 85 = .ok (.getfield 16, 3) := by decide +kernel
theorem dX10_tag_88 : decode cX10_tag 88 = .ok (.invokevirtual 23, 3) := by decide +kernel
theorem dX10_tag_91 : decode cX10_tag 91 = .ok (.iconst 1, 1) := by decide +kernel
theorem dX10_tag_92 : decode cX10_tag 92 = .ok (.isub, 1) := by decide +kernel
theorem dX10_tag_93 : decode cX10_tag 93 = .ok (.ireturn, 1) := by decide +kernel
theorem dX10_decide_0 : decode cX10_decide 0 = .ok (.aload_n 0, 1) := by decide +kernel
theorem dX10_decide_1 : decode cX10_decide 1 = .ok (.iload_n 1, 1) := by decide +kernel
theorem dX10_decide_2 : decode cX10_decide 2 = .ok (.putfield 175, 3) := by decide +kernel
theorem dX10_decide_5 : decode cX10_decide 5 = .ok (.aload_n 0, 1) := by decide +kernel
theorem dX10_decide_6 : decode cX10_decide 6 = .ok (.iload_n 2, 1) := by decide +kernel
theorem dX10_decide_7 : decode cX10_decide 7 = .ok (.putfield 178, 3) := by decide +kernel
theorem dX10_decide_10 : decode cX10_decide 10 = .ok (.aload_n 0, 1) := by decide +kernel
theorem dX10_decide_11 : decode cX10_decide 11 = .ok (.iload_n 3, 1) := by decide +kernel
theorem dX10_decide_12 : decode cX10_decide 12 = .ok (.putfield 181, 3) := by decide +kernel
theorem dX10_decide_15 : decode cX10_decide 15 = .ok (.return_, 1) := by decide +kernel
set_option maxRecDepth 20000 in
theorem ggX10_prove_X10_isMachine : GoodIn wsX10_prove wsX10_isMachine := goodIn_r _ [10, 1, 11, 12, 13, 14, 15, 16, 17, 18, 9, 19, 224, 225, 226, 227, 228, 229, 230, 236, 237, 238] (by decide +kernel) (by decide +kernel)
set_option maxRecDepth 20000 in
theorem gX10_prove_X10_isMachine : GoodIn wsX10_prove (wsV RX10 44 RX10 yX10_isMachine wsX10_isMachine) := goodIn_app (goodIn_of _ (by decide +kernel)) ggX10_prove_X10_isMachine
set_option maxRecDepth 20000 in
theorem ggX10_prove_X10_decide : GoodIn wsX10_prove wsX10_decide := goodIn_r _ [223, 231, 232, 233, 234, 235] (by decide +kernel) (by decide +kernel)
set_option maxRecDepth 20000 in
theorem gX10_prove_X10_decide : GoodIn wsX10_prove (va_wsS RX10 197 yX10_decide wsX10_decide) := goodIn_app (goodIn_of _ (by decide +kernel)) ggX10_prove_X10_decide
theorem dX10_prove_0 : decode cX10_prove 0 = .ok (.aload_n 0, 1) := by decide +kernel
theorem dX10_prove_1 : decode cX10_prove 1 = .ok (.aload_n 0, 1) := by decide +kernel
theorem dX10_prove_2 : decode cX10_prove 2 = .ok (.iload_n 1, 1) := by decide +kernel
theorem dX10_prove_3 : decode cX10_prove 3 = .ok (.invokevirtual 44, 3) := by decide +kernel
theorem dX10_prove_6 : decode cX10_prove 6 = .ok (.ifCond .ne 7, 3) := by decide +kernel
theorem dX10_prove_9 : decode cX10_prove 9 = .ok (.iconst 1, 1) := by decide +kernel
theorem dX10_prove_10 : decode cX10_prove 10 = .ok (.goto 40, 3) := by decide +kernel
theorem dX10_prove_13 : decode cX10_prove 13 = .ok (.iload_n 2, 1) := by decide +kernel
theorem dX10_prove_14 : decode cX10_prove 14 = .ok (.iload_n 3, 1) := by decide +kernel
theorem dX10_prove_15 : decode cX10_prove 15 = .ok (.iload 4, 2) := by decide +kernel
theorem dX10_prove_17 : decode cX10_prove 17 = .ok (.invokestatic 184, 3) := by decide +kernel
theorem dX10_prove_20 : decode cX10_prove 20 = .ok (.ifCond .ne 7, 3) := by decide +kernel
theorem dX10_prove_23 : decode cX10_prove 23 = .ok (.iconst 2, 1) := by decide +kernel
theorem dX10_prove_24 : decode cX10_prove 24 = .ok (.goto 26, 3) := by decide +kernel
theorem dX10_prove_27 : decode cX10_prove 27 = .ok (.aload_n 0, 1) := by decide +kernel
theorem dX10_prove_28 : decode cX10_prove 28 = .ok (.getfield 10, 3) := by decide +kernel
theorem dX10_prove_31 : decode cX10_prove 31 = .ok (.iload_n 1, 1) := by decide +kernel
theorem dX10_prove_32 : decode cX10_prove 32 = .ok (.invokevirtual 48, 3) := by decide +kernel
theorem dX10_prove_35 : decode cX10_prove 35 = .ok (.checkcast 35, 3) := by decide +kernel
theorem dX10_prove_38 : decode cX10_prove 38 = .ok (.getfield 175, 3) := by decide +kernel
theorem dX10_prove_41 : decode cX10_prove 41 = .ok (.iconst (-1), 1) := by decide +kernel
theorem dX10_prove_42 : decode cX10_prove 42 = .ok (.if_icmp .eq 7, 3) := by decide +kernel
theorem dX10_prove_45 : decode cX10_prove 45 = .ok (.iconst 3, 1) := by decide +kernel
theorem dX10_prove_46 : decode cX10_prove 46 = .ok (.goto 4, 3) := by decide +kernel
theorem dX10_prove_49 : decode cX10_prove 49 = .ok (.iconst 0, 1) := by decide +kernel
theorem dX10_prove_50 : decode cX10_prove 50 = .ok (.putfield 19, 3) := by decide +kernel
theorem dX10_prove_53 : decode cX10_prove 53 = .ok (.aload_n 0, 1) := by decide +kernel
theorem dX10_prove_54 : decode cX10_prove 54 = .ok (.getfield 19, 3) := by decide +kernel
theorem dX10_prove_57 : decode cX10_prove 57 = .ok (.ifCond .le 5, 3) := by decide +kernel
theorem dX10_prove_60 : decode cX10_prove 60 = .ok (.iconst 0, 1) := by decide +kernel
theorem dX10_prove_61 : decode cX10_prove 61 = .ok (.ireturn, 1) := by decide +kernel
theorem dX10_prove_62 : decode cX10_prove 62 = .ok (.aload_n 0, 1) := by decide +kernel
theorem dX10_prove_63 : decode cX10_prove 63 = .ok (.getfield 10, 3) := by decide +kernel
theorem dX10_prove_66 : decode cX10_prove 66 = .ok (.iload_n 1, 1) := by decide +kernel
theorem dX10_prove_67 : decode cX10_prove 67 = .ok (.invokevirtual 48, 3) := by decide +kernel
theorem dX10_prove_70 : decode cX10_prove 70 = .ok (.checkcast 35, 3) := by decide +kernel
theorem dX10_prove_73 : decode cX10_prove 73 = .ok (.iload_n 2, 1) := by decide +kernel
theorem dX10_prove_74 : decode cX10_prove 74 = .ok (.iload_n 3, 1) := by decide +kernel
theorem dX10_prove_75 : decode cX10_prove 75 = .ok (.iload 4, 2) := by decide +kernel
theorem dX10_prove_77 : decode cX10_prove 77 = .ok (.invokestatic 187, 3) := by decide +kernel
theorem dX10_prove_80 : decode cX10_prove 80 = .ok (.istore 5, 2) := by decide +kernel
theorem dX10_prove_82 : decode cX10_prove 82 = .ok (.aload_n 0, 1) := by decide +kernel
theorem dX10_prove_83 : decode cX10_prove 83 = .ok (.dup, 1) := by decide +kernel
theorem dX10_prove_84 : decode cX10_prove 84 = .ok (.getfield 191, 3) := by decide +kernel
theorem dX10_prove_87 : decode cX10_prove 87 = .ok (.iconst 1, 1) := by decide +kernel
theorem dX10_prove_88 : decode cX10_prove 88 = .ok (.iadd, 1) := by decide +kernel
theorem dX10_prove_89 : decode cX10_prove 89 = .ok (.putfield 191, 3) := by decide +kernel
theorem dX10_prove_92 : decode cX10_prove 92 = .ok (.aload_n 0, 1) := by decide +kernel
theorem dX10_prove_93 : decode cX10_prove 93 = .ok (.dup, 1) := by decide +kernel
theorem dX10_prove_94 : decode cX10_prove 94 = .ok (.getfield 194, 3) := by decide +kernel
theorem dX10_prove_97 : decode cX10_prove 97 = .ok (.iload 5, 2) := by decide +kernel
theorem dX10_prove_99 : decode cX10_prove 99 = .ok (.ifCond .eq 7, 3) := by decide +kernel
theorem dX10_prove_102 : decode cX10_prove 102 = .ok (.iconst 1, 1) := by decide +kernel
theorem dX10_prove_103 : decode cX10_prove 103 = .ok (.goto 4, 3) := by decide +kernel
theorem dX10_prove_106 : decode cX10_prove 106 = .ok (.iconst 0, 1) := by decide +kernel
theorem dX10_prove_107 : decode cX10_prove 107 = .ok (.iadd, 1) := by decide +kernel
theorem dX10_prove_108 : decode cX10_prove 108 = .ok (.putfield 194, 3) := by decide +kernel
theorem dX10_prove_111 : decode cX10_prove 111 = .ok (.iload 5, 2) := by decide +kernel
theorem dX10_prove_113 : decode cX10_prove 113 = .ok (.ifCond .eq 21, 3) := by decide +kernel
theorem dX10_prove_116 : decode cX10_prove 116 = .ok (.aload_n 0, 1) := by decide +kernel
theorem dX10_prove_117 : decode cX10_prove 117 = .ok (.getfield 10, 3) := by decide +kernel
theorem dX10_prove_120 : decode cX10_prove 120 = .ok (.iload_n 1, 1) := by decide +kernel
theorem dX10_prove_121 : decode cX10_prove 121 = .ok (.invokevirtual 48, 3) := by decide +kernel
theorem dX10_prove_124 : decode cX10_prove 124 = .ok (.checkcast 35, 3) := by decide +kernel
theorem dX10_prove_127 : decode cX10_prove 127 = .ok (.iload_n 2, 1) := by decide +kernel
theorem dX10_prove_128 : decode cX10_prove 128 = .ok (.iload_n 3, 1) := by decide +kernel
theorem dX10_prove_129 : decode cX10_prove 129 = .ok (.iload 4, 2) := by decide +kernel
theorem dX10_prove_131 : decode cX10_prove 131 = .ok (.invokestatic 197, 3) := by decide +kernel
theorem dX10_prove_134 : decode cX10_prove 134 = .ok (.iload 5, 2) := by decide +kernel
theorem dX10_prove_136 : decode cX10_prove 136 = .ok (.ireturn, 1) := by decide +kernel
set_option maxRecDepth 20000 in
theorem ggX10_doubt_X10_is : GoodIn wsX10_doubt wsX10_is := goodIn_r _ [8] (by decide +kernel) (by decide +kernel)
set_option maxRecDepth 20000 in
theorem gX10_doubt_X10_is : GoodIn wsX10_doubt (va_wsS RX10 27 yX10_is wsX10_is) := goodIn_app (goodIn_of _ (by decide +kernel)) ggX10_doubt_X10_is
set_option maxRecDepth 20000 in
theorem ggX10_doubt_X10_refuse : GoodIn wsX10_doubt wsX10_refuse := goodIn_r _ [12, 1, 54, 55, 56, 57, 58, 59, 60] (by decide +kernel) (by decide +kernel)
set_option maxRecDepth 20000 in
theorem gX10_doubt_X10_refuse : GoodIn wsX10_doubt (wsV RX10 31 RX10 yX10_refuse wsX10_refuse) := goodIn_app (goodIn_of _ (by decide +kernel)) ggX10_doubt_X10_refuse
set_option maxRecDepth 20000 in
theorem ggX10_doubt_Jx4a65c_iterator_32c93 : GoodIn wsX10_doubt wsJx4a65c_iterator_32c93 := goodIn_r _ [17, 18, 19, 20, 21, 22, 23, 24, 25, 26, 27, 28, 29, 30, 31, 66, 67, 68, 69, 70, 71, 72] (by decide +kernel) (by decide +kernel)
set_option maxRecDepth 20000 in
theorem gX10_doubt_Jx4a65c_iterator_32c93 : GoodIn wsX10_doubt (wsV RX10 158 RJx4a65c yJx4a65c_iterator_32c93 wsJx4a65c_iterator_32c93) := goodIn_app (goodIn_of _ (by decide +kernel)) ggX10_doubt_Jx4a65c_iterator_32c93
set_option maxRecDepth 20000 in
theorem ggX10_doubt_Jx35411_hasNext_aae02 : GoodIn wsX10_doubt wsJx35411_hasNext_aae02 := goodIn_r _ [35, 36, 24, 66, 67, 68, 69, 70, 71, 72] (by decide +kernel) (by decide +kernel)
set_option maxRecDepth 20000 in
theorem gX10_doubt_Jx35411_hasNext_aae02_f162Jx35411 : GoodIn wsX10_doubt (va_wsF RX10 162 RJx35411 ⟨"java/util/Iterator", "hasNext", "()Z"⟩ yJx35411_hasNext_aae02 wsJx35411_hasNext_aae02) := goodIn_app (goodIn_of _ (by decide +kernel)) ggX10_doubt_Jx35411_hasNext_aae02
theorem dX10_doubt_0 : decode cX10_doubt 0 = .ok (.aload_n 0, 1) := by decide +kernel
theorem dX10_doubt_1 : decode cX10_doubt 1 = .ok (.iconst 0, 1) := by decide +kernel
theorem dX10_doubt_2 : decode cX10_doubt 2 = .ok (.putfield 19, 3) := by decide +kernel
theorem dX10_doubt_5 : decode cX10_doubt 5 = .ok (.iload_n 1, 1) := by decide +kernel
theorem dX10_doubt_6 : decode cX10_doubt 6 = .ok (.iconst 0, 1) := by decide +kernel
theorem dX10_doubt_7 : decode cX10_doubt 7 = .ok (.iconst 3, 1) := by decide +kernel
theorem dX10_doubt_8 : decode cX10_doubt 8 = .ok (.invokestatic 27, 3) := by decide +kernel
theorem dX10_doubt_11 : decode cX10_doubt 11 = .ok (.ifCond .ne 9, 3) := by decide +kernel
theorem dX10_doubt_14 : decode cX10_doubt 14 = .ok (.aload_n 0, 1) := by decide +kernel
theorem dX10_doubt_15 : decode cX10_doubt 15 = .ok (.iconst 1, 1) := by decide +kernel
theorem dX10_doubt_16 : decode cX10_doubt 16 = .ok (.invokevirtual 31, 3) := by decide +kernel
theorem dX10_doubt_19 : decode cX10_doubt 19 = .ok (.ireturn, 1) := by decide +kernel
theorem dX10_doubt_20 : decode cX10_doubt 20 = .ok (.iconst 0, 1) := by decide +kernel
theorem dX10_doubt_21 : decode cX10_doubt 21 = .ok (.istore_n 2, 1) := by decide +kernel
theorem dX10_doubt_22 : decode cX10_doubt 22 = .ok (.aload_n 0, 1) := by decide +kernel
theorem dX10_doubt_23 : decode cX10_doubt 23 = .ok (.getfield 10, 3) := by decide +kernel
theorem dX10_doubt_26 : decode cX10_doubt 26 = .ok (.invokevirtual 158, 3) := by decide +kernel
theorem dX10_doubt_29 : decode cX10_doubt 29 = .ok (.astore_n 3, 1) := by decide +kernel
theorem dX10_doubt_30 : decode cX10_doubt 30 = .ok (.aload_n 3, 1) := by decide +kernel
theorem dX10_doubt_31 : decode cX10_doubt 31 = .ok (.invokeinterface 162 1, 5) := by decide +kernel
theorem dX10_doubt_36 : decode cX10_doubt 36 = .ok (.ifCond .eq 42, 3) := by decide +kernel
theorem dX10_doubt_39 : decode cX10_doubt 39 = .ok (.aload_n 3, 1) := by decide +kernel
theorem dX10_doubt_40 : decode cX10_doubt 40 = .ok (.invokeinterface 167 1, 5) := by decide +kernel
theorem dX10_doubt_45 : decode cX10_doubt 45 = .ok (.checkcast 35, 3) := by decide +kernel
theorem dX10_doubt_48 : decode cX10_doubt 48 = .ok (.astore 4, 2) := by decide +kernel
theorem dX10_doubt_50 : decode cX10_doubt 50 = .ok (.iload_n 2, 1) := by decide +kernel
theorem dX10_doubt_51 : decode cX10_doubt 51 = .ok (.aload 4, 2) := by decide +kernel
theorem dX10_doubt_53 : decode cX10_doubt 53 = .ok (.getfield 175, 3) := by decide +kernel
theorem dX10_doubt_56 : decode cX10_doubt 56 = .ok (.iload_n 1, 1) := by decide +kernel
theorem dX10_doubt_57 : decode cX10_doubt 57 = .ok (.if_icmp .ne 15, 3) := by decide +kernel
theorem dX10_doubt_60 : decode cX10_doubt 60 = .ok (.aload 4, 2) := by decide +kernel
theorem dX10_doubt_62 : decode cX10_doubt 62 = .ok (.invokevirtual 63, 3) := by decide +kernel
theorem dX10_doubt_65 : decode cX10_doubt 65 = .ok (.ifCond .eq 7, 3) := by decide +kernel
theorem dX10_doubt_68 : decode cX10_doubt 68 = .ok (.iconst 1, 1) := by decide +kernel
theorem dX10_doubt_69 : decode cX10_doubt 69 = .ok (.goto 4, 3) := by decide +kernel
theorem dX10_doubt_72 : decode cX10_doubt 72 = .ok (.iconst 0, 1) := by decide +kernel
theorem dX10_doubt_73 : decode cX10_doubt 73 = .ok (.iadd, 1) := by decide +kernel
theorem dX10_doubt_74 : decode cX10_doubt 74 = .ok (.istore_n 2, 1) := by decide +kernel
theorem dX10_doubt_75 : decode cX10_doubt 75 = .ok (.goto (-45), 3) := by decide +kernel
theorem dX10_doubt_78 : decode cX10_doubt 78 = .ok (.aload_n 0, 1) := by decide +kernel
theorem dX10_doubt_79 : decode cX10_doubt 79 = .ok (.dup, 1) := by decide +kernel
theorem dX10_doubt_80 : decode cX10_doubt 80 = .ok (.getfield 67, 3) := by decide +kernel
theorem dX10_doubt_83 : decode cX10_doubt 83 = .ok (.iload_n 2, 1) := by decide +kernel
theorem dX10_doubt_84 : decode cX10_doubt 84 = .ok (.iadd, 1) := by decide +kernel
theorem dX10_doubt_85 : decode cX10_doubt 85 = .ok (.putfield 67, 3) := by decide +kernel
theorem dX10_doubt_88 : decode cX10_doubt 88 = .ok (.iload_n 2, 1) := by decide +kernel
theorem dX10_doubt_89 : decode cX10_doubt 89 = .ok (.ireturn, 1) := by decide +kernel
set_option maxRecDepth 20000 in
theorem ggX10_cell_X10_isMachine : GoodIn wsX10_cell wsX10_isMachine := goodIn_r _ [8, 2, 9, 10, 11, 12, 13, 14, 15, 16, 7, 17, 52, 53, 54, 55, 56, 57, 58, 64, 65, 66] (by decide +kernel) (by decide +kernel)
set_option maxRecDepth 20000 in
theorem gX10_cell_X10_isMachine : GoodIn wsX10_cell (wsV RX10 44 RX10 yX10_isMachine wsX10_isMachine) := goodIn_app (goodIn_of _ (by decide +kernel)) ggX10_cell_X10_isMachine
set_option maxRecDepth 20000 in
theorem ggX10_cell_X10_is : GoodIn wsX10_cell wsX10_is := goodIn_r _ [17] (by decide +kernel) (by decide +kernel)
set_option maxRecDepth 20000 in
theorem gX10_cell_X10_is : GoodIn wsX10_cell (va_wsS RX10 27 yX10_is wsX10_is) := goodIn_app (goodIn_of _ (by decide +kernel)) ggX10_cell_X10_is
set_option maxRecDepth 20000 in
theorem ggX10_cell_X10_refuse : GoodIn wsX10_cell wsX10_refuse := goodIn_r _ [38, 1, 52, 53, 54, 55, 56, 57, 58] (by decide +kernel) (by decide +kernel)
set_option maxRecDepth 20000 in
theorem gX10_cell_X10_refuse : GoodIn wsX10_cell (wsV RX10 31 RX10 yX10_refuse wsX10_refuse) := goodIn_app (goodIn_of _ (by decide +kernel)) ggX10_cell_X10_refuse
theorem dX10_cell_0 : decode cX10_cell 0 = .ok (.aload_n 0, 1) := by decide +kernel
theorem dX10_cell_1 : decode cX10_cell 1 = .ok (.iconst 0, 1) := by decide +kernel
theorem dX10_cell_2 : decode cX10_cell 2 = .ok (.putfield 19, 3) := by decide +kernel
theorem dX10_cell_5 : decode cX10_cell 5 = .ok (.aload_n 0, 1) := by decide +kernel
theorem dX10_cell_6 : decode cX10_cell 6 = .ok (.iload_n 1, 1) := by decide +kernel
theorem dX10_cell_7 : decode cX10_cell 7 = .ok (.invokevirtual 44, 3) := by decide +kernel
theorem dX10_cell_10 : decode cX10_cell 10 = .ok (.ifCond .eq 36, 3) := by decide +kernel
theorem dX10_cell_13 : decode cX10_cell 13 = .ok (.iload_n 2, 1) := by decide +kernel
theorem dX10_cell_14 : decode cX10_cell 14 = .ok (.iconst 0, 1) := by decide +kernel
theorem dX10_cell_15 : decode cX10_cell 15 = .ok (.aload_n 0, 1) := by decide +kernel
theorem dX10_cell_16 : decode cX10_cell 16 = .ok (.getfield 10, 3) := by decide +kernel
theorem dX10_cell_19 : decode cX10_cell 19 = .ok (.iload_n 1, 1) := by decide +kernel
theorem dX10_cell_20 : decode cX10_cell 20 = .ok (.invokevirtual 48, 3) := by decide +kernel
theorem dX10_cell_23 : decode cX10_cell 23 = .ok (.checkcast 35, 3) := by decide +kernel
theorem dX10_cell_26 : decode cX10_cell 26 = .ok (.getfield 52, 3) := by decide +kernel
theorem dX10_cell_29 : decode cX10_cell 29 = .ok (.iconst 1, 1) := by decide +kernel
theorem dX10_cell_30 : decode cX10_cell 30 = .ok (.isub, 1) := by decide +kernel
theorem dX10_cell_31 : decode cX10_cell 31 = .ok (.invokestatic 27, 3) := by decide +kernel
theorem dX10_cell_34 : decode cX10_cell 34 = .ok (.ifCond .eq 12, 3) := by decide +kernel
theorem dX10_cell_37 : decode cX10_cell 37 = .ok (.iload_n 3, 1) := by decide +kernel
theorem dX10_cell_38 : decode cX10_cell 38 = .ok (.iconst 0, 1) := by decide +kernel
theorem dX10_cell_39 : decode cX10_cell 39 = .ok (.iconst 1, 1) := by decide +kernel
theorem dX10_cell_40 : decode cX10_cell 40 = .ok (.invokestatic 27, 3) := by decide +kernel
theorem dX10_cell_43 : decode cX10_cell 43 = .ok (.ifCond .ne 9, 3) := by decide +kernel
theorem dX10_cell_46 : decode cX10_cell 46 = .ok (.aload_n 0, 1) := by decide +kernel
theorem dX10_cell_47 : decode cX10_cell 47 = .ok (.iconst 1, 1) := by decide +kernel
theorem dX10_cell_48 : decode cX10_cell 48 = .ok (.invokevirtual 31, 3) := by decide +kernel
theorem dX10_cell_51 : decode cX10_cell 51 = .ok (.ireturn, 1) := by decide +kernel
theorem dX10_cell_52 : decode cX10_cell 52 = .ok (.iload 4, 2) := by decide +kernel
theorem dX10_cell_54 : decode cX10_cell 54 = .ok (.iconst 0, 1) := by decide +kernel
theorem dX10_cell_55 : decode cX10_cell 55 = .ok (.iconst 2, 1) := by decide +kernel
theorem dX10_cell_56 : decode cX10_cell 56 = .ok (.invokestatic 27, 3) := by decide +kernel
theorem dX10_cell_59 : decode cX10_cell 59 = .ok (.ifCond .eq 24, 3) := by decide +kernel
theorem dX10_cell_62 : decode cX10_cell 62 = .ok (.aload_n 0, 1) := by decide +kernel
theorem dX10_cell_63 : decode cX10_cell 63 = .ok (.getfield 10, 3) := by decide +kernel
theorem dX10_cell_66 : decode cX10_cell 66 = .ok (.iload_n 1, 1) := by decide +kernel
theorem dX10_cell_67 : decode cX10_cell 67 = .ok (.invokevirtual 48, 3) := by decide +kernel
theorem dX10_cell_70 : decode cX10_cell 70 = .ok (.checkcast 35, 3) := by decide +kernel
theorem dX10_cell_73 : decode cX10_cell 73 = .ok (.iload_n 2, 1) := by decide +kernel
theorem dX10_cell_74 : decode cX10_cell 74 = .ok (.iload_n 3, 1) := by decide +kernel
theorem dX10_cell_75 : decode cX10_cell 75 = .ok (.iload 4, 2) := by decide +kernel
theorem dX10_cell_77 : decode cX10_cell 77 = .ok (.invokestatic 211, 3) := by decide +kernel
theorem dX10_cell_80 : decode cX10_cell 80 = .ok (.goto 8, 3) := by decide +kernel
theorem dX10_cell_83 : decode cX10_cell 83 = .ok (.aload_n 0, 1) := by decide +kernel
theorem dX10_cell_84 : decode cX10_cell 84 = .ok (.iconst 2, 1) := by decide +kernel
theorem dX10_cell_85 : decode cX10_cell 85 = .ok (.invokevirtual 31, 3) := by decide +kernel
theorem dX10_cell_88 : decode cX10_cell 88 = .ok (.ireturn, 1) := by decide +kernel
set_option maxRecDepth 20000 in
theorem ggX10_ofMachine_X10_isMachine : GoodIn wsX10_ofMachine wsX10_isMachine := goodIn_r _ [8, 2, 9, 10, 11, 12, 13, 14, 15, 16, 7, 17, 122, 123, 124, 125, 126, 127, 128, 129, 130, 131] (by decide +kernel) (by decide +kernel)
set_option maxRecDepth 20000 in
theorem gX10_ofMachine_X10_isMachine : GoodIn wsX10_ofMachine (wsV RX10 44 RX10 yX10_isMachine wsX10_isMachine) := goodIn_app (goodIn_of _ (by decide +kernel)) ggX10_ofMachine_X10_isMachine
set_option maxRecDepth 20000 in
theorem ggX10_ofMachine_X10_refuse : GoodIn wsX10_ofMachine wsX10_refuse := goodIn_r _ [21, 1, 122, 123, 124, 125, 126, 127, 128] (by decide +kernel) (by decide +kernel)
set_option maxRecDepth 20000 in
theorem gX10_ofMachine_X10_refuse : GoodIn wsX10_ofMachine (wsV RX10 31 RX10 yX10_refuse wsX10_refuse) := goodIn_app (goodIn_of _ (by decide +kernel)) ggX10_ofMachine_X10_refuse
set_option maxRecDepth 20000 in
theorem ggX10_ofMachine_X10_is : GoodIn wsX10_ofMachine wsX10_is := goodIn_r _ [17] (by decide +kernel) (by decide +kernel)
set_option maxRecDepth 20000 in
theorem gX10_ofMachine_X10_is : GoodIn wsX10_ofMachine (va_wsS RX10 27 yX10_is wsX10_is) := goodIn_app (goodIn_of _ (by decide +kernel)) ggX10_ofMachine_X10_is
theorem dX10_ofMachine_0 : decode cX10_ofMachine 0 = .ok (.aload_n 0, 1) := by decide +kernel
theorem dX10_ofMachine_1 : decode cX10_ofMachine 1 = .ok (.iconst 0, 1) := by decide +kernel
theorem dX10_ofMachine_2 : decode cX10_ofMachine 2 = .ok (.putfield 19, 3) := by decide +kernel
theorem dX10_ofMachine_5 : decode cX10_ofMachine 5 = .ok (.aload_n 0, 1) := by decide +kernel
theorem dX10_ofMachine_6 : decode cX10_ofMachine 6 = .ok (.iload_n 1, 1) := by decide +kernel
theorem dX10_ofMachine_7 : decode cX10_ofMachine 7 = .ok (.invokevirtual 44, 3) := by decide +kernel
theorem dX10_ofMachine_10 : decode cX10_ofMachine 10 = .ok (.ifCond .ne 9, 3) := by decide +kernel
theorem dX10_ofMachine_13 : decode cX10_ofMachine 13 = .ok (.aload_n 0, 1) := by decide +kernel
theorem dX10_ofMachine_14 : decode cX10_ofMachine 14 = .ok (.iconst 1, 1) := by decide +kernel
theorem dX10_ofMachine_15 : decode cX10_ofMachine 15 = .ok (.invokevirtual 31, 3) := by decide +kernel
theorem dX10_ofMachine_18 : decode cX10_ofMachine 18 = .ok (.ireturn, 1) := by decide +kernel
theorem dX10_ofMachine_19 : decode cX10_ofMachine 19 = .ok (.iload_n 2, 1) := by decide +kernel
theorem dX10_ofMachine_20 : decode cX10_ofMachine 20 = .ok (.iconst 0, 1) := by decide +kernel
theorem dX10_ofMachine_21 : decode cX10_ofMachine 21 = .ok (.bipush 8, 2) := by decide +kernel
theorem dX10_ofMachine_23 : decode cX10_ofMachine 23 = .ok (.invokestatic 27, 3) := by decide +kernel
theorem dX10_ofMachine_26 : decode cX10_ofMachine 26 = .ok (.ifCond .eq 22, 3) := by decide +kernel
theorem dX10_ofMachine_29 : decode cX10_ofMachine 29 = .ok (.aload_n 0, 1) := by decide +kernel
theorem dX10_ofMachine_30 : decode cX10_ofMachine 30 = .ok (.aload_n 0, 1) := by decide +kernel
theorem dX10_ofMachine_31 : decode cX10_ofMachine 31 = .ok (.getfield 10, 3) := by decide +kernel
theorem dX10_ofMachine_34 : decode cX10_ofMachine 34 = .ok (.iload_n 1, 1) := by decide +kernel
theorem dX10_ofMachine_35 : decode cX10_ofMachine 35 = .ok (.invokevirtual 48, 3) := by decide +kernel
theorem dX10_ofMachine_38 : decode cX10_ofMachine 38 = .ok (.checkcast 35, 3) := by decide +kernel
theorem dX10_ofMachine_41 : decode cX10_ofMachine 41 = .ok (.iload_n 2, 1) := by decide +kernel
theorem dX10_ofMachine_42 : decode cX10_ofMachine 42 = .ok (.invokevirtual 221, 3) := by decide +kernel
theorem dX10_ofMachine_45 : decode cX10_ofMachine 45 = .ok (.goto 8, 3) := by decide +kernel
theorem dX10_ofMachine_48 : decode cX10_ofMachine 48 = .ok (.aload_n 0, 1) := by decide +kernel
theorem dX10_ofMachine_49 : decode cX10_ofMachine 49 = .ok (.iconst 2, 1) := by decide +kernel
theorem dX10_ofMachine_50 : decode cX10_ofMachine 50 = .ok (.invokevirtual 31, 3) := by decide +kernel
theorem dX10_ofMachine_53 : decode cX10_ofMachine 53 = .ok (.ireturn, 1) := by decide +kernel
set_option maxRecDepth 20000 in
theorem ggX10_at_X10_isMachine : GoodIn wsX10_at wsX10_isMachine := goodIn_r _ [8, 2, 9, 10, 11, 12, 13, 14, 15, 16, 7, 17, 105, 106, 107, 108, 109, 110, 111, 112, 113, 114] (by decide +kernel) (by decide +kernel)
set_option maxRecDepth 20000 in
theorem gX10_at_X10_isMachine : GoodIn wsX10_at (wsV RX10 44 RX10 yX10_isMachine wsX10_isMachine) := goodIn_app (goodIn_of _ (by decide +kernel)) ggX10_at_X10_isMachine
set_option maxRecDepth 20000 in
theorem ggX10_at_X10_refuse : GoodIn wsX10_at wsX10_refuse := goodIn_r _ [21, 1, 105, 106, 107, 108, 109, 110, 111] (by decide +kernel) (by decide +kernel)
set_option maxRecDepth 20000 in
theorem gX10_at_X10_refuse : GoodIn wsX10_at (wsV RX10 31 RX10 yX10_refuse wsX10_refuse) := goodIn_app (goodIn_of _ (by decide +kernel)) ggX10_at_X10_refuse
set_option maxRecDepth 20000 in
theorem ggX10_at_X10_is : GoodIn wsX10_at wsX10_is := goodIn_r _ [17] (by decide +kernel) (by decide +kernel)
set_option maxRecDepth 20000 in
theorem gX10_at_X10_is : GoodIn wsX10_at (va_wsS RX10 27 yX10_is wsX10_is) := goodIn_app (goodIn_of _ (by decide +kernel)) ggX10_at_X10_is
theorem dX10_at_0 : decode cX10_at 0 = .ok (.aload_n 0, 1) := by decide +kernel
theorem dX10_at_1 : decode cX10_at 1 = .ok (.iconst 0, 1) := by decide +kernel
theorem dX10_at_2 : decode cX10_at 2 = .ok (.putfield 19, 3) := by decide +kernel
theorem dX10_at_5 : decode cX10_at 5 = .ok (.aload_n 0, 1) := by decide +kernel
theorem dX10_at_6 : decode cX10_at 6 = .ok (.iload_n 1, 1) := by decide +kernel
theorem dX10_at_7 : decode cX10_at 7 = .ok (.invokevirtual 44, 3) := by decide +kernel
theorem dX10_at_10 : decode cX10_at 10 = .ok (.ifCond .ne 9, 3) := by decide +kernel
theorem dX10_at_13 : decode cX10_at 13 = .ok (.aload_n 0, 1) := by decide +kernel
theorem dX10_at_14 : decode cX10_at 14 = .ok (.iconst 1, 1) := by decide +kernel
theorem dX10_at_15 : decode cX10_at 15 = .ok (.invokevirtual 31, 3) := by decide +kernel
theorem dX10_at_18 : decode cX10_at 18 = .ok (.ireturn, 1) := by decide +kernel
theorem dX10_at_19 : decode cX10_at 19 = .ok (.iload_n 2, 1) := by decide +kernel
theorem dX10_at_20 : decode cX10_at 20 = .ok (.iconst 0, 1) := by decide +kernel
theorem dX10_at_21 : decode cX10_at 21 = .ok (.sipush 500, 3) := by decide +kernel
theorem dX10_at_24 : decode cX10_at 24 = .ok (.invokestatic 27, 3) := by decide +kernel
theorem dX10_at_27 : decode cX10_at 27 = .ok (.ifCond .eq 35, 3) := by decide +kernel
theorem dX10_at_30 : decode cX10_at 30 = .ok (.iload_n 3, 1) := by decide +kernel
theorem dX10_at_31 : decode cX10_at 31 = .ok (.iconst 0, 1) := by decide +kernel
theorem dX10_at_32 : decode cX10_at 32 = .ok (.bipush 7, 2) := by decide +kernel
theorem dX10_at_34 : decode cX10_at 34 = .ok (.invokestatic 27, 3) := by decide +kernel
theorem dX10_at_37 : decode cX10_at 37 = .ok (.ifCond .eq 25, 3) := by decide +kernel
theorem dX10_at_40 : decode cX10_at 40 = .ok (.aload_n 0, 1) := by decide +kernel
theorem dX10_at_41 : decode cX10_at 41 = .ok (.getfield 10, 3) := by decide +kernel
theorem dX10_at_44 : decode cX10_at 44 = .ok (.iload_n 1, 1) := by decide +kernel
theorem dX10_at_45 : decode cX10_at 45 = .ok (.invokevirtual 48, 3) := by decide +kernel
theorem dX10_at_48 : decode cX10_at 48 = .ok (.checkcast 35, 3) := by decide +kernel
theorem dX10_at_51 : decode cX10_at 51 = .ok (.iload_n 2, 1) := by decide +kernel
theorem dX10_at_52 : decode cX10_at 52 = .ok (.invokevirtual 81, 3) := by decide +kernel
theorem dX10_at_55 : decode cX10_at 55 = .ok (.iload_n 3, 1) := by decide +kernel
theorem dX10_at_56 : decode cX10_at 56 = .ok (.invokestatic 233, 3) := by decide +kernel
theorem dX10_at_59 : decode cX10_at 59 = .ok (.goto 8, 3) := by decide +kernel
theorem dX10_at_62 : decode cX10_at 62 = .ok (.aload_n 0, 1) := by decide +kernel
theorem dX10_at_63 : decode cX10_at 63 = .ok (.iconst 2, 1) := by decide +kernel
theorem dX10_at_64 : decode cX10_at 64 = .ok (.invokevirtual 31, 3) := by decide +kernel
theorem dX10_at_67 : decode cX10_at 67 = .ok (.ireturn, 1) := by decide +kernel
set_option maxRecDepth 20000 in
theorem ggX10_symbol_X10_isMachine : GoodIn wsX10_symbol wsX10_isMachine := goodIn_r _ [8, 2, 9, 10, 11, 12, 13, 14, 15, 16, 7, 17, 94, 95, 96, 97, 98, 99, 100, 101, 102, 103] (by decide +kernel) (by decide +kernel)
set_option maxRecDepth 20000 in
theorem gX10_symbol_X10_isMachine : GoodIn wsX10_symbol (wsV RX10 44 RX10 yX10_isMachine wsX10_isMachine) := goodIn_app (goodIn_of _ (by decide +kernel)) ggX10_symbol_X10_isMachine
set_option maxRecDepth 20000 in
theorem ggX10_symbol_X10_refuse : GoodIn wsX10_symbol wsX10_refuse := goodIn_r _ [21, 1, 94, 95, 96, 97, 98, 99, 100] (by decide +kernel) (by decide +kernel)
set_option maxRecDepth 20000 in
theorem gX10_symbol_X10_refuse : GoodIn wsX10_symbol (wsV RX10 31 RX10 yX10_refuse wsX10_refuse) := goodIn_app (goodIn_of _ (by decide +kernel)) ggX10_symbol_X10_refuse
set_option maxRecDepth 20000 in
theorem ggX10_symbol_X10_is : GoodIn wsX10_symbol wsX10_is := goodIn_r _ [17] (by decide +kernel) (by decide +kernel)
set_option maxRecDepth 20000 in
theorem gX10_symbol_X10_is : GoodIn wsX10_symbol (va_wsS RX10 27 yX10_is wsX10_is) := goodIn_app (goodIn_of _ (by decide +kernel)) ggX10_symbol_X10_is
theorem dX10_symbol_0 : decode cX10_symbol 0 = .ok (.aload_n 0, 1) := by decide +kernel
theorem dX10_symbol_1 : decode cX10_symbol 1 = .ok (.iconst 0, 1) := by decide +kernel
theorem dX10_symbol_2 : decode cX10_symbol 2 = .ok (.putfield 19, 3) := by decide +kernel
theorem dX10_symbol_5 : decode cX10_symbol 5 = .ok (.aload_n 0, 1) := by decide +kernel
theorem dX10_symbol_6 : decode cX10_symbol 6 = .ok (.iload_n 1, 1) := by decide +kernel
theorem dX10_symbol_7 : decode cX10_symbol 7 = .ok (.invokevirtual 44, 3) := by decide +kernel
theorem dX10_symbol_10 : decode cX10_symbol 10 = .ok (.ifCond .ne 9, 3) := by decide +kernel
theorem dX10_symbol_13 : decode cX10_symbol 13 = .ok (.aload_n 0, 1) := by decide +kernel
theorem dX10_symbol_14 : decode cX10_symbol 14 = .ok (.iconst 1, 1) := by decide +kernel
theorem dX10_symbol_15 : decode cX10_symbol 15 = .ok (.invokevirtual 31, 3) := by decide +kernel
theorem dX10_symbol_18 : decode cX10_symbol 18 = .ok (.ireturn, 1) := by decide +kernel
theorem dX10_symbol_19 : decode cX10_symbol 19 = .ok (.iload_n 2, 1) := by decide +kernel
theorem dX10_symbol_20 : decode cX10_symbol 20 = .ok (.iconst 0, 1) := by decide +kernel
theorem dX10_symbol_21 : decode cX10_symbol 21 = .ok (.sipush 500, 3) := by decide +kernel
theorem dX10_symbol_24 : decode cX10_symbol 24 = .ok (.invokestatic 27, 3) := by decide +kernel
theorem dX10_symbol_27 : decode cX10_symbol 27 = .ok (.ifCond .eq 38, 3) := by decide +kernel
theorem dX10_symbol_30 : decode cX10_symbol 30 = .ok (.iload_n 3, 1) := by decide +kernel
theorem dX10_symbol_31 : decode cX10_symbol 31 = .ok (.sipush (-501), 3) := by decide +kernel
theorem dX10_symbol_34 : decode cX10_symbol 34 = .ok (.sipush 501, 3) := by decide +kernel
theorem dX10_symbol_37 : decode cX10_symbol 37 = .ok (.invokestatic 27, 3) := by decide +kernel
theorem dX10_symbol_40 : decode cX10_symbol 40 = .ok (.ifCond .eq 25, 3) := by decide +kernel
theorem dX10_symbol_43 : decode cX10_symbol 43 = .ok (.aload_n 0, 1) := by decide +kernel
theorem dX10_symbol_44 : decode cX10_symbol 44 = .ok (.getfield 10, 3) := by decide +kernel
theorem dX10_symbol_47 : decode cX10_symbol 47 = .ok (.iload_n 1, 1) := by decide +kernel
theorem dX10_symbol_48 : decode cX10_symbol 48 = .ok (.invokevirtual 48, 3) := by decide +kernel
theorem dX10_symbol_51 : decode cX10_symbol 51 = .ok (.checkcast 35, 3) := by decide +kernel
theorem dX10_symbol_54 : decode cX10_symbol 54 = .ok (.iload_n 2, 1) := by decide +kernel
theorem dX10_symbol_55 : decode cX10_symbol 55 = .ok (.invokevirtual 81, 3) := by decide +kernel
theorem dX10_symbol_58 : decode cX10_symbol 58 = .ok (.iload_n 3, 1) := by decide +kernel
theorem dX10_symbol_59 : decode cX10_symbol 59 = .ok (.invokevirtual 144, 3) := by decide +kernel
theorem dX10_symbol_62 : decode cX10_symbol 62 = .ok (.goto 8, 3) := by decide +kernel
theorem dX10_symbol_65 : decode cX10_symbol 65 = .ok (.aload_n 0, 1) := by decide +kernel
theorem dX10_symbol_66 : decode cX10_symbol 66 = .ok (.iconst 2, 1) := by decide +kernel
theorem dX10_symbol_67 : decode cX10_symbol 67 = .ok (.invokevirtual 31, 3) := by decide +kernel
theorem dX10_symbol_70 : decode cX10_symbol 70 = .ok (.ireturn, 1) := by decide +kernel
set_option maxRecDepth 20000 in
theorem ggX10_lean_X10_isMachine : GoodIn wsX10_lean wsX10_isMachine := goodIn_r _ [13, 2, 14, 15, 16, 17, 18, 19, 20, 21, 12, 22, 90, 91, 92, 93, 94, 95, 96, 105, 106, 107] (by decide +kernel) (by decide +kernel)
set_option maxRecDepth 20000 in
theorem gX10_lean_X10_isMachine : GoodIn wsX10_lean (wsV RX10 44 RX10 yX10_isMachine wsX10_isMachine) := goodIn_app (goodIn_of _ (by decide +kernel)) ggX10_lean_X10_isMachine
set_option maxRecDepth 20000 in
theorem ggX10_lean_X10_is : GoodIn wsX10_lean wsX10_is := goodIn_r _ [22] (by decide +kernel) (by decide +kernel)
set_option maxRecDepth 20000 in
theorem gX10_lean_X10_is : GoodIn wsX10_lean (va_wsS RX10 27 yX10_is wsX10_is) := goodIn_app (goodIn_of _ (by decide +kernel)) ggX10_lean_X10_is
theorem dX10_lean_0 : decode cX10_lean 0 = .ok (.aload_n 0, 1) := by decide +kernel
theorem dX10_lean_1 : decode cX10_lean 1 = .ok (.aload_n 0, 1) := by decide +kernel
theorem dX10_lean_2 : decode cX10_lean 2 = .ok (.iload_n 1, 1) := by decide +kernel
theorem dX10_lean_3 : decode cX10_lean 3 = .ok (.invokevirtual 44, 3) := by decide +kernel
theorem dX10_lean_6 : decode cX10_lean 6 = .ok (.ifCond .ne 7, 3) := by decide +kernel
theorem dX10_lean_9 : decode cX10_lean 9 = .ok (.iconst 1, 1) := by decide +kernel
theorem dX10_lean_10 : decode cX10_lean 10 = .ok (.goto 19, 3) := by decide +kernel
theorem dX10_lean_13 : decode cX10_lean 13 = .ok (.iload_n 2, 1) := by decide +kernel
theorem dX10_lean_14 : decode cX10_lean 14 = .ok (.iconst 0, 1) := by decide +kernel
theorem dX10_lean_15 : decode cX10_lean 15 = .ok (.sipush 500, 3) := by decide +kernel
theorem dX10_lean_18 : decode cX10_lean 18 = .ok (.invokestatic 27, 3) := by decide +kernel
theorem dX10_lean_21 : decode cX10_lean 21 = .ok (.ifCond .eq 7, 3) := by decide +kernel
theorem dX10_lean_24 : decode cX10_lean 24 = .ok (.iconst 0, 1) := by decide +kernel
theorem dX10_lean_25 : decode cX10_lean 25 = .ok (.goto 4, 3) := by decide +kernel
theorem dX10_lean_28 : decode cX10_lean 28 = .ok (.iconst 2, 1) := by decide +kernel
theorem dX10_lean_29 : decode cX10_lean 29 = .ok (.putfield 19, 3) := by decide +kernel
theorem dX10_lean_32 : decode cX10_lean 32 = .ok (.aload_n 0, 1) := by decide +kernel
theorem dX10_lean_33 : decode cX10_lean 33 = .ok (.getfield 19, 3) := by decide +kernel
theorem dX10_lean_36 : decode cX10_lean 36 = .ok (.ifCond .le 5, 3) := by decide +kernel
theorem dX10_lean_39 : decode cX10_lean 39 = .ok (.dconst 0, 1) := by decide +kernel
theorem dX10_lean_40 : decode cX10_lean 40 = .ok (.dreturn, 1) := by decide +kernel
theorem dX10_lean_41 : decode cX10_lean 41 = .ok (.aload_n 0, 1) := by decide +kernel
theorem dX10_lean_42 : decode cX10_lean 42 = .ok (.getfield 10, 3) := by decide +kernel
theorem dX10_lean_45 : decode cX10_lean 45 = .ok (.iload_n 1, 1) := by decide +kernel
theorem dX10_lean_46 : decode cX10_lean 46 = .ok (.invokevirtual 48, 3) := by decide +kernel
theorem dX10_lean_49 : decode cX10_lean 49 = .ok (.checkcast 35, 3) := by decide +kernel
theorem dX10_lean_52 : decode cX10_lean 52 = .ok (.iload_n 2, 1) := by decide +kernel
theorem dX10_lean_53 : decode cX10_lean 53 = .ok (.invokevirtual 81, 3) := by decide +kernel
theorem dX10_lean_56 : decode cX10_lean 56 = .ok (.astore_n 3, 1) := by decide +kernel
theorem dX10_lean_57 : decode cX10_lean 57 = .ok (.iconst 4, 1) := by decide +kernel
theorem dX10_lean_58 : decode cX10_lean 58 = .ok (.aload_n 3, 1) := by decide +kernel
theorem dX10_lean_59 : decode cX10_lean 59 = .ok (.getfield 132, 3) := by decide +kernel
theorem dX10_lean_62 : decode cX10_lean 62 = .ok (.invokestatic 218, 3) := by decide +kernel
theorem dX10_lean_65 : decode cX10_lean 65 = .ok (.imul, 1) := by decide +kernel
theorem dX10_lean_66 : decode cX10_lean 66 = .ok (.istore 4, 2) := by decide +kernel
theorem dX10_lean_68 : decode cX10_lean 68 = .ok (.aload_n 3, 1) := by decide +kernel
theorem dX10_lean_69 : decode cX10_lean 69 = .ok (.getfield 112, 3) := by decide +kernel
theorem dX10_lean_72 : decode cX10_lean 72 = .ok (.ifCond .ne 7, 3) := by decide +kernel
theorem dX10_lean_75 : decode cX10_lean 75 = .ok (.iconst 0, 1) := by decide +kernel
theorem dX10_lean_76 : decode cX10_lean 76 = .ok (.goto 10, 3) := by decide +kernel
theorem dX10_lean_79 : decode cX10_lean 79 = .ok (.iload 4, 2) := by decide +kernel
theorem dX10_lean_81 : decode cX10_lean 81 = .ok (.aload_n 3, 1) := by decide +kernel
theorem dX10_lean_82 : decode cX10_lean 82 = .ok (.getfield 112, 3) := by decide +kernel
theorem dX10_lean_85 : decode cX10_lean 85 = .ok (.idiv, 1) := by decide +kernel
theorem dX10_lean_86 : decode cX10_lean 86 = .ok (.istore 5, 2) := by decide +kernel
theorem dX10_lean_88 : decode cX10_lean 88 = .ok (.aload_n 3, 1) := by decide +kernel
theorem dX10_lean_89 : decode cX10_lean 89 = .ok (.getfield 112, 3) := by decide +kernel
theorem dX10_lean_92 : decode cX10_lean 92 = .ok (.ifCond .ne 7, 3) := by decide +kernel
theorem dX10_lean_95 : decode cX10_lean 95 = .ok (.iconst 0, 1) := by decide +kernel
theorem dX10_lean_96 : decode cX10_lean 96 = .ok (.goto 17, 3) := by decide +kernel
theorem dX10_lean_99 : decode cX10_lean 99 = .ok (.iconst 2, 1) := by decide +kernel
theorem dX10_lean_100 : decode cX10_lean 100 = .ok (.iload 4, 2) := by decide +kernel
theorem dX10_lean_102 : decode cX10_lean 102 = .ok (.aload_n 3, 1) := by decide +kernel
theorem dX10_lean_103 : decode cX10_lean 103 = .ok (.getfield 112, 3) := by decide +kernel
theorem dX10_lean_106 : decode cX10_lean 106 = .ok (.irem, 1) := by decide +kernel
theorem dX10_lean_107 : decode cX10_lean 107 = .ok (.imul, 1) := by decide +kernel
theorem dX10_lean_108 : decode cX10_lean 108 = .ok (.aload_n 3, 1) := by decide +kernel
theorem dX10_lean_109 : decode cX10_lean 109 = .ok (.getfield 112, 3) := by decide +kernel
theorem dX10_lean_112 : decode cX10_lean 112 = .ok (.isub, 1) := by decide +kernel
theorem dX10_lean_113 : decode cX10_lean 113 = .ok (.istore 6, 2) := by decide +kernel
theorem dX10_lean_115 : decode cX10_lean 115 = .ok (.iload 6, 2) := by decide +kernel
theorem dX10_lean_117 : decode cX10_lean 117 = .ok (.ifCond .gt 23, 3) := by decide +kernel
theorem dX10_lean_120 : decode cX10_lean 120 = .ok (.iload 6, 2) := by decide +kernel
theorem dX10_lean_122 : decode cX10_lean 122 = .ok (.ifCond .ne 21, 3) := by decide +kernel
theorem dX10_lean_125 : decode cX10_lean 125 = .ok (.aload_n 3, 1) := by decide +kernel
theorem dX10_lean_126 : decode cX10_lean 126 = .ok (.getfield 112, 3) := by decide +kernel
theorem dX10_lean_129 : decode cX10_lean 129 = .ok (.ifCond .le 14, 3) := by decide +kernel
theorem dX10_lean_132 : decode cX10_lean 132 = .ok (.iload 5, 2) := by decide +kernel
theorem dX10_lean_134 : decode cX10_lean 134 = .ok (.iconst 2, 1) := by decide +kernel
theorem dX10_lean_135 : decode cX10_lean 135 = .ok (.irem, 1) := by decide +kernel
theorem dX10_lean_136 : decode cX10_lean 136 = .ok (.iconst 1, 1) := by decide +kernel
theorem dX10_lean_137 : decode cX10_lean 137 = .ok (.if_icmp .ne 6, 3) := by decide +kernel
theorem dX10_lean_140 : decode cX10_lean 140 = .ok (.iinc 5 1, 3) := by decide +kernel
theorem dX10_lean_143 : decode cX10_lean 143 = .ok (.aload_n 3, 1) := by decide +kernel
theorem dX10_lean_144 : decode cX10_lean 144 = .ok (.getfield 132, 3) := by decide +kernel
theorem dX10_lean_147 : decode cX10_lean 147 = .ok (.ifCond .ge 9, 3) := by decide +kernel
theorem dX10_lean_150 : decode cX10_lean 150 = .ok (.iload 5, 2) := by decide +kernel
theorem dX10_lean_152 : decode cX10_lean 152 = .ok (.ineg, 1) := by decide +kernel
theorem dX10_lean_153 : decode cX10_lean 153 = .ok (.goto 5, 3) := by decide +kernel
theorem dX10_lean_156 : decode cX10_lean 156 = .ok (.iload 5, 2) := by decide +kernel
theorem dX10_lean_158 : decode cX10_lean 158 = .ok (.i2d, 1) := by decide +kernel
theorem dX10_lean_159 : decode cX10_lean 159 = .ok (.ldc2_w 237, 3) := by decide +kernel
theorem dX10_lean_162 : decode cX10_lean 162 = .ok (.ddiv, 1) := by decide +kernel
theorem dX10_lean_163 : decode cX10_lean 163 = .ok (.dreturn, 1) := by decide +kernel
set_option maxRecDepth 20000 in
theorem ggX10_meets_X10_isMachine : GoodIn wsX10_meets wsX10_isMachine := goodIn_r _ [11, 2, 12, 13, 14, 15, 16, 17, 18, 19, 10, 20, 87, 88, 89, 90, 91, 92, 93, 107, 108, 109] (by decide +kernel) (by decide +kernel)
set_option maxRecDepth 20000 in
theorem gX10_meets_X10_isMachine : GoodIn wsX10_meets (wsV RX10 44 RX10 yX10_isMachine wsX10_isMachine) := goodIn_app (goodIn_of _ (by decide +kernel)) ggX10_meets_X10_isMachine
set_option maxRecDepth 20000 in
theorem ggX10_meets_X10_is : GoodIn wsX10_meets wsX10_is := goodIn_r _ [20] (by decide +kernel) (by decide +kernel)
set_option maxRecDepth 20000 in
theorem gX10_meets_X10_is : GoodIn wsX10_meets (va_wsS RX10 27 yX10_is wsX10_is) := goodIn_app (goodIn_of _ (by decide +kernel)) ggX10_meets_X10_is
set_option maxRecDepth 20000 in
theorem ggX10_meets_X10_refuse : GoodIn wsX10_meets wsX10_refuse := goodIn_r _ [41, 1, 87, 88, 89, 90, 91, 92, 93] (by decide +kernel) (by decide +kernel)
set_option maxRecDepth 20000 in
theorem gX10_meets_X10_refuse : GoodIn wsX10_meets (wsV RX10 31 RX10 yX10_refuse wsX10_refuse) := goodIn_app (goodIn_of _ (by decide +kernel)) ggX10_meets_X10_refuse
theorem dX10_meets_0 : decode cX10_meets 0 = .ok (.aload_n 0, 1) := by decide +kernel
theorem dX10_meets_1 : decode cX10_meets 1 = .ok (.iconst 0, 1) := by decide +kernel
theorem dX10_meets_2 : decode cX10_meets 2 = .ok (.putfield 19, 3) := by decide +kernel
theorem dX10_meets_5 : decode cX10_meets 5 = .ok (.aload_n 0, 1) := by decide +kernel
theorem dX10_meets_6 : decode cX10_meets 6 = .ok (.iload_n 1, 1) := by decide +kernel
theorem dX10_meets_7 : decode cX10_meets 7 = .ok (.invokevirtual 44, 3) := by decide +kernel
theorem dX10_meets_10 : decode cX10_meets 10 = .ok (.ifCond .eq 36, 3) := by decide +kernel
theorem dX10_meets_13 : decode cX10_meets 13 = .ok (.iload_n 2, 1) := by decide +kernel
theorem dX10_meets_14 : decode cX10_meets 14 = .ok (.iconst 0, 1) := by decide +kernel
theorem dX10_meets_15 : decode cX10_meets 15 = .ok (.aload_n 0, 1) := by decide +kernel
theorem dX10_meets_16 : decode cX10_meets 16 = .ok (.getfield 10, 3) := by decide +kernel
theorem dX10_meets_19 : decode cX10_meets 19 = .ok (.iload_n 1, 1) := by decide +kernel
theorem dX10_meets_20 : decode cX10_meets 20 = .ok (.invokevirtual 48, 3) := by decide +kernel
theorem dX10_meets_23 : decode cX10_meets 23 = .ok (.checkcast 35, 3) := by decide +kernel
theorem dX10_meets_26 : decode cX10_meets 26 = .ok (.getfield 52, 3) := by decide +kernel
theorem dX10_meets_29 : decode cX10_meets 29 = .ok (.iconst 1, 1) := by decide +kernel
theorem dX10_meets_30 : decode cX10_meets 30 = .ok (.isub, 1) := by decide +kernel
theorem dX10_meets_31 : decode cX10_meets 31 = .ok (.invokestatic 27, 3) := by decide +kernel
theorem dX10_meets_34 : decode cX10_meets 34 = .ok (.ifCond .eq 12, 3) := by decide +kernel
theorem dX10_meets_37 : decode cX10_meets 37 = .ok (.iload_n 3, 1) := by decide +kernel
theorem dX10_meets_38 : decode cX10_meets 38 = .ok (.iconst 0, 1) := by decide +kernel
theorem dX10_meets_39 : decode cX10_meets 39 = .ok (.iconst 1, 1) := by decide +kernel
theorem dX10_meets_40 : decode cX10_meets 40 = .ok (.invokestatic 27, 3) := by decide +kernel
theorem dX10_meets_43 : decode cX10_meets 43 = .ok (.ifCond .ne 9, 3) := by decide +kernel
theorem dX10_meets_46 : decode cX10_meets 46 = .ok (.aload_n 0, 1) := by decide +kernel
theorem dX10_meets_47 : decode cX10_meets 47 = .ok (.iconst 1, 1) := by decide +kernel
theorem dX10_meets_48 : decode cX10_meets 48 = .ok (.invokevirtual 31, 3) := by decide +kernel
theorem dX10_meets_51 : decode cX10_meets 51 = .ok (.ireturn, 1) := by decide +kernel
theorem dX10_meets_52 : decode cX10_meets 52 = .ok (.iload 4, 2) := by decide +kernel
theorem dX10_meets_54 : decode cX10_meets 54 = .ok (.iconst 0, 1) := by decide +kernel
theorem dX10_meets_55 : decode cX10_meets 55 = .ok (.sipush 500, 3) := by decide +kernel
theorem dX10_meets_58 : decode cX10_meets 58 = .ok (.invokestatic 27, 3) := by decide +kernel
theorem dX10_meets_61 : decode cX10_meets 61 = .ok (.ifCond .ne 9, 3) := by decide +kernel
theorem dX10_meets_64 : decode cX10_meets 64 = .ok (.aload_n 0, 1) := by decide +kernel
theorem dX10_meets_65 : decode cX10_meets 65 = .ok (.iconst 2, 1) := by decide +kernel
theorem dX10_meets_66 : decode cX10_meets 66 = .ok (.invokevirtual 31, 3) := by decide +kernel
theorem dX10_meets_69 : decode cX10_meets 69 = .ok (.ireturn, 1) := by decide +kernel
theorem dX10_meets_70 : decode cX10_meets 70 = .ok (.new 86, 3) := by decide +kernel
theorem dX10_meets_73 : decode cX10_meets 73 = .ok (.dup, 1) := by decide +kernel
theorem dX10_meets_74 : decode cX10_meets 74 = .ok (.aload_n 0, 1) := by decide +kernel
theorem dX10_meets_75 : decode cX10_meets 75 = .ok (.getfield 10, 3) := by decide +kernel
theorem dX10_meets_78 : decode cX10_meets 78 = .ok (.iload_n 1, 1) := by decide +kernel
theorem dX10_meets_79 : decode cX10_meets 79 = .ok (.invokevirtual 48, 3) := by decide +kernel
theorem dX10_meets_82 : decode cX10_meets 82 = .ok (.checkcast 35, 3) := by decide +kernel
theorem dX10_meets_85 : decode cX10_meets 85 = .ok (.iload 4, 2) := by decide +kernel
theorem dX10_meets_87 : decode cX10_meets 87 = .ok (.invokespecial 126, 3) := by decide +kernel
theorem dX10_meets_90 : decode cX10_meets 90 = .ok (.astore 5, 2) := by decide +kernel
theorem dX10_meets_92 : decode cX10_meets 92 = .ok (.aload 5, 2) := by decide +kernel
theorem dX10_meets_94 : decode cX10_meets 94 = .ok (.getfield 103, 3) := by decide +kernel
theorem dX10_meets_97 : decode cX10_meets 97 = .ok (.iload_n 2, 1) := by decide +kernel
theorem dX10_meets_98 : decode cX10_meets 98 = .ok (.if_icmp .ne 12, 3) := by decide +kernel
theorem dX10_meets_101 : decode cX10_meets 101 = .ok (.aload 5, 2) := by decide +kernel
theorem dX10_meets_103 : decode cX10_meets 103 = .ok (.invokevirtual 106, 3) := by decide +kernel
theorem dX10_meets_106 : decode cX10_meets 106 = .ok (.iload_n 3, 1) := by decide +kernel
theorem dX10_meets_107 : decode cX10_meets 107 = .ok (.if_icmp .eq 23, 3) := by decide +kernel
theorem dX10_meets_110 : decode cX10_meets 110 = .ok (.aload 5, 2) := by decide +kernel
theorem dX10_meets_112 : decode cX10_meets 112 = .ok (.getfield 112, 3) := by decide +kernel
theorem dX10_meets_115 : decode cX10_meets 115 = .ok (.iload 4, 2) := by decide +kernel
theorem dX10_meets_117 : decode cX10_meets 117 = .ok (.if_icmp .eq 11, 3) := by decide +kernel
theorem dX10_meets_120 : decode cX10_meets 120 = .ok (.aload 5, 2) := by decide +kernel
theorem dX10_meets_122 : decode cX10_meets 122 = .ok (.invokevirtual 129, 3) := by decide +kernel
theorem dX10_meets_125 : decode cX10_meets 125 = .ok (.ifCond .ne (-33), 3) := by decide +kernel
theorem dX10_meets_128 : decode cX10_meets 128 = .ok (.iconst (-1), 1) := by decide +kernel
theorem dX10_meets_129 : decode cX10_meets 129 = .ok (.ireturn, 1) := by decide +kernel
theorem dX10_meets_130 : decode cX10_meets 130 = .ok (.aload 5, 2) := by decide +kernel
theorem dX10_meets_132 : decode cX10_meets 132 = .ok (.getfield 112, 3) := by decide +kernel
theorem dX10_meets_135 : decode cX10_meets 135 = .ok (.ireturn, 1) := by decide +kernel
