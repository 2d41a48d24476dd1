set_option maxRecDepth 20000 in
theorem ggL_tell_X7_tell : GoodIn wsL_tell wsX7_tell := goodIn_ca (goodIn_ca (goodIn_ca (goodIn_r _ [8, 9, 10, 11, 12, 13, 7, 14, 15, 16, 17, 18, 19, 20, 21, 22, 23, 24, 25, 26, 27, 28, 29, 30, 31, 32, 33, 34, 35, 36, 37, 38, 39, 40, 41, 42, 43, 44, 45, 46, 47, 48, 49, 50, 51, 52, 53, 54, 55, 56, 57, 58, 59, 60, 61, 62, 63, 64, 65, 66, 67, 68, 69, 70, 71, 72, 73, 74, 75, 76, 77, 78, 79, 80, 81, 82, 83, 84, 85, 86] (by decide +kernel) (by decide +kernel)) (goodIn_sub (fun _ h => List.mem_cons_of_mem _ (List.mem_append_left _ (List.mem_append_left _ (List.mem_append_right _ h)))) (by decide +kernel))) (goodIn_sub (fun _ h => List.mem_cons_of_mem _ (List.mem_append_left _ (List.mem_append_right _ h))) (by decide +kernel))) (goodIn_sub (fun _ h => List.mem_cons_of_mem _ (List.mem_append_right _ h)) (by decide +kernel))
set_option maxRecDepth 20000 in
theorem gL_tell_X7_tell : GoodIn wsL_tell (wsV RL 17 RX7 yX7_tell wsX7_tell) := goodIn_app (goodIn_of _ (by decide +kernel)) ggL_tell_X7_tell
theorem dL_tell_0 : decode cL_tell 0 = .ok (.aload 7, 2) := by decide +kernel
theorem dL_tell_2 : decode cL_tell 2 = .ok (.iconst 0, 1) := by decide +kernel
theorem dL_tell_3 : decode cL_tell 3 = .ok (.aload_n 0, 1) := by decide +kernel
theorem dL_tell_4 : decode cL_tell 4 = .ok (.iload_n 1, 1) := by decide +kernel
theorem dL_tell_5 : decode cL_tell 5 = .ok (.iload_n 2, 1) := by decide +kernel
theorem dL_tell_6 : decode cL_tell 6 = .ok (.iload_n 3, 1) := by decide +kernel
theorem dL_tell_7 : decode cL_tell 7 = .ok (.iload 4, 2) := by decide +kernel
theorem dL_tell_9 : decode cL_tell 9 = .ok (.iload 5, 2) := by decide +kernel
theorem dL_tell_11 : decode cL_tell 11 = .ok (.iload 6, 2) := by decide +kernel
theorem dL_tell_13 : decode cL_tell 13 = .ok (.invokevirtual 17, 3) := by decide +kernel
theorem dL_tell_16 : decode cL_tell 16 = .ok (.i2l, 1) := by decide +kernel
theorem dL_tell_17 : decode cL_tell 17 = .ok (.lastore, 1) := by decide +kernel
theorem dL_tell_18 : decode cL_tell 18 = .ok (.goto 15, 3) := by decide +kernel
theorem dL_tell_21 : decode cL_tell 21 = .ok (.astore 8, 2) := by decide +kernel
theorem dL_tell_23 : decode cL_tell 23 = .ok (.iconst 1, 1) := by decide +kernel
theorem dL_tell_24 : decode cL_tell 24 = .ok (.ireturn, 1) := by decide +kernel
theorem dL_tell_25 : decode cL_tell 25 = .ok (.astore 8, 2) := by decide +kernel
theorem dL_tell_27 : decode cL_tell 27 = .ok (.iconst 2, 1) := by decide +kernel
theorem dL_tell_28 : decode cL_tell 28 = .ok (.ireturn, 1) := by decide +kernel
theorem dL_tell_29 : decode cL_tell 29 = .ok (.astore 8, 2) := by decide +kernel
theorem dL_tell_31 : decode cL_tell 31 = .ok (.iconst 3, 1) := by decide +kernel
theorem dL_tell_32 : decode cL_tell 32 = .ok (.ireturn, 1) := by decide +kernel
theorem dL_tell_33 : decode cL_tell 33 = .ok (.iconst 0, 1) := by decide +kernel
theorem dL_tell_34 : decode cL_tell 34 = .ok (.ireturn, 1) := by decide +kernel
set_option maxRecDepth 20000 in
theorem ggL_amend_X7_amend : GoodIn wsL_amend wsX7_amend := goodIn_ca (goodIn_ca (goodIn_ca (goodIn_r _ [8, 9, 10, 11, 12, 13, 7, 14, 15, 16, 17, 18, 19, 20, 21, 22, 23, 24, 25, 26, 27, 28, 29, 30, 31, 32, 33, 34, 35, 36, 37, 38, 39, 40, 41, 42, 43, 44, 45, 46, 47, 48, 49, 50, 51, 52, 53, 54, 55, 56, 57, 58, 59, 60, 61, 62, 63, 64, 65, 66, 67, 68, 69, 70, 71, 72, 73, 74, 75, 76] (by decide +kernel) (by decide +kernel)) (goodIn_sub (fun _ h => List.mem_cons_of_mem _ (List.mem_append_left _ (List.mem_append_left _ (List.mem_append_right _ h)))) (by decide +kernel))) (goodIn_sub (fun _ h => List.mem_cons_of_mem _ (List.mem_append_left _ (List.mem_append_right _ h))) (by decide +kernel))) (goodIn_sub (fun _ h => List.mem_cons_of_mem _ (List.mem_append_right _ h)) (by decide +kernel))
set_option maxRecDepth 20000 in
theorem gL_amend_X7_amend : GoodIn wsL_amend (wsV RL 23 RX7 yX7_amend wsX7_amend) := goodIn_app (goodIn_of _ (by decide +kernel)) ggL_amend_X7_amend
theorem dL_amend_0 : decode cL_amend 0 = .ok (.aload 7, 2) := by decide +kernel
theorem dL_amend_2 : decode cL_amend 2 = .ok (.iconst 0, 1) := by decide +kernel
theorem dL_amend_3 : decode cL_amend 3 = .ok (.aload_n 0, 1) := by decide +kernel
theorem dL_amend_4 : decode cL_amend 4 = .ok (.iload_n 1, 1) := by decide +kernel
theorem dL_amend_5 : decode cL_amend 5 = .ok (.iload_n 2, 1) := by decide +kernel
theorem dL_amend_6 : decode cL_amend 6 = .ok (.iload_n 3, 1) := by decide +kernel
theorem dL_amend_7 : decode cL_amend 7 = .ok (.iload 4, 2) := by decide +kernel
theorem dL_amend_9 : decode cL_amend 9 = .ok (.iload 5, 2) := by decide +kernel
theorem dL_amend_11 : decode cL_amend 11 = .ok (.iload 6, 2) := by decide +kernel
theorem dL_amend_13 : decode cL_amend 13 = .ok (.invokevirtual 23, 3) := by decide +kernel
theorem dL_amend_16 : decode cL_amend 16 = .ok (.ifCond .eq 7, 3) := by decide +kernel
theorem dL_amend_19 : decode cL_amend 19 = .ok (.lconst 1, 1) := by decide +kernel
theorem dL_amend_20 : decode cL_amend 20 = .ok (.goto 4, 3) := by decide +kernel
theorem dL_amend_23 : decode cL_amend 23 = .ok (.lconst 0, 1) := by decide +kernel
theorem dL_amend_24 : decode cL_amend 24 = .ok (.lastore, 1) := by decide +kernel
theorem dL_amend_25 : decode cL_amend 25 = .ok (.goto 15, 3) := by decide +kernel
theorem dL_amend_28 : decode cL_amend 28 = .ok (.astore 8, 2) := by decide +kernel
theorem dL_amend_30 : decode cL_amend 30 = .ok (.iconst 1, 1) := by decide +kernel
theorem dL_amend_31 : decode cL_amend 31 = .ok (.ireturn, 1) := by decide +kernel
theorem dL_amend_32 : decode cL_amend 32 = .ok (.astore 8, 2) := by decide +kernel
theorem dL_amend_34 : decode cL_amend 34 = .ok (.iconst 2, 1) := by decide +kernel
theorem dL_amend_35 : decode cL_amend 35 = .ok (.ireturn, 1) := by decide +kernel
theorem dL_amend_36 : decode cL_amend 36 = .ok (.astore 8, 2) := by decide +kernel
theorem dL_amend_38 : decode cL_amend 38 = .ok (.iconst 3, 1) := by decide +kernel
theorem dL_amend_39 : decode cL_amend 39 = .ok (.ireturn, 1) := by decide +kernel
theorem dL_amend_40 : decode cL_amend 40 = .ok (.iconst 0, 1) := by decide +kernel
theorem dL_amend_41 : decode cL_amend 41 = .ok (.ireturn, 1) := by decide +kernel
set_option maxRecDepth 20000 in
theorem ggL_child_X7_child : GoodIn wsL_child wsX7_child := goodIn_ca (goodIn_ca (goodIn_ca (goodIn_r _ [8, 9, 10, 11, 12, 13, 14, 15, 16, 7, 17, 18, 19, 20, 21, 22, 23, 24, 25, 26, 27, 28, 29, 30, 31, 32, 33, 34, 35, 36, 37, 38, 39, 40, 41, 42, 43, 44, 45, 46, 47, 48, 49, 50, 51, 52, 53, 54, 55, 56, 57, 58, 59, 60, 61, 62, 63, 64, 65, 66, 67, 68, 69, 70, 71, 72, 73, 74, 75, 76, 77, 78, 79, 80, 81, 82, 83, 84, 85, 86, 87, 88, 89, 90, 91, 92, 93, 94, 95, 96, 97, 98, 99, 100, 101, 102, 103, 104, 105, 106, 107, 108, 109, 110, 111, 112, 113, 114, 115, 116, 117, 118, 119, 120, 121, 122, 123, 124, 125, 126, 127, 128, 129, 130, 131, 132, 133, 134, 135, 136, 137, 138, 139, 140, 141, 142, 143, 144, 145, 146, 147, 148, 149, 150, 151, 152, 153, 154, 155, 156, 157, 158, 159, 160, 161, 162, 163, 164, 165, 166, 167, 168, 169, 170, 171, 172, 173] (by decide +kernel) (by decide +kernel)) (goodIn_sub (fun _ h => List.mem_cons_of_mem _ (List.mem_append_left _ (List.mem_append_left _ (List.mem_append_right _ h)))) (by decide +kernel))) (goodIn_sub (fun _ h => List.mem_cons_of_mem _ (List.mem_append_left _ (List.mem_append_right _ h))) (by decide +kernel))) (goodIn_sub (fun _ h => List.mem_cons_of_mem _ (List.mem_append_right _ h)) (by decide +kernel))
set_option maxRecDepth 20000 in
theorem gL_child_X7_child : GoodIn wsL_child (wsV RL 27 RX7 yX7_child wsX7_child) := goodIn_app (goodIn_of _ (by decide +kernel)) ggL_child_X7_child
theorem dL_child_0 : decode cL_child 0 = .ok (.aload_n 3, 1) := by decide +kernel
theorem dL_child_1 : decode cL_child 1 = .ok (.iconst 0, 1) := by decide +kernel
theorem dL_child_2 : decode cL_child 2 = .ok (.aload_n 0, 1) := by decide +kernel
theorem dL_child_3 : decode cL_child 3 = .ok (.iload_n 1, 1) := by decide +kernel
theorem dL_child_4 : decode cL_child 4 = .ok (.iload_n 2, 1) := by decide +kernel
theorem dL_child_5 : decode cL_child 5 = .ok (.invokevirtual 27, 3) := by decide +kernel
theorem dL_child_8 : decode cL_child 8 = .ok (.i2l, 1) := by decide +kernel
theorem dL_child_9 : decode cL_child 9 = .ok (.lastore, 1) := by decide +kernel
theorem dL_child_10 : decode cL_child 10 = .ok (.goto 15, 3) := by decide +kernel
theorem dL_child_13 : decode cL_child 13 = .ok (.astore 4, 2) := by decide +kernel
theorem dL_child_15 : decode cL_child 15 = .ok (.iconst 1, 1) := by decide +kernel
theorem dL_child_16 : decode cL_child 16 = .ok (.ireturn, 1) := by decide +kernel
theorem dL_child_17 : decode cL_child 17 = .ok (.astore 4, 2) := by decide +kernel
theorem dL_child_19 : decode cL_child 19 = .ok (.iconst 2, 1) := by decide +kernel
theorem dL_child_20 : decode cL_child 20 = .ok (.ireturn, 1) := by decide +kernel
theorem dL_child_21 : decode cL_child 21 = .ok (.astore 4, 2) := by decide +kernel
theorem dL_child_23 : decode cL_child 23 = .ok (.iconst 3, 1) := by decide +kernel
theorem dL_child_24 : decode cL_child 24 = .ok (.ireturn, 1) := by decide +kernel
theorem dL_child_25 : decode cL_child 25 = .ok (.iconst 0, 1) := by decide +kernel
theorem dL_child_26 : decode cL_child 26 = .ok (.ireturn, 1) := by decide +kernel
set_option maxRecDepth 20000 in
theorem ggL_tag_X7_tag : GoodIn wsL_tag wsX7_tag := goodIn_ca (goodIn_ca (goodIn_r _ [7, 8, 9, 10, 11, 12, 13, 14, 15, 16, 6, 17, 18, 19, 20, 21, 22, 23, 24, 25, 26, 27, 28, 29, 30, 31, 32, 33, 34, 35, 36, 37, 38, 39, 40, 41, 42, 43, 44, 45] (by decide +kernel) (by decide +kernel)) (goodIn_sub (fun _ h => List.mem_cons_of_mem _ (List.mem_append_left _ (List.mem_append_right _ h))) (by decide +kernel))) (goodIn_sub (fun _ h => List.mem_cons_of_mem _ (List.mem_append_right _ h)) (by decide +kernel))
set_option maxRecDepth 20000 in
theorem gL_tag_X7_tag : GoodIn wsL_tag (wsV RL 31 RX7 yX7_tag wsX7_tag) := goodIn_app (goodIn_of _ (by decide +kernel)) ggL_tag_X7_tag
theorem dL_tag_0 : decode cL_tag 0 = .ok (.aload 4, 2) := by decide +kernel
theorem dL_tag_2 : decode cL_tag 2 = .ok (.iconst 0, 1) := by decide +kernel
theorem dL_tag_3 : decode cL_tag 3 = .ok (.aload_n 0, 1) := by decide +kernel
theorem dL_tag_4 : decode cL_tag 4 = .ok (.iload_n 1, 1) := by decide +kernel
theorem dL_tag_5 : decode cL_tag 5 = .ok (.iload_n 2, 1) := by decide +kernel
theorem dL_tag_6 : decode cL_tag 6 = .ok (.iload_n 3, 1) := by decide +kernel
theorem dL_tag_7 : decode cL_tag 7 = .ok (.invokevirtual 31, 3) := by decide +kernel
theorem dL_tag_10 : decode cL_tag 10 = .ok (.i2l, 1) := by decide +kernel
theorem dL_tag_11 : decode cL_tag 11 = .ok (.lastore, 1) := by decide +kernel
theorem dL_tag_12 : decode cL_tag 12 = .ok (.goto 11, 3) := by decide +kernel
theorem dL_tag_15 : decode cL_tag 15 = .ok (.astore 5, 2) := by decide +kernel
theorem dL_tag_17 : decode cL_tag 17 = .ok (.iconst 1, 1) := by decide +kernel
theorem dL_tag_18 : decode cL_tag 18 = .ok (.ireturn, 1) := by decide +kernel
theorem dL_tag_19 : decode cL_tag 19 = .ok (.astore 5, 2) := by decide +kernel
theorem dL_tag_21 : decode cL_tag 21 = .ok (.iconst 2, 1) := by decide +kernel
theorem dL_tag_22 : decode cL_tag 22 = .ok (.ireturn, 1) := by decide +kernel
theorem dL_tag_23 : decode cL_tag 23 = .ok (.iconst 0, 1) := by decide +kernel
theorem dL_tag_24 : decode cL_tag 24 = .ok (.ireturn, 1) := by decide +kernel
set_option maxRecDepth 20000 in
theorem ggL_prove_X7_prove : GoodIn wsL_prove wsX7_prove := goodIn_ca (goodIn_ca (goodIn_ca (goodIn_r _ [8, 9, 10, 11, 12, 13, 7, 14, 15, 16, 17, 18, 19, 20, 21, 22, 23, 24, 25, 26, 27, 28, 29, 30, 31, 32, 33, 34, 35, 36, 37, 38, 39, 40, 41, 42, 43, 44, 45, 46, 47, 48, 49, 50, 51, 52, 53, 54, 55, 56, 57, 58, 59, 60, 61, 62, 63, 64, 65, 66, 67, 68, 69, 70, 71, 72, 73, 74, 75, 76, 77, 78, 79, 80, 81, 82, 83, 84, 85, 86, 87, 88, 89, 90, 91, 92, 93, 94, 95, 96, 97, 98, 99, 100, 101, 102, 103, 104, 105, 106, 107, 108, 109, 110, 111, 112, 113, 114, 115, 116, 117, 118, 119, 120, 121, 122, 123, 124, 125, 126, 127, 128, 129, 130, 131, 132, 133, 134, 135, 136, 137, 138, 139, 140, 141, 142, 143, 144, 145, 146, 147, 148, 149, 150, 151, 152, 153, 154, 155, 156, 157, 158, 159, 160, 161, 162, 163, 164, 165, 166, 167, 168, 169, 170, 171, 172, 173, 174, 175, 176, 177, 178, 179, 180, 181, 182, 183, 184, 185, 186, 187, 188, 189, 190, 191, 192, 193, 194, 195, 196, 197, 198, 199, 200, 201, 202, 203, 204, 205, 206, 207, 208, 209, 210, 211, 212, 213, 214, 215, 216, 217, 218, 219, 220, 221, 222, 223, 224, 225, 226, 227, 228, 229, 230, 231, 232, 233, 234, 235, 236, 237, 238, 239, 240, 241, 242, 243, 244, 245, 246, 247, 248, 249, 250, 251, 252, 253, 254, 255, 256, 257, 258, 259, 260, 261, 262, 263, 264, 265, 266, 267, 268, 269, 270, 271, 272, 273, 274, 275, 276, 277, 278, 279, 280, 281, 282] (by decide +kernel) (by decide +kernel)) (goodIn_sub (fun _ h => List.mem_cons_of_mem _ (List.mem_append_left _ (List.mem_append_left _ (List.mem_append_right _ h)))) (by decide +kernel))) (goodIn_sub (fun _ h => List.mem_cons_of_mem _ (List.mem_append_left _ (List.mem_append_right _ h))) (by decide +kernel))) (goodIn_sub (fun _ h => List.mem_cons_of_mem _ (List.mem_append_right _ h)) (by decide +kernel))
set_option maxRecDepth 20000 in
theorem gL_prove_X7_prove : GoodIn wsL_prove (wsV RL 35 RX7 yX7_prove wsX7_prove) := goodIn_app (goodIn_of _ (by decide +kernel)) ggL_prove_X7_prove
theorem dL_prove_0 : decode cL_prove 0 = .ok (.aload 5, 2) := by decide +kernel
theorem dL_prove_2 : decode cL_prove 2 = .ok (.iconst 0, 1) := by decide +kernel
theorem dL_prove_3 : decode cL_prove 3 = .ok (.aload_n 0, 1) := by decide +kernel
theorem dL_prove_4 : decode cL_prove 4 = .ok (.iload_n 1, 1) := by decide +kernel
theorem dL_prove_5 : decode cL_prove 5 = .ok (.iload_n 2, 1) := by decide +kernel
theorem dL_prove_6 : decode cL_prove 6 = .ok (.iload_n 3, 1) := by decide +kernel
theorem dL_prove_7 : decode cL_prove 7 = .ok (.iload 4, 2) := by decide +kernel
theorem dL_prove_9 : decode cL_prove 9 = .ok (.invokevirtual 35, 3) := by decide +kernel
theorem dL_prove_12 : decode cL_prove 12 = .ok (.ifCond .eq 7, 3) := by decide +kernel
theorem dL_prove_15 : decode cL_prove 15 = .ok (.lconst 1, 1) := by decide +kernel
theorem dL_prove_16 : decode cL_prove 16 = .ok (.goto 4, 3) := by decide +kernel
theorem dL_prove_19 : decode cL_prove 19 = .ok (.lconst 0, 1) := by decide +kernel
theorem dL_prove_20 : decode cL_prove 20 = .ok (.lastore, 1) := by decide +kernel
theorem dL_prove_21 : decode cL_prove 21 = .ok (.goto 15, 3) := by decide +kernel
theorem dL_prove_24 : decode cL_prove 24 = .ok (.astore 6, 2) := by decide +kernel
theorem dL_prove_26 : decode cL_prove 26 = .ok (.iconst 1, 1) := by decide +kernel
theorem dL_prove_27 : decode cL_prove 27 = .ok (.ireturn, 1) := by decide +kernel
theorem dL_prove_28 : decode cL_prove 28 = .ok (.astore 6, 2) := by decide +kernel
theorem dL_prove_30 : decode cL_prove 30 = .ok (.iconst 2, 1) := by decide +kernel
theorem dL_prove_31 : decode cL_prove 31 = .ok (.ireturn, 1) := by decide +kernel
theorem dL_prove_32 : decode cL_prove 32 = .ok (.astore 6, 2) := by decide +kernel
theorem dL_prove_34 : decode cL_prove 34 = .ok (.iconst 3, 1) := by decide +kernel
theorem dL_prove_35 : decode cL_prove 35 = .ok (.ireturn, 1) := by decide +kernel
theorem dL_prove_36 : decode cL_prove 36 = .ok (.iconst 0, 1) := by decide +kernel
theorem dL_prove_37 : decode cL_prove 37 = .ok (.ireturn, 1) := by decide +kernel
set_option maxRecDepth 20000 in
theorem ggL_doubt_X7_doubt : GoodIn wsL_doubt wsX7_doubt := goodIn_ca (goodIn_ca (goodIn_r _ [6, 7, 8, 9, 10, 5, 11, 12, 13, 14, 15, 16, 17, 18, 19, 20, 21, 22, 23, 24, 25, 26, 27, 28, 29, 30, 31, 32, 33, 34, 35, 36, 37, 38, 39, 40, 41, 42, 43, 44, 45, 46, 47, 48, 49, 50, 51, 52, 53, 54] (by decide +kernel) (by decide +kernel)) (goodIn_sub (fun _ h => List.mem_cons_of_mem _ (List.mem_append_left _ (List.mem_append_right _ h))) (by decide +kernel))) (goodIn_sub (fun _ h => List.mem_cons_of_mem _ (List.mem_append_right _ h)) (by decide +kernel))
set_option maxRecDepth 20000 in
theorem gL_doubt_X7_doubt : GoodIn wsL_doubt (wsV RL 39 RX7 yX7_doubt wsX7_doubt) := goodIn_app (goodIn_of _ (by decide +kernel)) ggL_doubt_X7_doubt
theorem dL_doubt_0 : decode cL_doubt 0 = .ok (.aload_n 2, 1) := by decide +kernel
theorem dL_doubt_1 : decode cL_doubt 1 = .ok (.iconst 0, 1) := by decide +kernel
theorem dL_doubt_2 : decode cL_doubt 2 = .ok (.aload_n 0, 1) := by decide +kernel
theorem dL_doubt_3 : decode cL_doubt 3 = .ok (.iload_n 1, 1) := by decide +kernel
theorem dL_doubt_4 : decode cL_doubt 4 = .ok (.invokevirtual 39, 3) := by decide +kernel
theorem dL_doubt_7 : decode cL_doubt 7 = .ok (.i2l, 1) := by decide +kernel
theorem dL_doubt_8 : decode cL_doubt 8 = .ok (.lastore, 1) := by decide +kernel
theorem dL_doubt_9 : decode cL_doubt 9 = .ok (.goto 6, 3) := by decide +kernel
theorem dL_doubt_12 : decode cL_doubt 12 = .ok (.astore_n 3, 1) := by decide +kernel
theorem dL_doubt_13 : decode cL_doubt 13 = .ok (.iconst 1, 1) := by decide +kernel
theorem dL_doubt_14 : decode cL_doubt 14 = .ok (.ireturn, 1) := by decide +kernel
theorem dL_doubt_15 : decode cL_doubt 15 = .ok (.iconst 0, 1) := by decide +kernel
theorem dL_doubt_16 : decode cL_doubt 16 = .ok (.ireturn, 1) := by decide +kernel
set_option maxRecDepth 20000 in
theorem ggL_decide_X7_decide : GoodIn wsL_decide wsX7_decide := goodIn_ca (goodIn_ca (goodIn_r _ [7, 8, 9, 10, 11, 12, 13, 14, 6, 15, 16, 17, 18, 19, 20, 21, 22, 23, 24, 25, 26, 27, 28, 29, 30, 31, 32, 33, 34, 35, 36, 37, 38, 39, 40, 41, 42, 43, 44, 45, 46, 47, 48, 49, 50, 51, 52, 53, 54, 55, 56, 57, 58, 59, 60, 61, 62, 63, 64, 65, 66, 67, 68, 69, 70, 71, 72, 73, 74, 75, 76, 77, 78, 79, 80, 81, 82, 83, 84, 85, 86, 87, 88, 89, 90, 91, 92, 93, 94, 95, 96, 97, 98, 99, 100, 101, 102, 103, 104, 105, 106, 107, 108, 109, 110, 111, 112, 113, 114, 115, 116, 117, 118, 119, 120, 121, 122, 123, 124, 125, 126, 127, 128, 129, 130, 131, 132, 133, 134, 135, 136, 137, 138, 139, 140, 141, 142, 143, 144, 145, 146, 147, 148, 149, 150, 151, 152, 153, 154, 155, 156, 157, 158, 159, 160, 161, 162, 163, 164, 165, 166, 167, 168, 169, 170, 171, 172, 173, 174, 175, 176, 177, 178, 179, 180, 181, 182, 183, 184, 185, 186, 187, 188, 189, 190, 191, 192, 193, 194, 195, 196, 197, 198, 199, 200, 201, 202, 203, 204, 205, 206, 207, 208, 209, 210, 211, 212, 213, 214, 215, 216, 217, 218, 219, 220, 221, 222, 223, 224, 225, 226, 227, 228, 229, 230, 231, 232, 233, 234, 235, 236, 237, 238, 239, 240, 241, 242, 243, 244, 245, 246, 247, 248, 249, 250, 251, 252, 253, 254, 255, 256, 257, 258, 259, 260, 261, 262, 263, 264, 265, 266, 267, 268, 269, 270, 271] (by decide +kernel) (by decide +kernel)) (goodIn_sub (fun _ h => List.mem_cons_of_mem _ (List.mem_append_left _ (List.mem_append_right _ h))) (by decide +kernel))) (goodIn_sub (fun _ h => List.mem_cons_of_mem _ (List.mem_append_right _ h)) (by decide +kernel))
set_option maxRecDepth 20000 in
theorem gL_decide_X7_decide : GoodIn wsL_decide (wsV RL 42 RX7 yX7_decide wsX7_decide) := goodIn_app (goodIn_of _ (by decide +kernel)) ggL_decide_X7_decide
theorem dL_decide_0 : decode cL_decide 0 = .ok (.aload_n 2, 1) := by decide +kernel
theorem dL_decide_1 : decode cL_decide 1 = .ok (.iconst 0, 1) := by decide +kernel
theorem dL_decide_2 : decode cL_decide 2 = .ok (.aload_n 0, 1) := by decide +kernel
theorem dL_decide_3 : decode cL_decide 3 = .ok (.iload_n 1, 1) := by decide +kernel
theorem dL_decide_4 : decode cL_decide 4 = .ok (.invokevirtual 42, 3) := by decide +kernel
theorem dL_decide_7 : decode cL_decide 7 = .ok (.i2l, 1) := by decide +kernel
theorem dL_decide_8 : decode cL_decide 8 = .ok (.lastore, 1) := by decide +kernel
theorem dL_decide_9 : decode cL_decide 9 = .ok (.goto 9, 3) := by decide +kernel
theorem dL_decide_12 : decode cL_decide 12 = .ok (.astore_n 3, 1) := by decide +kernel
theorem dL_decide_13 : decode cL_decide 13 = .ok (.iconst 1, 1) := by decide +kernel
theorem dL_decide_14 : decode cL_decide 14 = .ok (.ireturn, 1) := by decide +kernel
theorem dL_decide_15 : decode cL_decide 15 = .ok (.astore_n 3, 1) := by decide +kernel
theorem dL_decide_16 : decode cL_decide 16 = .ok (.iconst 2, 1) := by decide +kernel
theorem dL_decide_17 : decode cL_decide 17 = .ok (.ireturn, 1) := by decide +kernel
theorem dL_decide_18 : decode cL_decide 18 = .ok (.iconst 0, 1) := by decide +kernel
theorem dL_decide_19 : decode cL_decide 19 = .ok (.ireturn, 1) := by decide +kernel
set_option maxRecDepth 20000 in
theorem ggL_cell_X7_cell : GoodIn wsL_cell wsX7_cell := goodIn_ca (goodIn_ca (goodIn_r _ [7, 8, 9, 10, 11, 12, 13, 14, 6, 15, 16, 17, 18, 19, 20, 21, 22, 23, 24, 25, 26, 27, 28, 29, 30, 31, 32, 33, 34, 35, 36, 37, 38, 39, 40, 41, 42, 43, 44, 45, 46, 47, 48, 49, 50, 51, 52, 53, 54, 55, 56, 57, 58, 59, 60, 61, 62, 63, 64, 65, 66, 67, 68, 69] (by decide +kernel) (by decide +kernel)) (goodIn_sub (fun _ h => List.mem_cons_of_mem _ (List.mem_append_left _ (List.mem_append_right _ h))) (by decide +kernel))) (goodIn_sub (fun _ h => List.mem_cons_of_mem _ (List.mem_append_right _ h)) (by decide +kernel))
set_option maxRecDepth 20000 in
theorem gL_cell_X7_cell : GoodIn wsL_cell (wsV RL 45 RX7 yX7_cell wsX7_cell) := goodIn_app (goodIn_of _ (by decide +kernel)) ggL_cell_X7_cell
theorem dL_cell_0 : decode cL_cell 0 = .ok (.aload 5, 2) := by decide +kernel
theorem dL_cell_2 : decode cL_cell 2 = .ok (.iconst 0, 1) := by decide +kernel
theorem dL_cell_3 : decode cL_cell 3 = .ok (.aload_n 0, 1) := by decide +kernel
theorem dL_cell_4 : decode cL_cell 4 = .ok (.iload_n 1, 1) := by decide +kernel
theorem dL_cell_5 : decode cL_cell 5 = .ok (.iload_n 2, 1) := by decide +kernel
theorem dL_cell_6 : decode cL_cell 6 = .ok (.iload_n 3, 1) := by decide +kernel
theorem dL_cell_7 : decode cL_cell 7 = .ok (.iload 4, 2) := by decide +kernel
theorem dL_cell_9 : decode cL_cell 9 = .ok (.invokevirtual 45, 3) := by decide +kernel
theorem dL_cell_12 : decode cL_cell 12 = .ok (.i2l, 1) := by decide +kernel
theorem dL_cell_13 : decode cL_cell 13 = .ok (.lastore, 1) := by decide +kernel
theorem dL_cell_14 : decode cL_cell 14 = .ok (.goto 11, 3) := by decide +kernel
theorem dL_cell_17 : decode cL_cell 17 = .ok (.astore 6, 2) := by decide +kernel
theorem dL_cell_19 : decode cL_cell 19 = .ok (.iconst 1, 1) := by decide +kernel
theorem dL_cell_20 : decode cL_cell 20 = .ok (.ireturn, 1) := by decide +kernel
theorem dL_cell_21 : decode cL_cell 21 = .ok (.astore 6, 2) := by decide +kernel
theorem dL_cell_23 : decode cL_cell 23 = .ok (.iconst 2, 1) := by decide +kernel
theorem dL_cell_24 : decode cL_cell 24 = .ok (.ireturn, 1) := by decide +kernel
theorem dL_cell_25 : decode cL_cell 25 = .ok (.iconst 0, 1) := by decide +kernel
theorem dL_cell_26 : decode cL_cell 26 = .ok (.ireturn, 1) := by decide +kernel
set_option maxRecDepth 20000 in
theorem ggL_ofMachine_X7_ofMachine : GoodIn wsL_ofMachine wsX7_ofMachine := goodIn_ca (goodIn_ca (goodIn_r _ [7, 8, 9, 10, 11, 12, 13, 14, 6, 15, 16, 17, 18, 19, 20, 21, 22, 23, 24, 25, 26, 27, 28, 29, 30, 31, 32, 33, 34, 35, 36, 37, 38, 39, 40, 41, 42, 43, 44, 45, 46, 47, 48, 49, 50, 51, 52, 53, 54, 55, 56, 57, 58, 59, 60, 61, 62, 63, 64, 65, 66, 67, 68, 69, 70, 71, 72, 73, 74, 75, 76, 77, 78, 79, 80, 81, 82, 83, 84, 85, 86, 87, 88, 89, 90, 91, 92, 93, 94, 95, 96, 97, 98, 99, 100, 101, 102, 103, 104, 105, 106, 107, 108, 109, 110, 111, 112, 113, 114, 115, 116, 117, 118, 119, 120, 121, 122, 123, 124, 125, 126, 127, 128, 129, 130, 131, 132, 133, 134, 135, 136, 137, 138, 139, 140, 141, 142, 143, 144, 145, 146, 147, 148, 149, 150, 151, 152, 153, 154, 155, 156, 157, 158] (by decide +kernel) (by decide +kernel)) (goodIn_sub (fun _ h => List.mem_cons_of_mem _ (List.mem_append_left _ (List.mem_append_right _ h))) (by decide +kernel))) (goodIn_sub (fun _ h => List.mem_cons_of_mem _ (List.mem_append_right _ h)) (by decide +kernel))
set_option maxRecDepth 20000 in
theorem gL_ofMachine_X7_ofMachine : GoodIn wsL_ofMachine (wsV RL 49 RX7 yX7_ofMachine wsX7_ofMachine) := goodIn_app (goodIn_of _ (by decide +kernel)) ggL_ofMachine_X7_ofMachine
theorem dL_ofMachine_0 : decode cL_ofMachine 0 = .ok (.aload_n 3, 1) := by decide +kernel
theorem dL_ofMachine_1 : decode cL_ofMachine 1 = .ok (.iconst 0, 1) := by decide +kernel
theorem dL_ofMachine_2 : decode cL_ofMachine 2 = .ok (.aload_n 0, 1) := by decide +kernel
theorem dL_ofMachine_3 : decode cL_ofMachine 3 = .ok (.iload_n 1, 1) := by decide +kernel
theorem dL_ofMachine_4 : decode cL_ofMachine 4 = .ok (.iload_n 2, 1) := by decide +kernel
theorem dL_ofMachine_5 : decode cL_ofMachine 5 = .ok (.invokevirtual 49, 3) := by decide +kernel
theorem dL_ofMachine_8 : decode cL_ofMachine 8 = .ok (.i2l, 1) := by decide +kernel
theorem dL_ofMachine_9 : decode cL_ofMachine 9 = .ok (.lastore, 1) := by decide +kernel
theorem dL_ofMachine_10 : decode cL_ofMachine 10 = .ok (.goto 11, 3) := by decide +kernel
theorem dL_ofMachine_13 : decode cL_ofMachine 13 = .ok (.astore 4, 2) := by decide +kernel
theorem dL_ofMachine_15 : decode cL_ofMachine 15 = .ok (.iconst 1, 1) := by decide +kernel
theorem dL_ofMachine_16 : decode cL_ofMachine 16 = .ok (.ireturn, 1) := by decide +kernel
theorem dL_ofMachine_17 : decode cL_ofMachine 17 = .ok (.astore 4, 2) := by decide +kernel
theorem dL_ofMachine_19 : decode cL_ofMachine 19 = .ok (.iconst 2, 1) := by decide +kernel
theorem dL_ofMachine_20 : decode cL_ofMachine 20 = .ok (.ireturn, 1) := by decide +kernel
theorem dL_ofMachine_21 : decode cL_ofMachine 21 = .ok (.iconst 0, 1) := by decide +kernel
theorem dL_ofMachine_22 : decode cL_ofMachine 22 = .ok (.ireturn, 1) := by decide +kernel
set_option maxRecDepth 20000 in
theorem ggL_at_X7_at : GoodIn wsL_at wsX7_at := goodIn_ca (goodIn_ca (goodIn_r _ [7, 8, 9, 10, 11, 12, 13, 14, 15, 16, 6, 17, 18, 19, 20, 21, 22, 23, 24, 25, 26, 27, 28, 29, 30, 31, 32, 33, 34, 35, 36, 37, 38, 39, 40, 41, 42, 43, 44, 45, 46, 47, 48, 49, 50, 51, 52, 53, 54, 55, 56, 57, 58, 59, 60, 61, 62, 63, 64, 65, 66, 67, 68, 69, 70, 71, 72, 73, 74, 75, 76, 77, 78, 79, 80, 81, 82, 83, 84, 85, 86, 87, 88, 89, 90, 91, 92, 93, 94, 95, 96, 97, 98, 99, 100, 101, 102, 103, 104, 105, 106, 107, 108, 109, 110, 111, 112, 113, 114, 115, 116, 117, 118, 119, 120, 121, 122, 123, 124, 125] (by decide +kernel) (by decide +kernel)) (goodIn_sub (fun _ h => List.mem_cons_of_mem _ (List.mem_append_left _ (List.mem_append_right _ h))) (by decide +kernel))) (goodIn_sub (fun _ h => List.mem_cons_of_mem _ (List.mem_append_right _ h)) (by decide +kernel))
set_option maxRecDepth 20000 in
theorem gL_at_X7_at : GoodIn wsL_at (wsV RL 52 RX7 yX7_at wsX7_at) := goodIn_app (goodIn_of _ (by decide +kernel)) ggL_at_X7_at
theorem dL_at_0 : decode cL_at 0 = .ok (.aload 4, 2) := by decide +kernel
theorem dL_at_2 : decode cL_at 2 = .ok (.iconst 0, 1) := by decide +kernel
theorem dL_at_3 : decode cL_at 3 = .ok (.aload_n 0, 1) := by decide +kernel
theorem dL_at_4 : decode cL_at 4 = .ok (.iload_n 1, 1) := by decide +kernel
theorem dL_at_5 : decode cL_at 5 = .ok (.iload_n 2, 1) := by decide +kernel
theorem dL_at_6 : decode cL_at 6 = .ok (.iload_n 3, 1) := by decide +kernel
theorem dL_at_7 : decode cL_at 7 = .ok (.invokevirtual 52, 3) := by decide +kernel
theorem dL_at_10 : decode cL_at 10 = .ok (.i2l, 1) := by decide +kernel
theorem dL_at_11 : decode cL_at 11 = .ok (.lastore, 1) := by decide +kernel
theorem dL_at_12 : decode cL_at 12 = .ok (.goto 11, 3) := by decide +kernel
theorem dL_at_15 : decode cL_at 15 = .ok (.astore 5, 2) := by decide +kernel
theorem dL_at_17 : decode cL_at 17 = .ok (.iconst 1, 1) := by decide +kernel
theorem dL_at_18 : decode cL_at 18 = .ok (.ireturn, 1) := by decide +kernel
theorem dL_at_19 : decode cL_at 19 = .ok (.astore 5, 2) := by decide +kernel
theorem dL_at_21 : decode cL_at 21 = .ok (.iconst 2, 1) := by decide +kernel
theorem dL_at_22 : decode cL_at 22 = .ok (.ireturn, 1) := by decide +kernel
theorem dL_at_23 : decode cL_at 23 = .ok (.iconst 0, 1) := by decide +kernel
theorem dL_at_24 : decode cL_at 24 = .ok (.ireturn, 1) := by decide +kernel
set_option maxRecDepth 20000 in
theorem ggL_symbol_X7_symbol : GoodIn wsL_symbol wsX7_symbol := goodIn_ca (goodIn_ca (goodIn_r _ [7, 8, 9, 10, 11, 6, 12, 13, 14, 15, 16, 17, 18, 19, 20, 21, 22, 23, 24, 25, 26, 27, 28, 29, 30, 31, 32, 33, 34, 35, 36, 37, 38, 39, 40, 41, 42, 43, 44, 45, 46, 47, 48, 49, 50, 51, 52, 53, 54, 55, 56, 57, 58, 59, 60, 61, 62, 63, 64, 65, 66, 67, 68, 69, 70, 71, 72, 73, 74, 75, 76, 77, 78, 79, 80, 81, 82, 83, 84, 85, 86, 87, 88, 89, 90, 91, 92, 93, 94, 95, 96, 97, 98, 99, 100, 101, 102, 103, 104, 105, 106, 107, 108] (by decide +kernel) (by decide +kernel)) (goodIn_sub (fun _ h => List.mem_cons_of_mem _ (List.mem_append_left _ (List.mem_append_right _ h))) (by decide +kernel))) (goodIn_sub (fun _ h => List.mem_cons_of_mem _ (List.mem_append_right _ h)) (by decide +kernel))
set_option maxRecDepth 20000 in
theorem gL_symbol_X7_symbol : GoodIn wsL_symbol (wsV RL 55 RX7 yX7_symbol wsX7_symbol) := goodIn_app (goodIn_of _ (by decide +kernel)) ggL_symbol_X7_symbol
theorem dL_symbol_0 : decode cL_symbol 0 = .ok (.aload 4, 2) := by decide +kernel
theorem dL_symbol_2 : decode cL_symbol 2 = .ok (.iconst 0, 1) := by decide +kernel
theorem dL_symbol_3 : decode cL_symbol 3 = .ok (.aload_n 0, 1) := by decide +kernel
theorem dL_symbol_4 : decode cL_symbol 4 = .ok (.iload_n 1, 1) := by decide +kernel
theorem dL_symbol_5 : decode cL_symbol 5 = .ok (.iload_n 2, 1) := by decide +kernel
theorem dL_symbol_6 : decode cL_symbol 6 = .ok (.iload_n 3, 1) := by decide +kernel
theorem dL_symbol_7 : decode cL_symbol 7 = .ok (.invokevirtual 55, 3) := by decide +kernel
theorem dL_symbol_10 : decode cL_symbol 10 = .ok (.i2l, 1) := by decide +kernel
theorem dL_symbol_11 : decode cL_symbol 11 = .ok (.lastore, 1) := by decide +kernel
theorem dL_symbol_12 : decode cL_symbol 12 = .ok (.goto 11, 3) := by decide +kernel
theorem dL_symbol_15 : decode cL_symbol 15 = .ok (.astore 5, 2) := by decide +kernel
theorem dL_symbol_17 : decode cL_symbol 17 = .ok (.iconst 1, 1) := by decide +kernel
theorem dL_symbol_18 : decode cL_symbol 18 = .ok (.ireturn, 1) := by decide +kernel
theorem dL_symbol_19 : decode cL_symbol 19 = .ok (.astore 5, 2) := by decide +kernel
theorem dL_symbol_21 : decode cL_symbol 21 = .ok (.iconst 2, 1) := by decide +kernel
theorem dL_symbol_22 : decode cL_symbol 22 = .ok (.ireturn, 1) := by decide +kernel
theorem dL_symbol_23 : decode cL_symbol 23 = .ok (.iconst 0, 1) := by decide +kernel
theorem dL_symbol_24 : decode cL_symbol 24 = .ok (.ireturn, 1) := by decide +kernel
set_option maxRecDepth 20000 in
theorem ggL_lean_X7_lean : GoodIn wsL_lean wsX7_lean := goodIn_ca (goodIn_ca (goodIn_r _ [7, 8, 9, 10, 11, 12, 13, 14, 6, 15, 16, 17, 18, 19, 20, 21, 22, 23, 24, 25, 26, 27, 28, 29, 30, 31, 32, 33, 34, 35, 36, 37, 38, 39, 40, 41, 42, 43, 44, 45, 46, 47, 48, 49, 50, 51, 52, 53, 54, 55, 56, 57, 58, 59, 60, 61, 62, 63, 64, 65, 66, 67, 68, 69, 70, 71, 72, 73, 74, 75, 76, 77, 78, 79, 80, 81, 82, 83, 84, 85, 86, 87, 88, 89, 90, 91, 92, 93, 94, 95, 96, 97, 98, 99, 100, 101, 102, 103, 104, 105, 106, 107, 108, 109, 110, 111, 112, 113, 114, 115, 116, 117] (by decide +kernel) (by decide +kernel)) (goodIn_sub (fun _ h => List.mem_cons_of_mem _ (List.mem_append_left _ (List.mem_append_right _ h))) (by decide +kernel))) (goodIn_sub (fun _ h => List.mem_cons_of_mem _ (List.mem_append_right _ h)) (by decide +kernel))
set_option maxRecDepth 20000 in
theorem gL_lean_X7_lean : GoodIn wsL_lean (wsV RL 58 RX7 yX7_lean wsX7_lean) := goodIn_app (goodIn_of _ (by decide +kernel)) ggL_lean_X7_lean
theorem dL_lean_0 : decode cL_lean 0 = .ok (.aload_n 3, 1) := by decide +kernel
theorem dL_lean_1 : decode cL_lean 1 = .ok (.iconst 0, 1) := by decide +kernel
theorem dL_lean_2 : decode cL_lean 2 = .ok (.aload_n 0, 1) := by decide +kernel
theorem dL_lean_3 : decode cL_lean 3 = .ok (.iload_n 1, 1) := by decide +kernel
theorem dL_lean_4 : decode cL_lean 4 = .ok (.iload_n 2, 1) := by decide +kernel
theorem dL_lean_5 : decode cL_lean 5 = .ok (.invokevirtual 58, 3) := by decide +kernel
theorem dL_lean_8 : decode cL_lean 8 = .ok (.dastore, 1) := by decide +kernel
theorem dL_lean_9 : decode cL_lean 9 = .ok (.goto 11, 3) := by decide +kernel
theorem dL_lean_12 : decode cL_lean 12 = .ok (.astore 4, 2) := by decide +kernel
theorem dL_lean_14 : decode cL_lean 14 = .ok (.iconst 1, 1) := by decide +kernel
theorem dL_lean_15 : decode cL_lean 15 = .ok (.ireturn, 1) := by decide +kernel
theorem dL_lean_16 : decode cL_lean 16 = .ok (.astore 4, 2) := by decide +kernel
theorem dL_lean_18 : decode cL_lean 18 = .ok (.iconst 2, 1) := by decide +kernel
theorem dL_lean_19 : decode cL_lean 19 = .ok (.ireturn, 1) := by decide +kernel
theorem dL_lean_20 : decode cL_lean 20 = .ok (.iconst 0, 1) := by decide +kernel
theorem dL_lean_21 : decode cL_lean 21 = .ok (.ireturn, 1) := by decide +kernel
set_option maxRecDepth 20000 in
theorem ggL_meets_X7_meets : GoodIn wsL_meets wsX7_meets := goodIn_ca (goodIn_ca (goodIn_r _ [7, 8, 9, 10, 11, 6, 12, 13, 14, 15, 16, 17, 18, 19, 20, 21, 22, 23, 24, 25, 26, 27, 28, 29, 30, 31, 32, 33, 34, 35, 36, 37, 38, 39, 40, 41, 42, 43, 44, 45, 46, 47, 48, 49, 50, 51, 52, 53, 54, 55, 56, 57, 58, 59, 60, 61, 62, 63, 64, 65, 66, 67, 68, 69, 70, 71, 72, 73, 74, 75, 76, 77, 78, 79, 80, 81, 82, 83, 84, 85, 86, 87, 88, 89, 90, 91, 92, 93, 94, 95, 96, 97, 98, 99, 100, 101, 102, 103, 104, 105, 106, 107, 108, 109, 110, 111] (by decide +kernel) (by decide +kernel)) (goodIn_sub (fun _ h => List.mem_cons_of_mem _ (List.mem_append_left _ (List.mem_append_right _ h))) (by decide +kernel))) (goodIn_sub (fun _ h => List.mem_cons_of_mem _ (List.mem_append_right _ h)) (by decide +kernel))
set_option maxRecDepth 20000 in
theorem gL_meets_X7_meets : GoodIn wsL_meets (wsV RL 62 RX7 yX7_meets wsX7_meets) := goodIn_app (goodIn_of _ (by decide +kernel)) ggL_meets_X7_meets
theorem dL_meets_0 : decode cL_meets 0 = .ok (.aload 5, 2) := by decide +kernel
theorem dL_meets_2 : decode cL_meets 2 = .ok (.iconst 0, 1) := by decide +kernel
theorem dL_meets_3 : decode cL_meets 3 = .ok (.aload_n 0, 1) := by decide +kernel
theorem dL_meets_4 : decode cL_meets 4 = .ok (.iload_n 1, 1) := by decide +kernel
theorem dL_meets_5 : decode cL_meets 5 = .ok (.iload_n 2, 1) := by decide +kernel
theorem dL_meets_6 : decode cL_meets 6 = .ok (.iload_n 3, 1) := by decide +kernel
theorem dL_meets_7 : decode cL_meets 7 = .ok (.iload 4, 2) := by decide +kernel
theorem dL_meets_9 : decode cL_meets 9 = .ok (.invokevirtual 62, 3) := by decide +kernel
theorem dL_meets_12 : decode cL_meets 12 = .ok (.i2l, 1) := by decide +kernel
theorem dL_meets_13 : decode cL_meets 13 = .ok (.lastore, 1) := by decide +kernel
theorem dL_meets_14 : decode cL_meets 14 = .ok (.goto 11, 3) := by decide +kernel
theorem dL_meets_17 : decode cL_meets 17 = .ok (.astore 6, 2) := by decide +kernel
theorem dL_meets_19 : decode cL_meets 19 = .ok (.iconst 1, 1) := by decide +kernel
theorem dL_meets_20 : decode cL_meets 20 = .ok (.ireturn, 1) := by decide +kernel
theorem dL_meets_21 : decode cL_meets 21 = .ok (.astore 6, 2) := by decide +kernel
theorem dL_meets_23 : decode cL_meets 23 = .ok (.iconst 2, 1) := by decide +kernel
theorem dL_meets_24 : decode cL_meets 24 = .ok (.ireturn, 1) := by decide +kernel
theorem dL_meets_25 : decode cL_meets 25 = .ok (.iconst 0, 1) := by decide +kernel
theorem dL_meets_26 : decode cL_meets 26 = .ok (.ireturn, 1) := by decide +kernel
set_option maxRecDepth 20000 in
theorem ggL_likeness_X7_likeness : GoodIn wsL_likeness wsX7_likeness := goodIn_ca (goodIn_r _ [6, 7, 8, 9, 5, 10, 11, 12, 13, 14, 15, 16, 17, 18, 19, 20, 21, 22, 23, 24, 25, 26, 27, 28, 29, 30, 31, 32, 33, 34, 35, 36, 37, 38, 39, 40, 41, 42, 43, 44, 45, 46, 47, 48, 49, 50, 51, 52, 53, 54, 55, 56, 57] (by decide +kernel) (by decide +kernel)) (goodIn_sub (fun _ h => List.mem_cons_of_mem _ (List.mem_append_right _ h)) (by decide +kernel))
set_option maxRecDepth 20000 in
theorem gL_likeness_X7_likeness : GoodIn wsL_likeness (wsV RL 65 RX7 yX7_likeness wsX7_likeness) := goodIn_app (goodIn_of _ (by decide +kernel)) ggL_likeness_X7_likeness
theorem dL_likeness_0 : decode cL_likeness 0 = .ok (.aload_n 3, 1) := by decide +kernel
theorem dL_likeness_1 : decode cL_likeness 1 = .ok (.iconst 0, 1) := by decide +kernel
theorem dL_likeness_2 : decode cL_likeness 2 = .ok (.aload_n 0, 1) := by decide +kernel
theorem dL_likeness_3 : decode cL_likeness 3 = .ok (.iload_n 1, 1) := by decide +kernel
theorem dL_likeness_4 : decode cL_likeness 4 = .ok (.iload_n 2, 1) := by decide +kernel
theorem dL_likeness_5 : decode cL_likeness 5 = .ok (.invokevirtual 65, 3) := by decide +kernel
theorem dL_likeness_8 : decode cL_likeness 8 = .ok (.i2l, 1) := by decide +kernel
theorem dL_likeness_9 : decode cL_likeness 9 = .ok (.lastore, 1) := by decide +kernel
theorem dL_likeness_10 : decode cL_likeness 10 = .ok (.goto 7, 3) := by decide +kernel
theorem dL_likeness_13 : decode cL_likeness 13 = .ok (.astore 4, 2) := by decide +kernel
theorem dL_likeness_15 : decode cL_likeness 15 = .ok (.iconst 1, 1) := by decide +kernel
theorem dL_likeness_16 : decode cL_likeness 16 = .ok (.ireturn, 1) := by decide +kernel
theorem dL_likeness_17 : decode cL_likeness 17 = .ok (.iconst 0, 1) := by decide +kernel
theorem dL_likeness_18 : decode cL_likeness 18 = .ok (.ireturn, 1) := by decide +kernel
set_option maxRecDepth 20000 in
theorem ggL_champion_X7_champion : GoodIn wsL_champion wsX7_champion := goodIn_ca (goodIn_ca (goodIn_r _ [6, 7, 8, 9, 10, 5, 11, 12, 13, 14, 15, 16, 17, 18, 19, 20, 21, 22, 23, 24, 25, 26, 27, 28, 29, 30, 31, 32, 33, 34, 35, 36, 37, 38, 39, 40, 41, 42, 43, 44, 45, 46, 47, 48, 49, 50, 51, 52, 53, 54, 55, 56, 57, 58, 59, 60, 61, 62, 63, 64, 65, 66, 67, 68, 69, 70, 71, 72, 73, 74, 75, 76, 77, 78, 79, 80, 81, 82, 83, 84, 85, 86, 87, 88, 89, 90, 91, 92, 93, 94, 95, 96, 97, 98, 99, 100, 101, 102, 103, 104, 105, 106, 107, 108, 109, 110, 111, 112, 113, 114, 115, 116, 117, 118, 119, 120, 121] (by decide +kernel) (by decide +kernel)) (goodIn_sub (fun _ h => List.mem_cons_of_mem _ (List.mem_append_left _ (List.mem_append_right _ h))) (by decide +kernel))) (goodIn_sub (fun _ h => List.mem_cons_of_mem _ (List.mem_append_right _ h)) (by decide +kernel))
set_option maxRecDepth 20000 in
theorem gL_champion_X7_champion : GoodIn wsL_champion (wsV RL 68 RX7 yX7_champion wsX7_champion) := goodIn_app (goodIn_of _ (by decide +kernel)) ggL_champion_X7_champion
theorem dL_champion_0 : decode cL_champion 0 = .ok (.aload_n 2, 1) := by decide +kernel
theorem dL_champion_1 : decode cL_champion 1 = .ok (.iconst 0, 1) := by decide +kernel
theorem dL_champion_2 : decode cL_champion 2 = .ok (.aload_n 0, 1) := by decide +kernel
theorem dL_champion_3 : decode cL_champion 3 = .ok (.iload_n 1, 1) := by decide +kernel
theorem dL_champion_4 : decode cL_champion 4 = .ok (.invokevirtual 68, 3) := by decide +kernel
theorem dL_champion_7 : decode cL_champion 7 = .ok (.i2l, 1) := by decide +kernel
theorem dL_champion_8 : decode cL_champion 8 = .ok (.lastore, 1) := by decide +kernel
theorem dL_champion_9 : decode cL_champion 9 = .ok (.goto 6, 3) := by decide +kernel
theorem dL_champion_12 : decode cL_champion 12 = .ok (.astore_n 3, 1) := by decide +kernel
theorem dL_champion_13 : decode cL_champion 13 = .ok (.iconst 1, 1) := by decide +kernel
theorem dL_champion_14 : decode cL_champion 14 = .ok (.ireturn, 1) := by decide +kernel
theorem dL_champion_15 : decode cL_champion 15 = .ok (.iconst 0, 1) := by decide +kernel
theorem dL_champion_16 : decode cL_champion 16 = .ok (.ireturn, 1) := by decide +kernel
set_option maxRecDepth 20000 in
theorem ggL_tagged_X7_tagged : GoodIn wsL_tagged wsX7_tagged := goodIn_ca (goodIn_ca (goodIn_r _ [7, 8, 9, 10, 6, 11, 12, 13, 14, 15, 16, 17, 18, 19, 20, 21, 22, 23, 24, 25, 26, 27, 28, 29, 30, 31, 32, 33, 34, 35, 36, 37, 38, 39, 40, 41, 42, 43, 44, 45, 46, 47, 48, 49] (by decide +kernel) (by decide +kernel)) (goodIn_sub (fun _ h => List.mem_cons_of_mem _ (List.mem_append_left _ (List.mem_append_right _ h))) (by decide +kernel))) (goodIn_sub (fun _ h => List.mem_cons_of_mem _ (List.mem_append_right _ h)) (by decide +kernel))
set_option maxRecDepth 20000 in
theorem gL_tagged_X7_tagged : GoodIn wsL_tagged (wsV RL 71 RX7 yX7_tagged wsX7_tagged) := goodIn_app (goodIn_of _ (by decide +kernel)) ggL_tagged_X7_tagged
theorem dL_tagged_0 : decode cL_tagged 0 = .ok (.aload 4, 2) := by decide +kernel
theorem dL_tagged_2 : decode cL_tagged 2 = .ok (.iconst 0, 1) := by decide +kernel
theorem dL_tagged_3 : decode cL_tagged 3 = .ok (.aload_n 0, 1) := by decide +kernel
theorem dL_tagged_4 : decode cL_tagged 4 = .ok (.iload_n 1, 1) := by decide +kernel
theorem dL_tagged_5 : decode cL_tagged 5 = .ok (.iload_n 2, 1) := by decide +kernel
theorem dL_tagged_6 : decode cL_tagged 6 = .ok (.iload_n 3, 1) := by decide +kernel
theorem dL_tagged_7 : decode cL_tagged 7 = .ok (.invokevirtual 71, 3) := by decide +kernel
theorem dL_tagged_10 : decode cL_tagged 10 = .ok (.i2l, 1) := by decide +kernel
theorem dL_tagged_11 : decode cL_tagged 11 = .ok (.lastore, 1) := by decide +kernel
theorem dL_tagged_12 : decode cL_tagged 12 = .ok (.goto 11, 3) := by decide +kernel
theorem dL_tagged_15 : decode cL_tagged 15 = .ok (.astore 5, 2) := by decide +kernel
theorem dL_tagged_17 : decode cL_tagged 17 = .ok (.iconst 1, 1) := by decide +kernel
theorem dL_tagged_18 : decode cL_tagged 18 = .ok (.ireturn, 1) := by decide +kernel
theorem dL_tagged_19 : decode cL_tagged 19 = .ok (.astore 5, 2) := by decide +kernel
theorem dL_tagged_21 : decode cL_tagged 21 = .ok (.iconst 2, 1) := by decide +kernel
theorem dL_tagged_22 : decode cL_tagged 22 = .ok (.ireturn, 1) := by decide +kernel
theorem dL_tagged_23 : decode cL_tagged 23 = .ok (.iconst 0, 1) := by decide +kernel
theorem dL_tagged_24 : decode cL_tagged 24 = .ok (.ireturn, 1) := by decide +kernel
set_option maxRecDepth 20000 in
theorem ggL_many_X7_many : GoodIn wsL_many wsX7_many := goodIn_ca (goodIn_ca (goodIn_r _ [6, 7, 8, 9, 10, 11, 12, 13, 5, 14, 15, 16, 17, 18, 19, 20, 21, 22, 23, 24, 25, 26, 27, 28, 29, 30, 31, 32, 33, 34, 35, 36, 37, 38, 39, 40, 41, 42, 43, 44, 45, 46, 47, 48, 49, 50, 51, 52, 53, 54, 55, 56, 57, 58, 59, 60, 61, 62, 63, 64, 65, 66, 67, 68] (by decide +kernel) (by decide +kernel)) (goodIn_sub (fun _ h => List.mem_cons_of_mem _ (List.mem_append_left _ (List.mem_append_right _ h))) (by decide +kernel))) (goodIn_sub (fun _ h => List.mem_cons_of_mem _ (List.mem_append_right _ h)) (by decide +kernel))
set_option maxRecDepth 20000 in
theorem gL_many_X7_many : GoodIn wsL_many (wsV RL 74 RX7 yX7_many wsX7_many) := goodIn_app (goodIn_of _ (by decide +kernel)) ggL_many_X7_many
theorem dL_many_0 : decode cL_many 0 = .ok (.aload_n 2, 1) := by decide +kernel
theorem dL_many_1 : decode cL_many 1 = .ok (.iconst 0, 1) := by decide +kernel
theorem dL_many_2 : decode cL_many 2 = .ok (.aload_n 0, 1) := by decide +kernel
theorem dL_many_3 : decode cL_many 3 = .ok (.iload_n 1, 1) := by decide +kernel
theorem dL_many_4 : decode cL_many 4 = .ok (.invokevirtual 74, 3) := by decide +kernel
theorem dL_many_7 : decode cL_many 7 = .ok (.i2l, 1) := by decide +kernel
theorem dL_many_8 : decode cL_many 8 = .ok (.lastore, 1) := by decide +kernel
theorem dL_many_9 : decode cL_many 9 = .ok (.goto 6, 3) := by decide +kernel
theorem dL_many_12 : decode cL_many 12 = .ok (.astore_n 3, 1) := by decide +kernel
theorem dL_many_13 : decode cL_many 13 = .ok (.iconst 1, 1) := by decide +kernel
theorem dL_many_14 : decode cL_many 14 = .ok (.ireturn, 1) := by decide +kernel
theorem dL_many_15 : decode cL_many 15 = .ok (.iconst 0, 1) := by decide +kernel
theorem dL_many_16 : decode cL_many 16 = .ok (.ireturn, 1) := by decide +kernel
set_option maxRecDepth 20000 in
theorem ggL_cycleIn_X7_cycleIn : GoodIn wsL_cycleIn wsX7_cycleIn := goodIn_ca (goodIn_ca (goodIn_r _ [7, 8, 9, 10, 11, 6, 12, 13, 14, 15, 16, 17, 18, 19, 20, 21, 22, 23, 24, 25, 26, 27, 28, 29, 30, 31, 32, 33, 34, 35, 36, 37, 38, 39, 40, 41, 42, 43, 44, 45, 46, 47, 48, 49, 50, 51, 52, 53, 54, 55, 56, 57, 58, 59, 60, 61, 62, 63, 64, 65, 66, 67, 68, 69, 70, 71, 72, 73, 74, 75, 76, 77, 78, 79, 80, 81, 82, 83, 84, 85, 86, 87, 88, 89, 90, 91, 92, 93, 94, 95, 96, 97, 98, 99, 100, 101, 102, 103, 104, 105, 106, 107, 108, 109, 110, 111, 112, 113, 114, 115, 116, 117, 118, 119, 120, 121, 122, 123, 124, 125, 126, 127, 128, 129, 130, 131, 132, 133, 134, 135, 136, 137, 138, 139, 140, 141] (by decide +kernel) (by decide +kernel)) (goodIn_sub (fun _ h => List.mem_cons_of_mem _ (List.mem_append_left _ (List.mem_append_right _ h))) (by decide +kernel))) (goodIn_sub (fun _ h => List.mem_cons_of_mem _ (List.mem_append_right _ h)) (by decide +kernel))
set_option maxRecDepth 20000 in
theorem gL_cycleIn_X7_cycleIn : GoodIn wsL_cycleIn (wsV RL 77 RX7 yX7_cycleIn wsX7_cycleIn) := goodIn_app (goodIn_of _ (by decide +kernel)) ggL_cycleIn_X7_cycleIn
theorem dL_cycleIn_0 : decode cL_cycleIn 0 = .ok (.aload_n 3, 1) := by decide +kernel
theorem dL_cycleIn_1 : decode cL_cycleIn 1 = .ok (.iconst 0, 1) := by decide +kernel
theorem dL_cycleIn_2 : decode cL_cycleIn 2 = .ok (.aload_n 0, 1) := by decide +kernel
theorem dL_cycleIn_3 : decode cL_cycleIn 3 = .ok (.iload_n 1, 1) := by decide +kernel
theorem dL_cycleIn_4 : decode cL_cycleIn 4 = .ok (.iload_n 2, 1) := by decide +kernel
theorem dL_cycleIn_5 : decode cL_cycleIn 5 = .ok (.invokevirtual 77, 3) := by decide +kernel
theorem dL_cycleIn_8 : decode cL_cycleIn 8 = .ok (.i2l, 1) := by decide +kernel
theorem dL_cycleIn_9 : decode cL_cycleIn 9 = .ok (.lastore, 1) := by decide +kernel
theorem dL_cycleIn_10 : decode cL_cycleIn 10 = .ok (.goto 11, 3) := by decide +kernel
theorem dL_cycleIn_13 : decode cL_cycleIn 13 = .ok (.astore 4, 2) := by decide +kernel
theorem dL_cycleIn_15 : decode cL_cycleIn 15 = .ok (.iconst 1, 1) := by decide +kernel
theorem dL_cycleIn_16 : decode cL_cycleIn 16 = .ok (.ireturn, 1) := by decide +kernel
theorem dL_cycleIn_17 : decode cL_cycleIn 17 = .ok (.astore 4, 2) := by decide +kernel
theorem dL_cycleIn_19 : decode cL_cycleIn 19 = .ok (.iconst 2, 1) := by decide +kernel
theorem dL_cycleIn_20 : decode cL_cycleIn 20 = .ok (.ireturn, 1) := by decide +kernel
theorem dL_cycleIn_21 : decode cL_cycleIn 21 = .ok (.iconst 0, 1) := by decide +kernel
theorem dL_cycleIn_22 : decode cL_cycleIn 22 = .ok (.ireturn, 1) := by decide +kernel
set_option maxRecDepth 20000 in
theorem ggL_backIn_X7_backIn : GoodIn wsL_backIn wsX7_backIn := goodIn_ca (goodIn_r _ [6, 7, 8, 9, 5, 10, 11, 12, 13, 14, 15, 16, 17, 18, 19, 20, 21, 22, 23, 24, 25, 26, 27, 28, 29, 30, 31, 32, 33, 34, 35, 36, 37, 38, 39, 40, 41, 42, 43, 44, 45, 46, 47, 48, 49, 50, 51, 52, 53, 54, 55, 56, 57, 58, 59, 60, 61, 62, 63, 64, 65, 66, 67, 68, 69, 70, 71, 72, 73, 74, 75, 76, 77, 78, 79, 80, 81, 82, 83, 84, 85, 86, 87, 88, 89, 90, 91, 92, 93, 94, 95, 96, 97, 98, 99, 100, 101, 102, 103, 104, 105, 106, 107, 108, 109, 110, 111, 112, 113, 114, 115, 116, 117, 118, 119, 120, 121, 122, 123, 124, 125, 126, 127, 128, 129, 130, 131, 132, 133, 134, 135, 136, 137, 138, 139, 140, 141, 142, 143, 144, 145, 146, 147, 148, 149, 150, 151, 152, 153, 154, 155, 156, 157, 158, 159, 160, 161, 162, 163, 164, 165, 166, 167, 168, 169] (by decide +kernel) (by decide +kernel)) (goodIn_sub (fun _ h => List.mem_cons_of_mem _ (List.mem_append_right _ h)) (by decide +kernel))
set_option maxRecDepth 20000 in
theorem gL_backIn_X7_backIn : GoodIn wsL_backIn (wsV RL 80 RX7 yX7_backIn wsX7_backIn) := goodIn_app (goodIn_of _ (by decide +kernel)) ggL_backIn_X7_backIn
theorem dL_backIn_0 : decode cL_backIn 0 = .ok (.aload_n 2, 1) := by decide +kernel
theorem dL_backIn_1 : decode cL_backIn 1 = .ok (.iconst 0, 1) := by decide +kernel
theorem dL_backIn_2 : decode cL_backIn 2 = .ok (.aload_n 0, 1) := by decide +kernel
theorem dL_backIn_3 : decode cL_backIn 3 = .ok (.iload_n 1, 1) := by decide +kernel
theorem dL_backIn_4 : decode cL_backIn 4 = .ok (.invokevirtual 80, 3) := by decide +kernel
theorem dL_backIn_7 : decode cL_backIn 7 = .ok (.i2l, 1) := by decide +kernel
theorem dL_backIn_8 : decode cL_backIn 8 = .ok (.lastore, 1) := by decide +kernel
theorem dL_backIn_9 : decode cL_backIn 9 = .ok (.goto 6, 3) := by decide +kernel
theorem dL_backIn_12 : decode cL_backIn 12 = .ok (.astore_n 3, 1) := by decide +kernel
theorem dL_backIn_13 : decode cL_backIn 13 = .ok (.iconst 1, 1) := by decide +kernel
theorem dL_backIn_14 : decode cL_backIn 14 = .ok (.ireturn, 1) := by decide +kernel
theorem dL_backIn_15 : decode cL_backIn 15 = .ok (.iconst 0, 1) := by decide +kernel
theorem dL_backIn_16 : decode cL_backIn 16 = .ok (.ireturn, 1) := by decide +kernel
set_option maxRecDepth 20000 in
theorem ggL_gramIn_X7_gramIn : GoodIn wsL_gramIn wsX7_gramIn := goodIn_ca (goodIn_r _ [6, 7, 8, 9, 10, 5, 11, 12, 13, 14, 15, 16, 17, 18, 19, 20, 21, 22, 23, 24, 25, 26, 27, 28, 29, 30, 31, 32, 33, 34, 35, 36, 37, 38, 39, 40, 41, 42, 43, 44, 45, 46, 47, 48, 49, 50, 51, 52, 53, 54, 55, 56, 57, 58, 59, 60, 61, 62, 63, 64, 65, 66, 67, 68, 69, 70, 71, 72, 73, 74, 75, 76, 77, 78, 79, 80, 81, 82, 83, 84, 85, 86, 87, 88, 89, 90, 91, 92, 93, 94, 95, 96, 97, 98, 99, 100, 101, 102, 103] (by decide +kernel) (by decide +kernel)) (goodIn_sub (fun _ h => List.mem_cons_of_mem _ (List.mem_append_right _ h)) (by decide +kernel))
set_option maxRecDepth 20000 in
theorem gL_gramIn_X7_gramIn : GoodIn wsL_gramIn (wsV RL 83 RX7 yX7_gramIn wsX7_gramIn) := goodIn_app (goodIn_of _ (by decide +kernel)) ggL_gramIn_X7_gramIn
theorem dL_gramIn_0 : decode cL_gramIn 0 = .ok (.aload_n 2, 1) := by decide +kernel
theorem dL_gramIn_1 : decode cL_gramIn 1 = .ok (.iconst 0, 1) := by decide +kernel
theorem dL_gramIn_2 : decode cL_gramIn 2 = .ok (.aload_n 0, 1) := by decide +kernel
theorem dL_gramIn_3 : decode cL_gramIn 3 = .ok (.iload_n 1, 1) := by decide +kernel
theorem dL_gramIn_4 : decode cL_gramIn 4 = .ok (.invokevirtual 83, 3) := by decide +kernel
theorem dL_gramIn_7 : decode cL_gramIn 7 = .ok (.i2l, 1) := by decide +kernel
theorem dL_gramIn_8 : decode cL_gramIn 8 = .ok (.lastore, 1) := by decide +kernel
theorem dL_gramIn_9 : decode cL_gramIn 9 = .ok (.goto 6, 3) := by decide +kernel
theorem dL_gramIn_12 : decode cL_gramIn 12 = .ok (.astore_n 3, 1) := by decide +kernel
theorem dL_gramIn_13 : decode cL_gramIn 13 = .ok (.iconst 1, 1) := by decide +kernel
theorem dL_gramIn_14 : decode cL_gramIn 14 = .ok (.ireturn, 1) := by decide +kernel
theorem dL_gramIn_15 : decode cL_gramIn 15 = .ok (.iconst 0, 1) := by decide +kernel
theorem dL_gramIn_16 : decode cL_gramIn 16 = .ok (.ireturn, 1) := by decide +kernel
set_option maxRecDepth 20000 in
theorem ggL_law_X7_init : GoodIn wsL_law wsX7_init := goodIn_r _ [10, 11, 12, 13, 14, 15, 16, 17, 18, 19, 20, 21, 22, 23, 24, 25, 26, 27, 28, 29, 30, 31, 32, 33, 34, 35, 36, 37, 38, 39, 40, 41, 42, 43, 44, 45, 46, 47, 48, 49, 50, 51, 52, 53, 54, 55, 56, 57, 58, 59, 60, 61, 62, 63, 64, 65, 66, 67, 68, 69, 70, 71, 72, 73, 1039, 1040, 1041, 1042, 1043, 1044, 1045, 1046, 1047, 1048, 1049, 1057, 1058, 1059, 1060, 1061, 1062, 1063, 1064, 1065, 1066, 1067, 1068, 1069, 1070, 1071, 1072, 1073, 1074, 1075, 1076, 1077, 1078, 1079, 1080] (by decide +kernel) (by decide +kernel)
set_option maxRecDepth 20000 in
theorem gL_law_X7_init : GoodIn wsL_law (wsX7_init) := ggL_law_X7_init
set_option maxRecDepth 20000 in
theorem ggL_law_X10_init : GoodIn wsL_law wsX10_init := goodIn_r _ [76, 77, 12, 13, 78, 79, 80, 81, 82, 83, 84, 85, 86, 87, 88, 89, 90, 91, 92, 93, 94, 95, 96, 97, 1081, 1082, 1083, 1050, 1051, 1052, 1053, 1054, 1055, 1056] (by decide +kernel) (by decide +kernel)
set_option maxRecDepth 20000 in
theorem gL_law_X10_init : GoodIn wsL_law (wsX10_init) := ggL_law_X10_init
set_option maxRecDepth 20000 in
theorem ggL_law_L_machine : GoodIn wsL_law wsL_machine := goodIn_ca (goodIn_ca (goodIn_r _ [101, 102, 103, 104, 105, 106, 2, 107, 14, 108, 109, 110, 111, 112, 113, 114, 115, 116, 117, 118, 119, 120, 121, 122, 123, 124, 125, 126, 127, 128, 12, 13, 129, 38, 130, 131, 132, 133, 134, 135, 136, 137, 138, 139, 15, 1084, 1085, 1086, 1087, 1088, 1089, 1090, 1039, 1040, 1041, 1042, 1043, 1044, 1045, 1046, 1047, 1048, 1049] (by decide +kernel) (by decide +kernel)) (goodIn_sub (fun _ h => List.mem_append_left _ (List.mem_append_left _ (List.mem_append_right _ h))) (by decide +kernel))) (goodIn_sub (fun _ h => List.mem_append_left _ (List.mem_append_right _ h)) (by decide +kernel))
set_option maxRecDepth 20000 in
theorem gL_law_L_machine : GoodIn wsL_law (va_wsS RL 90 yL_machine wsL_machine) := goodIn_app (goodIn_of _ (by decide +kernel)) ggL_law_L_machine
set_option maxRecDepth 20000 in
theorem ggL_law_X10_machine : GoodIn wsL_law wsX10_machine := goodIn_r _ [143, 144, 81, 145, 146, 147, 148, 149, 5, 150, 151, 152, 153, 154, 155, 156, 157, 80, 158, 159, 160, 161, 162, 163, 12, 13, 164, 165, 166, 167, 168, 169, 170, 171, 172, 173, 174, 175, 87, 176, 177, 178, 179, 180, 181, 182, 183, 184, 185, 186, 187, 86, 188, 189, 190, 191, 192, 193, 194, 195, 196, 197, 198, 199, 200, 201, 202, 203, 204, 205, 206, 207, 208, 209, 210, 211, 212, 213, 214, 215, 216, 217, 218, 219, 220, 221, 1050, 1051, 1052, 1053, 1054, 1055, 1056, 1091, 1092, 1093, 1094, 1095, 1081, 1082, 1083] (by decide +kernel) (by decide +kernel)
set_option maxRecDepth 20000 in
theorem gL_law_X10_machine : GoodIn wsL_law (wsV RL 95 RX10 yX10_machine wsX10_machine) := goodIn_app (goodIn_of _ (by decide +kernel)) ggL_law_X10_machine
set_option maxRecDepth 20000 in
theorem ggL_law_X10_thrown : GoodIn wsL_law wsX10_thrown := goodIn_r _ [225, 144, 1050, 1051, 1052, 1053, 1054, 1055, 1056] (by decide +kernel) (by decide +kernel)
set_option maxRecDepth 20000 in
theorem gL_law_X10_thrown : GoodIn wsL_law (wsV RL 96 RX10 yX10_thrown wsX10_thrown) := goodIn_app (goodIn_of _ (by decide +kernel)) ggL_law_X10_thrown
set_option maxRecDepth 20000 in
theorem ggL_law_L_tell : GoodIn wsL_law wsL_tell := goodIn_ca (goodIn_ca (goodIn_ca (goodIn_r _ [228, 229, 102, 103, 230, 231, 232, 2, 233, 122, 123, 234, 235, 236, 237, 238, 239, 124, 15, 240, 241, 242, 243, 110, 111, 112, 244, 245, 246, 113, 114, 115, 116, 117, 247, 248, 249, 109, 250, 130, 251, 252, 253, 254, 131, 132, 255, 256, 257, 258, 259, 260, 261, 262, 263, 264, 133, 134, 135, 265, 266, 267, 268, 269, 270, 271, 272, 129, 273, 1039, 1040, 1041, 1042, 1043, 1044, 1045, 1046, 1047, 1048, 1049, 1084, 1085, 1086, 1087, 1088, 1089, 1090] (by decide +kernel) (by decide +kernel)) (goodIn_sub (fun _ h => List.mem_append_left _ (List.mem_append_right _ h)) (by decide +kernel))) (goodIn_sub (fun _ h => List.mem_append_right _ h) (by decide +kernel))) (goodIn_sub (fun _ h => List.mem_append_left _ (List.mem_append_left _ (List.mem_append_right _ h))) (by decide +kernel))
set_option maxRecDepth 20000 in
theorem gL_law_L_tell : GoodIn wsL_law (va_wsS RL 100 yL_tell wsL_tell) := goodIn_app (goodIn_of _ (by decide +kernel)) ggL_law_L_tell
set_option maxRecDepth 20000 in
theorem ggL_law_X10_tell : GoodIn wsL_law wsX10_tell := goodIn_r _ [277, 144, 81, 278, 279, 280, 281, 5, 282, 283, 284, 285, 286, 155, 156, 157, 80, 158, 159, 148, 149, 150, 287, 288, 289, 290, 291, 292, 293, 294, 295, 296, 297, 298, 299, 300, 301, 302, 87, 303, 304, 305, 147, 306, 169, 307, 308, 309, 310, 38, 311, 312, 313, 314, 315, 164, 165, 166, 316, 317, 318, 319, 1050, 1051, 1052, 1053, 1054, 1055, 1056, 1091, 1092, 1093, 1094, 1095, 1081, 1082, 1083] (by decide +kernel) (by decide +kernel)
set_option maxRecDepth 20000 in
theorem gL_law_X10_tell : GoodIn wsL_law (wsV RL 103 RX10 yX10_tell wsX10_tell) := goodIn_app (goodIn_of _ (by decide +kernel)) ggL_law_X10_tell
set_option maxRecDepth 20000 in
theorem ggL_law_L_amend : GoodIn wsL_law wsL_amend := goodIn_ca (goodIn_ca (goodIn_ca (goodIn_r _ [322, 229, 102, 103, 323, 324, 325, 2, 326, 122, 123, 234, 235, 236, 237, 238, 239, 124, 15, 240, 241, 242, 243, 110, 111, 112, 244, 245, 246, 113, 114, 115, 116, 117, 247, 248, 249, 109, 250, 130, 251, 252, 253, 254, 131, 132, 255, 256, 257, 258, 259, 260, 261, 262, 263, 264, 133, 134, 135, 1039, 1040, 1041, 1042, 1043, 1044, 1045, 1046, 1047, 1048, 1049, 1084, 1085, 1086, 1087, 1088, 1089, 1090] (by decide +kernel) (by decide +kernel)) (goodIn_sub (fun _ h => List.mem_append_left _ (List.mem_append_right _ h)) (by decide +kernel))) (goodIn_sub (fun _ h => List.mem_append_right _ h) (by decide +kernel))) (goodIn_sub (fun _ h => List.mem_append_left _ (List.mem_append_left _ (List.mem_append_right _ h))) (by decide +kernel))
set_option maxRecDepth 20000 in
theorem gL_law_L_amend : GoodIn wsL_law (va_wsS RL 104 yL_amend wsL_amend) := goodIn_app (goodIn_of _ (by decide +kernel)) ggL_law_L_amend
set_option maxRecDepth 20000 in
theorem ggL_law_X10_amend : GoodIn wsL_law wsX10_amend := goodIn_r _ [330, 144, 81, 278, 279, 280, 281, 5, 282, 283, 284, 285, 286, 155, 156, 157, 80, 158, 159, 148, 149, 150, 287, 288, 289, 290, 291, 292, 293, 294, 295, 296, 297, 298, 299, 300, 301, 302, 87, 303, 304, 305, 147, 306, 169, 307, 308, 309, 310, 38, 311, 312, 313, 314, 315, 164, 165, 166, 1050, 1051, 1052, 1053, 1054, 1055, 1056, 1091, 1092, 1093, 1094, 1095, 1081, 1082, 1083] (by decide +kernel) (by decide +kernel)
set_option maxRecDepth 20000 in
theorem gL_law_X10_amend : GoodIn wsL_law (wsV RL 106 RX10 yX10_amend wsX10_amend) := goodIn_app (goodIn_of _ (by decide +kernel)) ggL_law_X10_amend
set_option maxRecDepth 20000 in
theorem ggL_law_L_child : GoodIn wsL_law wsL_child := goodIn_ca (goodIn_ca (goodIn_ca (goodIn_r _ [333, 229, 102, 103, 334, 335, 336, 2, 337, 14, 108, 109, 243, 21, 234, 235, 236, 237, 238, 239, 124, 15, 338, 339, 340, 341, 342, 343, 344, 20, 345, 346, 347, 348, 349, 350, 351, 352, 353, 354, 355, 356, 357, 358, 39, 359, 360, 361, 362, 363, 216, 190, 217, 364, 189, 191, 365, 366, 367, 368, 369, 370, 371, 372, 373, 374, 248, 249, 250, 130, 375, 376, 377, 378, 379, 380, 381, 382, 131, 383, 384, 385, 386, 132, 387, 388, 389, 390, 391, 392, 393, 394, 395, 396, 397, 398, 399, 129, 400, 269, 270, 271, 272, 401, 402, 403, 404, 273, 405, 110, 111, 112, 113, 114, 115, 116, 117, 118, 119, 120, 121, 122, 123, 125, 126, 127, 128, 12, 13, 38, 133, 134, 135, 406, 407, 408, 409, 410, 411, 412, 413, 414, 415, 252, 253, 254, 136, 137, 138, 139, 1084, 1085, 1086, 1087, 1088, 1089, 1090, 1039, 1040, 1041, 1042, 1043, 1044, 1045, 1046, 1047, 1048, 1049, 1057, 1058, 1059, 1060, 1061, 1062] (by decide +kernel) (by decide +kernel)) (goodIn_sub (fun _ h => List.mem_append_right _ h) (by decide +kernel))) (goodIn_sub (fun _ h => List.mem_append_left _ (List.mem_append_left _ (List.mem_append_right _ h))) (by decide +kernel))) (goodIn_sub (fun _ h => List.mem_append_left _ (List.mem_append_right _ h)) (by decide +kernel))
set_option maxRecDepth 20000 in
theorem gL_law_L_child : GoodIn wsL_law (va_wsS RL 107 yL_child wsL_child) := goodIn_app (goodIn_of _ (by decide +kernel)) ggL_law_L_child
set_option maxRecDepth 20000 in
theorem ggL_law_X10_child : GoodIn wsL_law wsX10_child := goodIn_r _ [419, 144, 81, 278, 145, 146, 147, 420, 421, 422, 423, 424, 425, 38, 283, 284, 285, 5, 286, 155, 156, 157, 80, 158, 159, 148, 149, 150, 151, 152, 153, 154, 287, 288, 289, 290, 291, 292, 293, 294, 295, 296, 297, 298, 299, 300, 301, 302, 87, 426, 427, 428, 429, 430, 431, 432, 433, 434, 435, 436, 437, 438, 439, 440, 12, 13, 441, 442, 443, 444, 445, 446, 447, 448, 449, 450, 451, 216, 190, 217, 452, 453, 189, 191, 454, 455, 456, 457, 458, 459, 460, 461, 462, 463, 464, 465, 466, 467, 304, 305, 306, 169, 468, 469, 470, 471, 472, 167, 473, 474, 160, 161, 162, 163, 164, 165, 166, 168, 475, 170, 171, 172, 173, 174, 175, 176, 177, 178, 179, 180, 181, 182, 183, 184, 185, 186, 187, 86, 188, 192, 193, 194, 195, 196, 197, 198, 199, 200, 201, 202, 203, 204, 205, 206, 207, 208, 209, 210, 211, 212, 213, 214, 215, 218, 219, 220, 221, 1050, 1051, 1052, 1053, 1054, 1055, 1056, 1091, 1092, 1093, 1094, 1095, 1096, 1097, 1098, 1099, 1100, 1101, 1102, 1103, 1081, 1082, 1083] (by decide +kernel) (by decide +kernel)
set_option maxRecDepth 20000 in
theorem gL_law_X10_child : GoodIn wsL_law (wsV RL 110 RX10 yX10_child wsX10_child) := goodIn_app (goodIn_of _ (by decide +kernel)) ggL_law_X10_child
set_option maxRecDepth 20000 in
theorem ggL_law_L_tag : GoodIn wsL_law wsL_tag := goodIn_ca (goodIn_ca (goodIn_r _ [478, 102, 103, 479, 480, 481, 2, 482, 122, 123, 483, 17, 16, 484, 485, 110, 111, 112, 113, 114, 115, 116, 117, 486, 487, 488, 489, 12, 13, 490, 491, 492, 1039, 1040, 1041, 1042, 1043, 1044, 1045, 1046, 1047, 1048, 1049, 1104, 1105, 1106] (by decide +kernel) (by decide +kernel)) (goodIn_sub (fun _ h => List.mem_append_left _ (List.mem_append_right _ h)) (by decide +kernel))) (goodIn_sub (fun _ h => List.mem_append_left _ (List.mem_append_left _ (List.mem_append_right _ h))) (by decide +kernel))
set_option maxRecDepth 20000 in
theorem gL_law_L_tag : GoodIn wsL_law (va_wsS RL 111 yL_tag wsL_tag) := goodIn_app (goodIn_of _ (by decide +kernel)) ggL_law_L_tag
set_option maxRecDepth 20000 in
theorem ggL_law_X10_tag : GoodIn wsL_law wsX10_tag := goodIn_r _ [496, 144, 82, 38, 148, 149, 5, 150, 151, 152, 153, 154, 155, 156, 157, 80, 158, 159, 170, 171, 172, 173, 174, 175, 87, 176, 177, 178, 179, 180, 181, 182, 183, 184, 185, 186, 187, 86, 188, 189, 190, 191, 192, 193, 194, 195, 196, 197, 198, 199, 200, 201, 202, 203, 204, 205, 206, 207, 208, 209, 210, 211, 212, 213, 214, 215, 216, 217, 218, 219, 220, 221, 1050, 1051, 1052, 1053, 1054, 1055, 1056, 1081, 1082, 1083] (by decide +kernel) (by decide +kernel)
set_option maxRecDepth 20000 in
theorem gL_law_X10_tag : GoodIn wsL_law (wsV RL 114 RX10 yX10_tag wsX10_tag) := goodIn_app (goodIn_of _ (by decide +kernel)) ggL_law_X10_tag
set_option maxRecDepth 20000 in
theorem ggL_law_L_prove : GoodIn wsL_law wsL_prove := goodIn_ca (goodIn_ca (goodIn_ca (goodIn_r _ [499, 229, 102, 103, 500, 501, 502, 2, 503, 504, 505, 234, 235, 236, 237, 238, 239, 124, 15, 506, 507, 508, 110, 111, 112, 113, 114, 115, 116, 117, 509, 510, 511, 122, 123, 259, 512, 513, 514, 515, 21, 516, 25, 33, 342, 343, 344, 20, 345, 346, 347, 348, 349, 350, 351, 352, 353, 354, 355, 356, 357, 358, 39, 359, 360, 361, 362, 363, 216, 190, 217, 364, 189, 191, 365, 366, 367, 368, 369, 370, 371, 372, 373, 374, 248, 249, 109, 250, 130, 375, 376, 377, 378, 379, 380, 381, 382, 131, 383, 384, 385, 386, 132, 517, 518, 519, 520, 24, 521, 522, 523, 524, 525, 45, 46, 526, 527, 528, 529, 530, 531, 532, 533, 534, 535, 536, 537, 538, 539, 540, 541, 542, 543, 544, 545, 546, 547, 548, 549, 29, 550, 551, 552, 28, 553, 55, 554, 555, 556, 557, 558, 559, 270, 271, 272, 129, 560, 402, 403, 404, 273, 405, 561, 562, 563, 54, 564, 565, 61, 62, 63, 64, 566, 567, 568, 569, 570, 571, 572, 56, 573, 574, 575, 576, 577, 578, 579, 580, 581, 582, 583, 584, 585, 586, 587, 588, 589, 590, 591, 592, 32, 593, 594, 595, 596, 71, 597, 598, 599, 600, 70, 72, 73, 601, 602, 603, 604, 605, 606, 607, 608, 609, 610, 611, 612, 613, 614, 615, 616, 617, 618, 619, 620, 621, 261, 262, 263, 264, 133, 134, 135, 1039, 1040, 1041, 1042, 1043, 1044, 1045, 1046, 1047, 1048, 1049, 1084, 1085, 1086, 1087, 1088, 1089, 1090, 1057, 1058, 1059, 1060, 1061, 1062, 1063, 1064, 1065, 1066, 1067, 1068, 1076, 1077, 1078, 1079, 1080, 1069, 1070, 1071, 1072, 1073, 1074, 1075] (by decide +kernel) (by decide +kernel)) (goodIn_sub (fun _ h => List.mem_append_right _ h) (by decide +kernel))) (goodIn_sub (fun _ h => List.mem_append_left _ (List.mem_append_left _ (List.mem_append_right _ h))) (by decide +kernel))) (goodIn_sub (fun _ h => List.mem_append_left _ (List.mem_append_right _ h)) (by decide +kernel))
set_option maxRecDepth 20000 in
theorem gL_law_L_prove : GoodIn wsL_law (va_wsS RL 115 yL_prove wsL_prove) := goodIn_app (goodIn_of _ (by decide +kernel)) ggL_law_L_prove
set_option maxRecDepth 20000 in
theorem ggL_law_X10_prove : GoodIn wsL_law wsX10_prove := goodIn_r _ [625, 81, 278, 144, 626, 627, 283, 284, 285, 5, 286, 155, 156, 157, 80, 158, 159, 148, 149, 150, 628, 629, 630, 287, 288, 289, 290, 291, 292, 293, 294, 295, 296, 297, 298, 299, 300, 301, 302, 87, 631, 632, 633, 430, 431, 432, 147, 433, 434, 435, 436, 437, 438, 439, 440, 12, 13, 441, 442, 38, 443, 444, 445, 446, 447, 448, 449, 450, 451, 216, 190, 217, 452, 453, 189, 191, 454, 455, 456, 457, 458, 459, 460, 461, 462, 463, 464, 465, 466, 467, 304, 305, 306, 169, 634, 635, 636, 637, 638, 639, 640, 641, 642, 643, 644, 645, 646, 647, 648, 649, 650, 651, 652, 78, 79, 83, 84, 85, 86, 88, 89, 90, 91, 92, 93, 94, 95, 96, 97, 170, 171, 172, 173, 174, 175, 176, 177, 178, 179, 180, 181, 182, 183, 184, 185, 186, 187, 188, 192, 193, 194, 195, 196, 197, 198, 199, 200, 201, 202, 203, 204, 205, 206, 207, 208, 209, 210, 211, 212, 213, 214, 215, 218, 219, 220, 221, 653, 654, 655, 425, 656, 657, 658, 659, 660, 661, 662, 663, 664, 665, 666, 667, 668, 669, 670, 671, 672, 673, 674, 675, 676, 677, 678, 679, 680, 681, 682, 683, 684, 685, 686, 687, 688, 689, 690, 691, 692, 693, 694, 69, 695, 696, 697, 698, 1050, 1051, 1052, 1053, 1054, 1055, 1056, 1091, 1092, 1093, 1094, 1095, 1081, 1082, 1083, 1096, 1097, 1098, 1099, 1100, 1101, 1102, 1103, 1107, 1108, 1109, 1110] (by decide +kernel) (by decide +kernel)
set_option maxRecDepth 20000 in
theorem gL_law_X10_prove : GoodIn wsL_law (wsV RL 118 RX10 yX10_prove wsX10_prove) := goodIn_app (goodIn_of _ (by decide +kernel)) ggL_law_X10_prove
set_option maxRecDepth 20000 in
theorem ggL_law_L_doubt : GoodIn wsL_law wsL_doubt := goodIn_ca (goodIn_ca (goodIn_r _ [701, 102, 702, 703, 704, 2, 705, 124, 259, 110, 111, 112, 113, 114, 115, 116, 117, 234, 235, 236, 237, 238, 239, 15, 255, 256, 257, 258, 260, 261, 262, 263, 109, 264, 133, 134, 135, 1039, 1040, 1041, 1042, 1043, 1044, 1045, 1046, 1047, 1048, 1049, 1084, 1085, 1086, 1087, 1088, 1089, 1090] (by decide +kernel) (by decide +kernel)) (goodIn_sub (fun _ h => List.mem_append_left _ (List.mem_append_left _ (List.mem_append_right _ h))) (by decide +kernel))) (goodIn_sub (fun _ h => List.mem_append_right _ h) (by decide +kernel))
set_option maxRecDepth 20000 in
theorem gL_law_L_doubt : GoodIn wsL_law (va_wsS RL 119 yL_doubt wsL_doubt) := goodIn_app (goodIn_of _ (by decide +kernel)) ggL_law_L_doubt
set_option maxRecDepth 20000 in
theorem ggL_law_X10_doubt : GoodIn wsL_law wsX10_doubt := goodIn_r _ [709, 144, 81, 278, 311, 148, 149, 5, 150, 151, 152, 153, 154, 656, 657, 658, 80, 659, 660, 661, 662, 663, 664, 665, 666, 667, 12, 13, 668, 669, 175, 670, 671, 672, 673, 674, 675, 676, 677, 678, 679, 680, 681, 682, 683, 684, 312, 313, 314, 147, 315, 164, 165, 166, 1050, 1051, 1052, 1053, 1054, 1055, 1056, 1091, 1092, 1093, 1094, 1095, 1107, 1108, 1109, 1110, 1081, 1082, 1083] (by decide +kernel) (by decide +kernel)
set_option maxRecDepth 20000 in
theorem gL_law_X10_doubt : GoodIn wsL_law (wsV RL 121 RX10 yX10_doubt wsX10_doubt) := goodIn_app (goodIn_of _ (by decide +kernel)) ggL_law_X10_doubt
set_option maxRecDepth 20000 in
theorem ggL_law_L_decide : GoodIn wsL_law wsL_decide := goodIn_ca (goodIn_ca (goodIn_r _ [712, 229, 103, 713, 714, 715, 2, 716, 21, 516, 25, 33, 234, 235, 236, 237, 238, 239, 124, 15, 509, 510, 511, 122, 123, 259, 342, 343, 344, 20, 345, 346, 347, 348, 349, 350, 351, 352, 353, 354, 355, 356, 357, 358, 39, 359, 360, 361, 362, 363, 216, 190, 217, 364, 189, 191, 365, 366, 367, 368, 369, 370, 371, 372, 373, 374, 248, 249, 109, 250, 130, 375, 376, 377, 378, 379, 380, 381, 382, 131, 383, 384, 385, 386, 132, 517, 717, 718, 719, 261, 262, 263, 264, 133, 134, 135, 720, 721, 722, 24, 723, 522, 523, 524, 525, 45, 46, 526, 527, 528, 529, 530, 531, 532, 533, 534, 535, 536, 537, 538, 539, 540, 541, 542, 543, 544, 545, 724, 725, 726, 727, 29, 550, 551, 552, 28, 553, 55, 554, 555, 556, 557, 558, 559, 270, 271, 272, 129, 560, 402, 403, 404, 273, 405, 561, 562, 563, 54, 564, 565, 61, 62, 63, 64, 566, 567, 568, 569, 570, 571, 572, 56, 573, 574, 575, 576, 577, 578, 579, 580, 581, 582, 583, 584, 585, 586, 587, 588, 589, 728, 729, 730, 32, 731, 732, 591, 592, 593, 594, 595, 596, 71, 597, 598, 599, 600, 70, 72, 73, 601, 602, 603, 604, 605, 606, 607, 608, 609, 610, 611, 612, 613, 614, 615, 616, 617, 618, 619, 620, 621, 1039, 1040, 1041, 1042, 1043, 1044, 1045, 1046, 1047, 1048, 1049, 1057, 1058, 1059, 1060, 1061, 1062, 1084, 1085, 1086, 1087, 1088, 1089, 1090, 1063, 1064, 1065, 1066, 1067, 1068, 1076, 1077, 1078, 1079, 1080, 1069, 1070, 1071, 1072, 1073, 1074, 1075] (by decide +kernel) (by decide +kernel)) (goodIn_sub (fun _ h => List.mem_append_right _ h) (by decide +kernel))) (goodIn_sub (fun _ h => List.mem_append_left _ (List.mem_append_right _ h)) (by decide +kernel))
set_option maxRecDepth 20000 in
theorem gL_law_L_decide : GoodIn wsL_law (va_wsS RL 122 yL_decide wsL_decide) := goodIn_app (goodIn_of _ (by decide +kernel)) ggL_law_L_decide
set_option maxRecDepth 20000 in
theorem ggL_law_L_cell : GoodIn wsL_law wsL_cell := goodIn_ca (goodIn_ca (goodIn_r _ [748, 229, 102, 749, 750, 751, 2, 752, 753, 189, 190, 191, 234, 235, 236, 237, 238, 239, 124, 15, 240, 241, 242, 243, 110, 111, 112, 113, 114, 115, 116, 117, 247, 248, 249, 109, 250, 130, 754, 376, 377, 378, 755, 380, 381, 382, 131, 756, 384, 385, 386, 132, 1039, 1040, 1041, 1042, 1043, 1044, 1045, 1046, 1047, 1048, 1049, 1084, 1085, 1086, 1087, 1088, 1089, 1090] (by decide +kernel) (by decide +kernel)) (goodIn_sub (fun _ h => List.mem_append_right _ h) (by decide +kernel))) (goodIn_sub (fun _ h => List.mem_append_left _ (List.mem_append_left _ (List.mem_append_right _ h))) (by decide +kernel))
set_option maxRecDepth 20000 in
theorem gL_law_L_cell : GoodIn wsL_law (va_wsS RL 125 yL_cell wsL_cell) := goodIn_app (goodIn_of _ (by decide +kernel)) ggL_law_L_cell
set_option maxRecDepth 20000 in
theorem ggL_law_X10_cell : GoodIn wsL_law wsX10_cell := goodIn_r _ [760, 144, 81, 278, 283, 284, 285, 5, 286, 155, 156, 157, 80, 158, 159, 148, 149, 150, 287, 288, 289, 290, 291, 292, 293, 294, 295, 296, 297, 298, 299, 300, 301, 302, 87, 151, 152, 153, 154, 761, 762, 763, 640, 189, 190, 191, 303, 304, 305, 147, 306, 169, 1050, 1051, 1052, 1053, 1054, 1055, 1056, 1091, 1092, 1093, 1094, 1095, 1081, 1082, 1083] (by decide +kernel) (by decide +kernel)
set_option maxRecDepth 20000 in
theorem gL_law_X10_cell : GoodIn wsL_law (wsV RL 127 RX10 yX10_cell wsX10_cell) := goodIn_app (goodIn_of _ (by decide +kernel)) ggL_law_X10_cell
set_option maxRecDepth 20000 in
theorem ggL_law_L_ofMachine : GoodIn wsL_law wsL_ofMachine := goodIn_ca (goodIn_ca (goodIn_r _ [766, 229, 102, 767, 768, 769, 2, 770, 243, 259, 771, 772, 234, 235, 236, 237, 238, 239, 124, 15, 110, 111, 112, 113, 114, 115, 116, 117, 265, 266, 267, 109, 268, 269, 270, 271, 272, 129, 273, 248, 249, 250, 130, 338, 339, 340, 341, 21, 342, 343, 344, 20, 345, 346, 347, 348, 349, 350, 351, 352, 353, 354, 355, 356, 357, 358, 39, 359, 360, 361, 362, 363, 216, 190, 217, 364, 189, 191, 365, 366, 367, 368, 369, 370, 371, 372, 373, 374, 375, 376, 377, 378, 379, 380, 381, 382, 131, 383, 384, 385, 386, 132, 387, 388, 389, 390, 391, 392, 393, 394, 395, 396, 397, 398, 399, 400, 401, 402, 403, 404, 405, 773, 774, 775, 776, 516, 777, 778, 779, 780, 517, 781, 782, 783, 784, 1084, 1085, 1086, 1087, 1088, 1089, 1090, 1039, 1040, 1041, 1042, 1043, 1044, 1045, 1046, 1047, 1048, 1049, 1057, 1058, 1059, 1060, 1061, 1062] (by decide +kernel) (by decide +kernel)) (goodIn_sub (fun _ h => List.mem_append_right _ h) (by decide +kernel))) (goodIn_sub (fun _ h => List.mem_append_left _ (List.mem_append_left _ (List.mem_append_right _ h))) (by decide +kernel))
set_option maxRecDepth 20000 in
theorem gL_law_L_ofMachine : GoodIn wsL_law (va_wsS RL 128 yL_ofMachine wsL_ofMachine) := goodIn_app (goodIn_of _ (by decide +kernel)) ggL_law_L_ofMachine
set_option maxRecDepth 20000 in
theorem ggL_law_X10_ofMachine : GoodIn wsL_law wsX10_ofMachine := goodIn_r _ [788, 144, 81, 278, 283, 284, 285, 5, 286, 155, 156, 157, 80, 158, 159, 148, 149, 150, 151, 152, 153, 154, 287, 288, 289, 290, 291, 292, 293, 294, 295, 296, 297, 298, 299, 300, 301, 302, 87, 789, 790, 791, 792, 38, 793, 779, 190, 780, 426, 427, 428, 429, 430, 431, 432, 147, 433, 434, 435, 436, 437, 438, 439, 440, 12, 13, 441, 442, 443, 444, 445, 446, 447, 448, 449, 450, 451, 216, 217, 452, 453, 189, 191, 454, 455, 456, 457, 458, 459, 460, 461, 462, 463, 464, 465, 466, 467, 304, 305, 306, 169, 468, 469, 470, 471, 472, 167, 473, 474, 316, 317, 318, 319, 794, 795, 796, 797, 798, 644, 645, 646, 634, 1050, 1051, 1052, 1053, 1054, 1055, 1056, 1081, 1082, 1083, 1091, 1092, 1093, 1094, 1095, 1096, 1097, 1098, 1099, 1100, 1101, 1102, 1103] (by decide +kernel) (by decide +kernel)
set_option maxRecDepth 20000 in
theorem gL_law_X10_ofMachine : GoodIn wsL_law (wsV RL 130 RX10 yX10_ofMachine wsX10_ofMachine) := goodIn_app (goodIn_of _ (by decide +kernel)) ggL_law_X10_ofMachine
set_option maxRecDepth 20000 in
theorem ggL_law_L_at : GoodIn wsL_law wsL_at := goodIn_ca (goodIn_ca (goodIn_r _ [801, 229, 102, 802, 803, 804, 2, 805, 21, 516, 806, 777, 807, 808, 234, 235, 236, 237, 238, 239, 124, 15, 110, 111, 112, 113, 114, 115, 116, 117, 342, 343, 344, 20, 345, 346, 347, 348, 349, 350, 351, 352, 353, 354, 355, 356, 357, 358, 39, 359, 360, 361, 362, 363, 216, 190, 217, 364, 189, 191, 365, 366, 367, 368, 369, 370, 371, 372, 373, 374, 248, 249, 109, 250, 130, 375, 376, 377, 378, 379, 380, 381, 382, 131, 383, 384, 385, 386, 132, 781, 782, 783, 784, 809, 810, 811, 812, 813, 814, 815, 816, 817, 1039, 1040, 1041, 1042, 1043, 1044, 1045, 1046, 1047, 1048, 1049, 1057, 1058, 1059, 1060, 1061, 1062, 1084, 1085, 1086, 1087, 1088, 1089, 1090] (by decide +kernel) (by decide +kernel)) (goodIn_sub (fun _ h => List.mem_append_right _ h) (by decide +kernel))) (goodIn_sub (fun _ h => List.mem_append_left _ (List.mem_append_left _ (List.mem_append_right _ h))) (by decide +kernel))
set_option maxRecDepth 20000 in
theorem gL_law_L_at : GoodIn wsL_law (va_wsS RL 131 yL_at wsL_at) := goodIn_app (goodIn_of _ (by decide +kernel)) ggL_law_L_at
set_option maxRecDepth 20000 in
theorem ggL_law_X10_at : GoodIn wsL_law wsX10_at := goodIn_r _ [821, 144, 81, 278, 283, 284, 285, 5, 286, 155, 156, 157, 80, 158, 159, 148, 149, 150, 151, 152, 153, 154, 287, 288, 289, 290, 291, 292, 293, 294, 295, 296, 297, 298, 299, 300, 301, 302, 87, 430, 431, 432, 147, 433, 434, 435, 436, 437, 438, 439, 440, 12, 13, 441, 442, 38, 443, 444, 445, 446, 447, 448, 449, 450, 451, 216, 190, 217, 452, 453, 189, 191, 454, 455, 456, 457, 458, 459, 460, 461, 462, 463, 464, 465, 466, 467, 304, 305, 306, 169, 822, 823, 824, 794, 795, 796, 797, 798, 644, 645, 646, 825, 826, 827, 828, 1050, 1051, 1052, 1053, 1054, 1055, 1056, 1081, 1082, 1083, 1096, 1097, 1098, 1099, 1100, 1101, 1102, 1103, 1091, 1092, 1093, 1094, 1095] (by decide +kernel) (by decide +kernel)
set_option maxRecDepth 20000 in
theorem gL_law_X10_at : GoodIn wsL_law (wsV RL 133 RX10 yX10_at wsX10_at) := goodIn_app (goodIn_of _ (by decide +kernel)) ggL_law_X10_at
set_option maxRecDepth 20000 in
theorem ggL_law_L_symbol : GoodIn wsL_law wsL_symbol := goodIn_ca (goodIn_ca (goodIn_r _ [831, 229, 102, 832, 833, 834, 2, 835, 21, 234, 235, 236, 237, 238, 239, 124, 15, 110, 111, 112, 113, 114, 115, 116, 117, 342, 343, 344, 20, 345, 346, 347, 348, 349, 350, 351, 352, 353, 354, 355, 356, 357, 358, 39, 359, 360, 361, 362, 363, 216, 190, 217, 364, 189, 191, 365, 366, 367, 368, 369, 370, 371, 372, 373, 374, 248, 249, 109, 250, 130, 375, 376, 377, 378, 379, 380, 381, 382, 131, 383, 384, 385, 386, 132, 836, 1039, 1040, 1041, 1042, 1043, 1044, 1045, 1046, 1047, 1048, 1049, 1057, 1058, 1059, 1060, 1061, 1062, 1084, 1085, 1086, 1087, 1088, 1089, 1090] (by decide +kernel) (by decide +kernel)) (goodIn_sub (fun _ h => List.mem_append_right _ h) (by decide +kernel))) (goodIn_sub (fun _ h => List.mem_append_left _ (List.mem_append_left _ (List.mem_append_right _ h))) (by decide +kernel))
set_option maxRecDepth 20000 in
theorem gL_law_L_symbol : GoodIn wsL_law (va_wsS RL 134 yL_symbol wsL_symbol) := goodIn_app (goodIn_of _ (by decide +kernel)) ggL_law_L_symbol
set_option maxRecDepth 20000 in
theorem ggL_law_X10_symbol : GoodIn wsL_law wsX10_symbol := goodIn_r _ [840, 144, 81, 278, 283, 284, 285, 5, 286, 155, 156, 157, 80, 158, 159, 148, 149, 150, 151, 152, 153, 154, 287, 288, 289, 290, 291, 292, 293, 294, 295, 296, 297, 298, 299, 300, 301, 302, 87, 430, 431, 432, 147, 433, 434, 435, 436, 437, 438, 439, 440, 12, 13, 441, 442, 38, 443, 444, 445, 446, 447, 448, 449, 450, 451, 216, 190, 217, 452, 453, 189, 191, 454, 455, 456, 457, 458, 459, 460, 461, 462, 463, 464, 465, 466, 467, 304, 305, 306, 169, 643, 644, 645, 646, 1050, 1051, 1052, 1053, 1054, 1055, 1056, 1081, 1082, 1083, 1096, 1097, 1098, 1099, 1100, 1101, 1102, 1103, 1091, 1092, 1093, 1094, 1095] (by decide +kernel) (by decide +kernel)
set_option maxRecDepth 20000 in
theorem gL_law_X10_symbol : GoodIn wsL_law (wsV RL 136 RX10 yX10_symbol wsX10_symbol) := goodIn_app (goodIn_of _ (by decide +kernel)) ggL_law_X10_symbol
set_option maxRecDepth 20000 in
theorem ggL_law_L_lean : GoodIn wsL_law wsL_lean := goodIn_ca (goodIn_ca (goodIn_r _ [843, 229, 102, 844, 845, 846, 2, 847, 21, 777, 516, 848, 234, 235, 236, 237, 238, 239, 124, 15, 110, 111, 112, 113, 114, 115, 116, 117, 342, 343, 344, 20, 345, 346, 347, 348, 349, 350, 351, 352, 353, 354, 355, 356, 357, 358, 39, 359, 360, 361, 362, 363, 216, 190, 217, 364, 189, 191, 365, 366, 367, 368, 369, 370, 371, 372, 373, 374, 248, 249, 109, 250, 130, 375, 376, 377, 378, 379, 380, 381, 382, 131, 383, 384, 385, 386, 132, 849, 850, 851, 852, 853, 854, 855, 1039, 1040, 1041, 1042, 1043, 1044, 1045, 1046, 1047, 1048, 1049, 1057, 1058, 1059, 1060, 1061, 1062, 1084, 1085, 1086, 1087, 1088, 1089, 1090] (by decide +kernel) (by decide +kernel)) (goodIn_sub (fun _ h => List.mem_append_right _ h) (by decide +kernel))) (goodIn_sub (fun _ h => List.mem_append_left _ (List.mem_append_left _ (List.mem_append_right _ h))) (by decide +kernel))
set_option maxRecDepth 20000 in
theorem gL_law_L_lean : GoodIn wsL_law (va_wsS RL 137 yL_lean wsL_lean) := goodIn_app (goodIn_of _ (by decide +kernel)) ggL_law_L_lean
set_option maxRecDepth 20000 in
theorem ggL_law_X10_lean : GoodIn wsL_law wsX10_lean := goodIn_r _ [859, 144, 81, 278, 793, 779, 190, 780, 860, 283, 284, 285, 5, 286, 155, 156, 157, 80, 158, 159, 148, 149, 150, 287, 288, 289, 290, 291, 292, 293, 294, 295, 296, 297, 298, 299, 300, 301, 302, 87, 430, 431, 432, 147, 433, 434, 435, 436, 437, 438, 439, 440, 12, 13, 441, 442, 38, 443, 444, 445, 446, 447, 448, 449, 450, 451, 216, 217, 452, 453, 189, 191, 454, 455, 456, 457, 458, 459, 460, 461, 462, 463, 464, 465, 466, 467, 304, 305, 306, 169, 1050, 1051, 1052, 1053, 1054, 1055, 1056, 1096, 1097, 1098, 1099, 1100, 1101, 1102, 1103, 1081, 1082, 1083, 1091, 1092, 1093, 1094, 1095] (by decide +kernel) (by decide +kernel)
set_option maxRecDepth 20000 in
theorem gL_law_X10_lean : GoodIn wsL_law (wsV RL 140 RX10 yX10_lean wsX10_lean) := goodIn_app (goodIn_of _ (by decide +kernel)) ggL_law_X10_lean
set_option maxRecDepth 20000 in
theorem ggL_law_L_meets : GoodIn wsL_law wsL_meets := goodIn_ca (goodIn_ca (goodIn_r _ [863, 229, 102, 864, 865, 866, 2, 867, 21, 234, 235, 236, 237, 238, 239, 124, 15, 240, 241, 242, 243, 110, 111, 112, 113, 114, 115, 116, 117, 868, 347, 348, 20, 349, 350, 351, 352, 353, 354, 355, 356, 357, 358, 39, 410, 392, 393, 394, 365, 366, 367, 368, 869, 360, 361, 362, 363, 216, 190, 217, 364, 189, 191, 369, 370, 371, 372, 373, 374, 248, 249, 109, 250, 130, 375, 376, 377, 378, 379, 380, 381, 382, 131, 383, 384, 385, 386, 132, 1039, 1040, 1041, 1042, 1043, 1044, 1045, 1046, 1047, 1048, 1049, 1084, 1085, 1086, 1087, 1088, 1089, 1090, 1057, 1058, 1059, 1060, 1061, 1062] (by decide +kernel) (by decide +kernel)) (goodIn_sub (fun _ h => List.mem_append_right _ h) (by decide +kernel))) (goodIn_sub (fun _ h => List.mem_append_left _ (List.mem_append_left _ (List.mem_append_right _ h))) (by decide +kernel))
set_option maxRecDepth 20000 in
theorem gL_law_L_meets : GoodIn wsL_law (va_wsS RL 141 yL_meets wsL_meets) := goodIn_app (goodIn_of _ (by decide +kernel)) ggL_law_L_meets
set_option maxRecDepth 20000 in
theorem ggL_law_X10_meets : GoodIn wsL_law wsX10_meets := goodIn_r _ [873, 144, 81, 278, 638, 435, 436, 283, 284, 285, 5, 286, 155, 156, 157, 80, 158, 159, 148, 149, 150, 287, 288, 289, 290, 291, 292, 293, 294, 295, 296, 297, 298, 299, 300, 301, 302, 87, 151, 152, 153, 154, 641, 438, 439, 440, 12, 13, 441, 442, 38, 443, 475, 464, 465, 466, 449, 642, 445, 446, 447, 448, 450, 451, 216, 190, 217, 452, 453, 189, 191, 454, 455, 456, 457, 458, 459, 460, 461, 462, 463, 467, 304, 305, 147, 306, 169, 1050, 1051, 1052, 1053, 1054, 1055, 1056, 1091, 1092, 1093, 1094, 1095, 1096, 1097, 1098, 1099, 1100, 1101, 1102, 1103, 1081, 1082, 1083] (by decide +kernel) (by decide +kernel)
set_option maxRecDepth 20000 in
theorem gL_law_X10_meets : GoodIn wsL_law (wsV RL 143 RX10 yX10_meets wsX10_meets) := goodIn_app (goodIn_of _ (by decide +kernel)) ggL_law_X10_meets
set_option maxRecDepth 20000 in
theorem ggL_law_L_likeness : GoodIn wsL_law wsL_likeness := goodIn_ca (goodIn_r _ [876, 229, 877, 878, 879, 2, 880, 234, 235, 236, 237, 238, 239, 124, 15, 881, 882, 883, 109, 884, 129, 269, 270, 271, 272, 885, 376, 377, 378, 130, 886, 380, 381, 382, 131, 405, 384, 385, 386, 132, 1039, 1040, 1041, 1042, 1043, 1044, 1045, 1046, 1047, 1048, 1049, 1084, 1085, 1086, 1087, 1088, 1089, 1090] (by decide +kernel) (by decide +kernel)) (goodIn_sub (fun _ h => List.mem_append_right _ h) (by decide +kernel))
set_option maxRecDepth 20000 in
theorem gL_law_L_likeness : GoodIn wsL_law (va_wsS RL 144 yL_likeness wsL_likeness) := goodIn_app (goodIn_of _ (by decide +kernel)) ggL_law_L_likeness
set_option maxRecDepth 20000 in
theorem ggL_law_X10_likeness : GoodIn wsL_law wsX10_likeness := goodIn_r _ [890, 144, 81, 278, 283, 284, 285, 5, 286, 155, 156, 157, 80, 158, 159, 148, 149, 150, 151, 152, 153, 154, 287, 288, 289, 290, 291, 292, 293, 294, 295, 296, 297, 298, 299, 300, 301, 302, 87, 891, 892, 893, 1050, 1051, 1052, 1053, 1054, 1055, 1056, 1081, 1082, 1083, 1091, 1092, 1093, 1094, 1095] (by decide +kernel) (by decide +kernel)
set_option maxRecDepth 20000 in
theorem gL_law_X10_likeness : GoodIn wsL_law (wsV RL 146 RX10 yX10_likeness wsX10_likeness) := goodIn_app (goodIn_of _ (by decide +kernel)) ggL_law_X10_likeness
set_option maxRecDepth 20000 in
theorem ggL_law_L_champion : GoodIn wsL_law wsL_champion := goodIn_ca (goodIn_ca (goodIn_r _ [896, 102, 897, 898, 899, 2, 900, 124, 259, 110, 111, 112, 113, 114, 115, 116, 117, 234, 235, 236, 237, 238, 239, 15, 773, 774, 775, 776, 21, 516, 777, 778, 779, 190, 780, 342, 343, 344, 20, 345, 346, 347, 348, 349, 350, 351, 352, 353, 354, 355, 356, 357, 358, 39, 359, 360, 361, 362, 363, 216, 217, 364, 189, 191, 365, 366, 367, 368, 369, 370, 371, 372, 373, 374, 248, 249, 109, 250, 130, 375, 376, 377, 378, 379, 380, 381, 382, 131, 383, 384, 385, 386, 132, 517, 781, 782, 783, 784, 1039, 1040, 1041, 1042, 1043, 1044, 1045, 1046, 1047, 1048, 1049, 1084, 1085, 1086, 1087, 1088, 1089, 1090, 1057, 1058, 1059, 1060, 1061, 1062] (by decide +kernel) (by decide +kernel)) (goodIn_sub (fun _ h => List.mem_append_left _ (List.mem_append_left _ (List.mem_append_right _ h))) (by decide +kernel))) (goodIn_sub (fun _ h => List.mem_append_right _ h) (by decide +kernel))
set_option maxRecDepth 20000 in
theorem gL_law_L_champion : GoodIn wsL_law (va_wsS RL 147 yL_champion wsL_champion) := goodIn_app (goodIn_of _ (by decide +kernel)) ggL_law_L_champion
set_option maxRecDepth 20000 in
theorem ggL_law_X10_champion : GoodIn wsL_law wsX10_champion := goodIn_r _ [904, 144, 148, 149, 5, 150, 905, 906, 907, 908, 81, 278, 155, 156, 157, 80, 158, 159, 287, 288, 289, 290, 291, 292, 293, 294, 295, 296, 297, 298, 299, 300, 301, 302, 87, 789, 790, 791, 792, 38, 793, 779, 190, 780, 426, 427, 428, 429, 430, 431, 432, 147, 433, 434, 435, 436, 437, 438, 439, 440, 12, 13, 441, 442, 443, 444, 445, 446, 447, 448, 449, 450, 451, 216, 217, 452, 453, 189, 191, 454, 455, 456, 457, 458, 459, 460, 461, 462, 463, 464, 465, 466, 467, 304, 305, 306, 169, 468, 469, 470, 471, 472, 167, 473, 474, 316, 317, 318, 319, 794, 795, 796, 797, 798, 644, 645, 646, 634, 151, 152, 153, 154, 1050, 1051, 1052, 1053, 1054, 1055, 1056, 1091, 1092, 1093, 1094, 1095, 1081, 1082, 1083, 1096, 1097, 1098, 1099, 1100, 1101, 1102, 1103] (by decide +kernel) (by decide +kernel)
set_option maxRecDepth 20000 in
theorem gL_law_X10_champion : GoodIn wsL_law (wsV RL 149 RX10 yX10_champion wsX10_champion) := goodIn_app (goodIn_of _ (by decide +kernel)) ggL_law_X10_champion
set_option maxRecDepth 20000 in
theorem ggL_law_L_tagged : GoodIn wsL_law wsL_tagged := goodIn_ca (goodIn_ca (goodIn_r _ [911, 229, 102, 912, 913, 914, 2, 915, 916, 917, 918, 919, 238, 239, 483, 17, 110, 111, 112, 113, 114, 115, 116, 117, 920, 921, 922, 485, 923, 490, 492, 491, 924, 925, 926, 927, 1039, 1040, 1041, 1042, 1043, 1044, 1045, 1046, 1047, 1048, 1049, 1104, 1105, 1106] (by decide +kernel) (by decide +kernel)) (goodIn_sub (fun _ h => List.mem_append_right _ h) (by decide +kernel))) (goodIn_sub (fun _ h => List.mem_append_left _ (List.mem_append_left _ (List.mem_append_right _ h))) (by decide +kernel))
set_option maxRecDepth 20000 in
theorem gL_law_L_tagged : GoodIn wsL_law (va_wsS RL 150 yL_tagged wsL_tagged) := goodIn_app (goodIn_of _ (by decide +kernel)) ggL_law_L_tagged
set_option maxRecDepth 20000 in
theorem ggL_law_X10_tagged : GoodIn wsL_law wsX10_tagged := goodIn_r _ [931, 144, 82, 155, 156, 157, 80, 158, 159, 148, 149, 5, 150, 151, 152, 153, 154, 932, 933, 934, 935, 425, 287, 288, 289, 290, 291, 292, 293, 294, 295, 296, 297, 298, 299, 300, 301, 302, 87, 936, 937, 938, 939, 940, 941, 942, 943, 1050, 1051, 1052, 1053, 1054, 1055, 1056, 1081, 1082, 1083] (by decide +kernel) (by decide +kernel)
set_option maxRecDepth 20000 in
theorem gL_law_X10_tagged : GoodIn wsL_law (wsV RL 152 RX10 yX10_tagged wsX10_tagged) := goodIn_app (goodIn_of _ (by decide +kernel)) ggL_law_X10_tagged
set_option maxRecDepth 20000 in
theorem ggL_law_L_many : GoodIn wsL_law wsL_many := goodIn_ca (goodIn_ca (goodIn_r _ [946, 102, 947, 948, 949, 2, 950, 124, 483, 504, 505, 260, 110, 111, 112, 113, 114, 115, 116, 117, 951, 952, 953, 954, 259, 234, 235, 236, 237, 238, 239, 15, 955, 956, 957, 958, 265, 266, 267, 109, 268, 269, 270, 271, 272, 129, 273, 248, 249, 250, 130, 1039, 1040, 1041, 1042, 1043, 1044, 1045, 1046, 1047, 1048, 1049, 1084, 1085, 1086, 1087, 1088, 1089, 1090] (by decide +kernel) (by decide +kernel)) (goodIn_sub (fun _ h => List.mem_append_left _ (List.mem_append_left _ (List.mem_append_right _ h))) (by decide +kernel))) (goodIn_sub (fun _ h => List.mem_append_right _ h) (by decide +kernel))
set_option maxRecDepth 20000 in
theorem gL_law_L_many : GoodIn wsL_law (va_wsS RL 153 yL_many wsL_many) := goodIn_app (goodIn_of _ (by decide +kernel)) ggL_law_L_many
set_option maxRecDepth 20000 in
theorem ggL_law_X10_many : GoodIn wsL_law wsX10_many := goodIn_r _ [962, 144, 148, 149, 5, 150, 963, 964, 965, 966, 38, 81, 278, 82, 626, 627, 311, 656, 657, 658, 80, 659, 660, 661, 662, 663, 664, 665, 666, 667, 12, 13, 668, 669, 175, 670, 671, 672, 673, 674, 675, 676, 677, 678, 679, 680, 681, 682, 683, 684, 316, 317, 318, 147, 319, 169, 155, 156, 157, 158, 159, 151, 152, 153, 154, 1050, 1051, 1052, 1053, 1054, 1055, 1056, 1091, 1092, 1093, 1094, 1095, 1107, 1108, 1109, 1110, 1081, 1082, 1083] (by decide +kernel) (by decide +kernel)
set_option maxRecDepth 20000 in
theorem gL_law_X10_many : GoodIn wsL_law (wsV RL 155 RX10 yX10_many wsX10_many) := goodIn_app (goodIn_of _ (by decide +kernel)) ggL_law_X10_many
set_option maxRecDepth 20000 in
theorem ggL_law_X7_meanStop : GoodIn wsL_law wsX7_meanStop := goodIn_ca (goodIn_r _ [970, 124, 259, 771, 234, 235, 236, 2, 237, 238, 239, 15, 1039, 1040, 1041, 1042, 1043, 1044, 1045, 1046, 1047, 1048, 1049, 1084, 1085, 1086, 1087, 1088, 1089, 1090] (by decide +kernel) (by decide +kernel)) (goodIn_sub (fun _ h => List.mem_append_right _ h) (by decide +kernel))
set_option maxRecDepth 20000 in
theorem gL_law_X7_meanStop : GoodIn wsL_law (wsV RL 156 RX7 yX7_meanStop wsX7_meanStop) := goodIn_app (goodIn_of _ (by decide +kernel)) ggL_law_X7_meanStop
set_option maxRecDepth 20000 in
theorem ggL_law_X10_meanStop : GoodIn wsL_law wsX10_meanStop := goodIn_r _ [974, 144, 81, 278, 656, 657, 658, 80, 659, 660, 661, 662, 663, 664, 665, 666, 667, 12, 13, 668, 669, 175, 670, 671, 672, 673, 674, 675, 676, 677, 678, 679, 680, 681, 682, 683, 684, 1050, 1051, 1052, 1053, 1054, 1055, 1056, 1091, 1092, 1093, 1094, 1095, 1107, 1108, 1109, 1110, 1081, 1082, 1083] (by decide +kernel) (by decide +kernel)
set_option maxRecDepth 20000 in
theorem gL_law_X10_meanStop : GoodIn wsL_law (wsV RL 160 RX10 yX10_meanStop wsX10_meanStop) := goodIn_app (goodIn_of _ (by decide +kernel)) ggL_law_X10_meanStop
set_option maxRecDepth 20000 in
theorem ggL_law_L_cycleIn : GoodIn wsL_law wsL_cycleIn := goodIn_ca (goodIn_ca (goodIn_r _ [977, 229, 102, 978, 979, 980, 2, 981, 25, 234, 235, 236, 237, 238, 239, 124, 15, 110, 111, 112, 113, 114, 115, 116, 117, 720, 721, 722, 24, 723, 522, 523, 524, 525, 45, 46, 526, 527, 528, 529, 530, 343, 344, 20, 345, 346, 347, 348, 349, 350, 351, 352, 353, 354, 355, 356, 357, 358, 39, 359, 360, 361, 362, 363, 216, 190, 217, 364, 189, 191, 365, 366, 367, 368, 369, 370, 371, 372, 373, 374, 248, 249, 109, 250, 130, 375, 376, 377, 378, 379, 380, 381, 382, 131, 383, 384, 385, 386, 132, 531, 532, 533, 534, 535, 536, 537, 538, 539, 540, 541, 542, 543, 544, 545, 1039, 1040, 1041, 1042, 1043, 1044, 1045, 1046, 1047, 1048, 1049, 1063, 1064, 1065, 1066, 1057, 1058, 1059, 1060, 1061, 1062, 1084, 1085, 1086, 1087, 1088, 1089, 1090] (by decide +kernel) (by decide +kernel)) (goodIn_sub (fun _ h => List.mem_append_right _ h) (by decide +kernel))) (goodIn_sub (fun _ h => List.mem_append_left _ (List.mem_append_left _ (List.mem_append_right _ h))) (by decide +kernel))
set_option maxRecDepth 20000 in
theorem gL_law_L_cycleIn : GoodIn wsL_law (va_wsS RL 161 yL_cycleIn wsL_cycleIn) := goodIn_app (goodIn_of _ (by decide +kernel)) ggL_law_L_cycleIn
set_option maxRecDepth 20000 in
theorem ggL_law_X10_cycleIn : GoodIn wsL_law wsX10_cycleIn := goodIn_r _ [985, 144, 81, 278, 283, 284, 285, 5, 286, 155, 156, 157, 80, 158, 159, 148, 149, 150, 151, 152, 153, 154, 287, 288, 289, 290, 291, 292, 293, 294, 295, 296, 297, 298, 299, 300, 301, 302, 87, 737, 738, 739, 638, 435, 436, 38, 641, 438, 439, 440, 12, 13, 441, 442, 443, 642, 445, 446, 447, 448, 449, 450, 451, 216, 190, 217, 452, 453, 189, 191, 454, 455, 456, 457, 458, 459, 460, 461, 462, 463, 464, 465, 466, 467, 304, 305, 147, 306, 169, 635, 636, 637, 639, 640, 430, 431, 432, 433, 434, 437, 444, 634, 643, 644, 645, 646, 1050, 1051, 1052, 1053, 1054, 1055, 1056, 1081, 1082, 1083, 1096, 1097, 1098, 1099, 1100, 1101, 1102, 1103, 1091, 1092, 1093, 1094, 1095] (by decide +kernel) (by decide +kernel)
set_option maxRecDepth 20000 in
theorem gL_law_X10_cycleIn : GoodIn wsL_law (wsV RL 163 RX10 yX10_cycleIn wsX10_cycleIn) := goodIn_app (goodIn_of _ (by decide +kernel)) ggL_law_X10_cycleIn
set_option maxRecDepth 20000 in
theorem ggL_law_L_backIn : GoodIn wsL_law wsL_backIn := goodIn_ca (goodIn_r _ [988, 229, 989, 990, 991, 2, 992, 234, 235, 236, 237, 238, 239, 124, 15, 724, 725, 726, 727, 29, 550, 551, 552, 28, 553, 55, 554, 555, 556, 557, 558, 559, 270, 271, 109, 272, 129, 560, 402, 403, 404, 273, 248, 249, 250, 130, 405, 384, 385, 386, 132, 561, 562, 563, 54, 564, 565, 61, 62, 63, 64, 566, 567, 568, 569, 570, 571, 572, 56, 573, 574, 575, 576, 577, 578, 579, 580, 581, 582, 583, 380, 381, 382, 131, 584, 585, 376, 377, 378, 586, 587, 588, 589, 21, 516, 342, 343, 344, 20, 345, 346, 347, 348, 349, 350, 351, 352, 353, 354, 355, 356, 357, 358, 39, 359, 360, 361, 362, 363, 216, 190, 217, 364, 189, 191, 365, 366, 367, 368, 369, 370, 371, 372, 373, 374, 375, 379, 383, 517, 1039, 1040, 1041, 1042, 1043, 1044, 1045, 1046, 1047, 1048, 1049, 1067, 1068, 1076, 1077, 1078, 1079, 1080, 1084, 1085, 1086, 1087, 1088, 1089, 1090, 1057, 1058, 1059, 1060, 1061, 1062] (by decide +kernel) (by decide +kernel)) (goodIn_sub (fun _ h => List.mem_append_right _ h) (by decide +kernel))
set_option maxRecDepth 20000 in
theorem gL_law_L_backIn : GoodIn wsL_law (va_wsS RL 164 yL_backIn wsL_backIn) := goodIn_app (goodIn_of _ (by decide +kernel)) ggL_law_L_backIn
set_option maxRecDepth 20000 in
theorem ggL_law_X10_backIn : GoodIn wsL_law wsX10_backIn := goodIn_r _ [996, 144, 81, 278, 283, 284, 285, 5, 286, 155, 156, 157, 80, 158, 159, 148, 149, 150, 287, 288, 289, 290, 291, 292, 293, 294, 295, 296, 297, 298, 299, 300, 301, 302, 87, 740, 741, 742, 650, 651, 652, 78, 79, 38, 83, 84, 85, 86, 88, 89, 90, 91, 92, 93, 94, 95, 96, 97, 12, 13, 170, 171, 172, 173, 174, 175, 176, 177, 178, 179, 180, 181, 182, 183, 184, 185, 186, 187, 188, 189, 190, 191, 192, 193, 194, 195, 196, 197, 198, 199, 200, 201, 202, 203, 204, 205, 206, 207, 208, 209, 210, 211, 212, 213, 214, 215, 216, 217, 218, 219, 220, 221, 653, 654, 655, 425, 656, 657, 658, 659, 660, 661, 662, 663, 664, 665, 666, 667, 668, 669, 670, 671, 672, 673, 674, 675, 676, 677, 678, 679, 680, 681, 682, 683, 684, 685, 686, 687, 688, 689, 690, 691, 430, 431, 432, 147, 433, 434, 435, 436, 437, 438, 439, 440, 441, 442, 443, 444, 445, 446, 447, 448, 449, 450, 451, 452, 453, 454, 455, 456, 457, 458, 459, 460, 461, 462, 463, 464, 465, 466, 467, 304, 305, 306, 169, 634, 151, 152, 153, 154, 1050, 1051, 1052, 1053, 1054, 1055, 1056, 1081, 1082, 1083, 1096, 1097, 1098, 1099, 1100, 1101, 1102, 1103, 1091, 1092, 1093, 1094, 1095, 1107, 1108, 1109, 1110] (by decide +kernel) (by decide +kernel)
set_option maxRecDepth 20000 in
theorem gL_law_X10_backIn : GoodIn wsL_law (wsV RL 166 RX10 yX10_backIn wsX10_backIn) := goodIn_app (goodIn_of _ (by decide +kernel)) ggL_law_X10_backIn
set_option maxRecDepth 20000 in
theorem ggL_law_L_gramIn : GoodIn wsL_law wsL_gramIn := goodIn_ca (goodIn_r _ [999, 229, 1000, 1001, 1002, 2, 1003, 33, 234, 235, 236, 237, 238, 239, 124, 15, 728, 729, 730, 32, 731, 732, 591, 592, 593, 594, 595, 596, 71, 597, 598, 599, 600, 70, 72, 73, 601, 602, 603, 604, 605, 606, 607, 608, 609, 610, 611, 612, 613, 614, 402, 403, 109, 404, 129, 273, 248, 249, 250, 130, 405, 384, 385, 386, 132, 615, 380, 381, 382, 131, 616, 617, 376, 377, 378, 618, 619, 620, 621, 1039, 1040, 1041, 1042, 1043, 1044, 1045, 1046, 1047, 1048, 1049, 1069, 1070, 1071, 1072, 1073, 1074, 1075, 1084, 1085, 1086, 1087, 1088, 1089, 1090] (by decide +kernel) (by decide +kernel)) (goodIn_sub (fun _ h => List.mem_append_right _ h) (by decide +kernel))
set_option maxRecDepth 20000 in
theorem gL_law_L_gramIn : GoodIn wsL_law (va_wsS RL 167 yL_gramIn wsL_gramIn) := goodIn_app (goodIn_of _ (by decide +kernel)) ggL_law_L_gramIn
set_option maxRecDepth 20000 in
theorem ggL_law_X10_gramIn : GoodIn wsL_law wsX10_gramIn := goodIn_r _ [1007, 144, 81, 278, 283, 284, 285, 5, 286, 155, 156, 157, 80, 158, 159, 148, 149, 150, 287, 288, 289, 290, 291, 292, 293, 294, 295, 296, 297, 298, 299, 300, 301, 302, 87, 743, 744, 745, 692, 693, 694, 69, 695, 151, 152, 153, 154, 1050, 1051, 1052, 1053, 1054, 1055, 1056, 1081, 1082, 1083, 1091, 1092, 1093, 1094, 1095] (by decide +kernel) (by decide +kernel)
set_option maxRecDepth 20000 in
theorem gL_law_X10_gramIn : GoodIn wsL_law (wsV RL 169 RX10 yX10_gramIn wsX10_gramIn) := goodIn_app (goodIn_of _ (by decide +kernel)) ggL_law_X10_gramIn
set_option maxRecDepth 20000 in
theorem ggL_law_X7_digest : GoodIn wsL_law wsX7_digest := goodIn_ca (goodIn_ca (goodIn_r _ [1011, 1012, 1013, 124, 483, 1014, 948, 949, 2, 950, 504, 505, 260, 110, 111, 112, 113, 114, 115, 116, 117, 951, 952, 953, 954, 259, 234, 235, 236, 237, 238, 239, 15, 955, 956, 957, 958, 265, 266, 267, 109, 268, 269, 270, 271, 272, 129, 273, 248, 249, 250, 130, 1015, 1016, 1017, 1018, 243, 1019, 768, 769, 770, 771, 772, 338, 339, 340, 341, 21, 342, 343, 344, 20, 345, 346, 347, 348, 349, 350, 351, 352, 353, 354, 355, 356, 357, 358, 39, 359, 360, 361, 362, 363, 216, 190, 217, 364, 189, 191, 365, 366, 367, 368, 369, 370, 371, 372, 373, 374, 375, 376, 377, 378, 379, 380, 381, 382, 131, 383, 384, 385, 386, 132, 387, 388, 389, 390, 391, 392, 393, 394, 395, 396, 397, 398, 399, 400, 401, 402, 403, 404, 405, 773, 774, 775, 776, 516, 777, 778, 779, 780, 517, 781, 782, 783, 784, 1020, 750, 751, 752, 753, 240, 241, 242, 247, 754, 755, 756, 1021, 1022, 1023, 1024, 25, 1025, 803, 804, 805, 806, 807, 808, 809, 810, 811, 812, 813, 814, 815, 816, 817, 720, 721, 722, 24, 723, 522, 523, 524, 525, 45, 46, 526, 527, 528, 529, 530, 531, 532, 533, 534, 535, 536, 537, 538, 539, 540, 541, 542, 543, 544, 545, 724, 725, 726, 727, 29, 550, 551, 552, 28, 553, 55, 554, 555, 556, 557, 558, 559, 560, 561, 562, 563, 54, 564, 565, 61, 62, 63, 64, 566, 567, 568, 569, 570, 571, 572, 56, 573, 574, 575, 576, 577, 578, 579, 580, 581, 582, 583, 584, 585, 586, 587, 588, 589, 1026, 913, 914, 915, 916, 917, 918, 919, 17, 920, 921, 922, 485, 923, 490, 492, 491, 924, 925, 926, 927, 1027, 898, 899, 900, 1039, 1040, 1041, 1042, 1043, 1044, 1045, 1046, 1047, 1048, 1049, 1084, 1085, 1086, 1087, 1088, 1089, 1090, 1057, 1058, 1059, 1060, 1061, 1062, 1063, 1064, 1065, 1066, 1067, 1068, 1076, 1077, 1078, 1079, 1080, 1104, 1105, 1106] (by decide +kernel) (by decide +kernel)) (goodIn_sub (fun _ h => List.mem_append_left _ (List.mem_append_left _ (List.mem_append_right _ h))) (by decide +kernel))) (goodIn_sub (fun _ h => List.mem_append_right _ h) (by decide +kernel))
set_option maxRecDepth 20000 in
theorem gL_law_X7_digest : GoodIn wsL_law (wsV RL 170 RX7 yX7_digest wsX7_digest) := goodIn_app (goodIn_of _ (by decide +kernel)) ggL_law_X7_digest
set_option maxRecDepth 20000 in
theorem ggL_law_X10_digest : GoodIn wsL_law wsX10_digest := goodIn_r _ [1031, 144, 1032, 1033, 81, 278, 82, 963, 964, 965, 5, 966, 38, 626, 627, 311, 656, 657, 658, 80, 659, 660, 661, 662, 663, 664, 665, 666, 667, 12, 13, 668, 669, 175, 670, 671, 672, 673, 674, 675, 676, 677, 678, 679, 680, 681, 682, 683, 684, 316, 317, 318, 147, 319, 169, 155, 156, 157, 158, 159, 1034, 1035, 1036, 1037, 1038, 789, 790, 791, 792, 793, 779, 190, 780, 426, 427, 428, 429, 430, 431, 432, 433, 434, 435, 436, 437, 438, 439, 440, 441, 442, 443, 444, 445, 446, 447, 448, 449, 450, 451, 216, 217, 452, 453, 189, 191, 454, 455, 456, 457, 458, 459, 460, 461, 462, 463, 464, 465, 466, 467, 304, 305, 306, 468, 469, 470, 471, 472, 167, 473, 474, 794, 795, 796, 797, 798, 644, 645, 646, 149, 150, 634, 761, 762, 763, 640, 303, 822, 823, 824, 825, 826, 827, 828, 737, 738, 739, 638, 641, 642, 635, 636, 637, 639, 643, 740, 741, 742, 650, 651, 652, 78, 79, 83, 84, 85, 86, 87, 88, 89, 90, 91, 92, 93, 94, 95, 96, 97, 170, 171, 172, 173, 174, 176, 177, 178, 179, 180, 181, 182, 183, 184, 185, 186, 187, 188, 192, 193, 194, 195, 196, 197, 198, 199, 200, 201, 202, 203, 204, 205, 206, 207, 208, 209, 210, 211, 212, 213, 214, 215, 218, 219, 220, 221, 653, 654, 655, 425, 685, 686, 687, 688, 689, 690, 691, 932, 933, 934, 935, 287, 288, 289, 290, 291, 292, 293, 294, 295, 296, 297, 298, 299, 300, 301, 302, 936, 937, 938, 939, 940, 941, 942, 943, 905, 906, 907, 908, 1050, 1051, 1052, 1053, 1054, 1055, 1056, 1091, 1092, 1093, 1094, 1095, 1107, 1108, 1109, 1110, 1081, 1082, 1083, 1096, 1097, 1098, 1099, 1100, 1101, 1102, 1103] (by decide +kernel) (by decide +kernel)
set_option maxRecDepth 20000 in
theorem gL_law_X10_digest : GoodIn wsL_law (wsV RL 174 RX10 yX10_digest wsX10_digest) := goodIn_app (goodIn_of _ (by decide +kernel)) ggL_law_X10_digest
theorem dL_law_0 : decode cL_law 0 = .ok (.new 8, 3) := by decide +kernel
theorem dL_law_3 : decode cL_law 3 = .ok (.dup, 1) := by decide +kernel
theorem dL_law_4 : decode cL_law 4 = .ok (.invokespecial 86, 3) := by decide +kernel
theorem dL_law_7 : decode cL_law 7 = .ok (.astore_n 1, 1) := by decide +kernel
theorem dL_law_8 : decode cL_law 8 = .ok (.new 87, 3) := by decide +kernel
theorem dL_law_11 : decode cL_law 11 = .ok (.dup, 1) := by decide +kernel
theorem dL_law_12 : decode cL_law 12 = .ok (.invokespecial 89, 3) := by decide +kernel
theorem dL_law_15 : decode cL_law 15 = .ok (.astore_n 2, 1) := by decide +kernel
theorem dL_law_16 : decode cL_law 16 = .ok (.iconst 1, 1) := by decide +kernel
theorem dL_law_17 : decode cL_law 17 = .ok (.newarray .long, 2) := by decide +kernel
theorem dL_law_19 : decode cL_law 19 = .ok (.astore_n 3, 1) := by decide +kernel
theorem dL_law_20 : decode cL_law 20 = .ok (.iconst 1, 1) := by decide +kernel
theorem dL_law_21 : decode cL_law 21 = .ok (.newarray .double, 2) := by decide +kernel
theorem dL_law_23 : decode cL_law 23 = .ok (.astore 4, 2) := by decide +kernel
theorem dL_law_25 : decode cL_law 25 = .ok (.iconst 0, 1) := by decide +kernel
theorem dL_law_26 : decode cL_law 26 = .ok (.istore 5, 2) := by decide +kernel
theorem dL_law_28 : decode cL_law 28 = .ok (.iload 5, 2) := by decide +kernel
theorem dL_law_30 : decode cL_law 30 = .ok (.aload_n 0, 1) := by decide +kernel
theorem dL_law_31 : decode cL_law 31 = .ok (.arraylength, 1) := by decide +kernel
theorem dL_law_32 : decode cL_law 32 = .ok (.bipush 7, 2) := by decide +kernel
theorem dL_law_34 : decode cL_law 34 = .ok (.isub, 1) := by decide +kernel
theorem dL_law_35 : decode cL_law 35 = .ok (.if_icmp .gt 1777, 3) := by decide +kernel
theorem dL_law_38 : decode cL_law 38 = .ok (.aload_n 0, 1) := by decide +kernel
theorem dL_law_39 : decode cL_law 39 = .ok (.iload 5, 2) := by decide +kernel
theorem dL_law_41 : decode cL_law 41 = .ok (.iaload, 1) := by decide +kernel
theorem dL_law_42 : decode cL_law 42 = .ok (.bipush 31, 2) := by decide +kernel
theorem dL_law_44 : decode cL_law 44 = .ok (.iand, 1) := by decide +kernel
theorem dL_law_45 : decode cL_law 45 = .ok (.tableswitch 1761 0 22 #[107, 163, 281, 406, 474, 554, 653, 709, 765, 857, 925, 1005, 1085, 1174, 1266, 1334, 1390, 1470, 1526, 1567, 1635, 1691, 1747], 107) := by decide +kernel
theorem dL_law_152 : decode cL_law 152 = .ok (.aload_n 1, 1) := by decide +kernel
theorem dL_law_153 : decode cL_law 153 = .ok (.aload_n 0, 1) := by decide +kernel
theorem dL_law_154 : decode cL_law 154 = .ok (.iload 5, 2) := by decide +kernel
theorem dL_law_156 : decode cL_law 156 = .ok (.iconst 1, 1) := by decide +kernel
theorem dL_law_157 : decode cL_law 157 = .ok (.iadd, 1) := by decide +kernel
theorem dL_law_158 : decode cL_law 158 = .ok (.iaload, 1) := by decide +kernel
theorem dL_law_159 : decode cL_law 159 = .ok (.aload_n 3, 1) := by decide +kernel
theorem dL_law_160 : decode cL_law 160 = .ok (.invokestatic 90, 3) := by decide +kernel
theorem dL_law_163 : decode cL_law 163 = .ok (.istore 6, 2) := by decide +kernel
theorem dL_law_165 : decode cL_law 165 = .ok (.aload_n 2, 1) := by decide +kernel
theorem dL_law_166 : decode cL_law 166 = .ok (.aload_n 0, 1) := by decide +kernel
theorem dL_law_167 : decode cL_law 167 = .ok (.iload 5, 2) := by decide +kernel
theorem dL_law_169 : decode cL_law 169 = .ok (.iconst 1, 1) := by decide +kernel
theorem dL_law_170 : decode cL_law 170 = .ok (.iadd, 1) := by decide +kernel
theorem dL_law_171 : decode cL_law 171 = .ok (.iaload, 1) := by decide +kernel
theorem dL_law_172 : decode cL_law 172 = .ok (.invokevirtual 95, 3) := by decide +kernel
theorem dL_law_175 : decode cL_law 175 = .ok (.istore 7, 2) := by decide +kernel
theorem dL_law_177 : decode cL_law 177 = .ok (.aload_n 2, 1) := by decide +kernel
theorem dL_law_178 : decode cL_law 178 = .ok (.invokevirtual 96, 3) := by decide +kernel
theorem dL_law_181 : decode cL_law 181 = .ok (.iload 6, 2) := by decide +kernel
theorem dL_law_183 : decode cL_law 183 = .ok (.if_icmp .eq 5, 3) := by decide +kernel
theorem dL_law_186 : decode cL_law 186 = .ok (.iconst 0, 1) := by decide +kernel
theorem dL_law_187 : decode cL_law 187 = .ok (.ireturn, 1) := by decide +kernel
theorem dL_law_188 : decode cL_law 188 = .ok (.iload 6, 2) := by decide +kernel
theorem dL_law_190 : decode cL_law 190 = .ok (.ifCond .ne 15, 3) := by decide +kernel
theorem dL_law_193 : decode cL_law 193 = .ok (.aload_n 3, 1) := by decide +kernel
theorem dL_law_194 : decode cL_law 194 = .ok (.iconst 0, 1) := by decide +kernel
theorem dL_law_195 : decode cL_law 195 = .ok (.laload, 1) := by decide +kernel
theorem dL_law_196 : decode cL_law 196 = .ok (.iload 7, 2) := by decide +kernel
theorem dL_law_198 : decode cL_law 198 = .ok (.i2l, 1) := by decide +kernel
theorem dL_law_199 : decode cL_law 199 = .ok (.lcmp, 1) := by decide +kernel
theorem dL_law_200 : decode cL_law 200 = .ok (.ifCond .eq 5, 3) := by decide +kernel
theorem dL_law_203 : decode cL_law 203 = .ok (.iconst 0, 1) := by decide +kernel
theorem dL_law_204 : decode cL_law 204 = .ok (.ireturn, 1) := by decide +kernel
theorem dL_law_205 : decode cL_law 205 = .ok (.goto 1601, 3) := by decide +kernel
theorem dL_law_208 : decode cL_law 208 = .ok (.aload_n 1, 1) := by decide +kernel
theorem dL_law_209 : decode cL_law 209 = .ok (.aload_n 0, 1) := by decide +kernel
theorem dL_law_210 : decode cL_law 210 = .ok (.iload 5, 2) := by decide +kernel
theorem dL_law_212 : decode cL_law 212 = .ok (.iconst 1, 1) := by decide +kernel
theorem dL_law_213 : decode cL_law 213 = .ok (.iadd, 1) := by decide +kernel
theorem dL_law_214 : decode cL_law 214 = .ok (.iaload, 1) := by decide +kernel
theorem dL_law_215 : decode cL_law 215 = .ok (.aload_n 0, 1) := by decide +kernel
theorem dL_law_216 : decode cL_law 216 = .ok (.iload 5, 2) := by decide +kernel
theorem dL_law_218 : decode cL_law 218 = .ok (.iconst 2, 1) := by decide +kernel
theorem dL_law_219 : decode cL_law 219 = .ok (.iadd, 1) := by decide +kernel
theorem dL_law_220 : decode cL_law 220 = .ok (.iaload, 1) := by decide +kernel
theorem dL_law_221 : decode cL_law 221 = .ok (.aload_n 0, 1) := by decide +kernel
theorem dL_law_222 : decode cL_law 222 = .ok (.iload 5, 2) := by decide +kernel
theorem dL_law_224 : decode cL_law 224 = .ok (.iconst 3, 1) := by decide +kernel
theorem dL_law_225 : decode cL_law 225 = .ok (.iadd, 1) := by decide +kernel
theorem dL_law_226 : decode cL_law 226 = .ok (.iaload, 1) := by decide +kernel
theorem dL_law_227 : decode cL_law 227 = .ok (.aload_n 0, 1) := by decide +kernel
theorem dL_law_228 : decode cL_law 228 = .ok (.iload 5, 2) := by decide +kernel
theorem dL_law_230 : decode cL_law 230 = .ok (.iconst 4, 1) := by decide +kernel
theorem dL_law_231 : decode cL_law 231 = .ok (.iadd, 1) := by decide +kernel
theorem dL_law_232 : decode cL_law 232 = .ok (.iaload, 1) := by decide +kernel
theorem dL_law_233 : decode cL_law 233 = .ok (.aload_n 0, 1) := by decide +kernel
theorem dL_law_234 : decode cL_law 234 = .ok (.iload 5, 2) := by decide +kernel
theorem dL_law_236 : decode cL_law 236 = .ok (.iconst 5, 1) := by decide +kernel
theorem dL_law_237 : decode cL_law 237 = .ok (.iadd, 1) := by decide +kernel
theorem dL_law_238 : decode cL_law 238 = .ok (.iaload, 1) := by decide +kernel
theorem dL_law_239 : decode cL_law 239 = .ok (.aload_n 0, 1) := by decide +kernel
theorem dL_law_240 : decode cL_law 240 = .ok (.iload 5, 2) := by decide +kernel
theorem dL_law_242 : decode cL_law 242 = .ok (.bipush 6, 2) := by decide +kernel
theorem dL_law_244 : decode cL_law 244 = .ok (.iadd, 1) := by decide +kernel
theorem dL_law_245 : decode cL_law 245 = .ok (.iaload, 1) := by decide +kernel
theorem dL_law_246 : decode cL_law 246 = .ok (.aload_n 3, 1) := by decide +kernel
theorem dL_law_247 : decode cL_law 247 = .ok (.invokestatic 100, 3) := by decide +kernel
theorem dL_law_250 : decode cL_law 250 = .ok (.istore 6, 2) := by decide +kernel
theorem dL_law_252 : decode cL_law 252 = .ok (.aload_n 2, 1) := by decide +kernel
theorem dL_law_253 : decode cL_law 253 = .ok (.aload_n 0, 1) := by decide +kernel
theorem dL_law_254 : decode cL_law 254 = .ok (.iload 5, 2) := by decide +kernel
theorem dL_law_256 : decode cL_law 256 = .ok (.iconst 1, 1) := by decide +kernel
theorem dL_law_257 : decode cL_law 257 = .ok (.iadd, 1) := by decide +kernel
theorem dL_law_258 : decode cL_law 258 = .ok (.iaload, 1) := by decide +kernel
theorem dL_law_259 : decode cL_law 259 = .ok (.aload_n 0, 1) := by decide +kernel
theorem dL_law_260 : decode cL_law 260 = .ok (.iload 5, 2) := by decide +kernel
theorem dL_law_262 : decode cL_law 262 = .ok (.iconst 2, 1) := by decide +kernel
theorem dL_law_263 : decode cL_law 263 = .ok (.iadd, 1) := by decide +kernel
theorem dL_law_264 : decode cL_law 264 = .ok (.iaload, 1) := by decide +kernel
theorem dL_law_265 : decode cL_law 265 = .ok (.aload_n 0, 1) := by decide +kernel
theorem dL_law_266 : decode cL_law 266 = .ok (.iload 5, 2) := by decide +kernel
theorem dL_law_268 : decode cL_law 268 = .ok (.iconst 3, 1) := by decide +kernel
theorem dL_law_269 : decode cL_law 269 = .ok (.iadd, 1) := by decide +kernel
theorem dL_law_270 : decode cL_law 270 = .ok (.iaload, 1) := by decide +kernel
theorem dL_law_271 : decode cL_law 271 = .ok (.aload_n 0, 1) := by decide +kernel
theorem dL_law_272 : decode cL_law 272 = .ok (.iload 5, 2) := by decide +kernel
theorem dL_law_274 : decode cL_law 274 = .ok (.iconst 4, 1) := by decide +kernel
theorem dL_law_275 : decode cL_law 275 = .ok (.iadd, 1) := by decide +kernel
theorem dL_law_276 : decode cL_law 276 = .ok (.iaload, 1) := by decide +kernel
theorem dL_law_277 : decode cL_law 277 = .ok (.aload_n 0, 1) := by decide +kernel
theorem dL_law_278 : decode cL_law 278 = .ok (.iload 5, 2) := by decide +kernel
theorem dL_law_280 : decode cL_law 280 = .ok (.iconst 5, 1) := by decide +kernel
theorem dL_law_281 : decode cL_law 281 = .ok (.iadd, 1) := by decide +kernel
theorem dL_law_282 : decode cL_law 282 = .ok (.iaload, 1) := by decide +kernel
theorem dL_law_283 : decode cL_law 283 = .ok (.aload_n 0, 1) := by decide +kernel
theorem dL_law_284 : decode cL_law 284 = .ok (.iload 5, 2) := by decide +kernel
theorem dL_law_286 : decode cL_law 286 = .ok (.bipush 6, 2) := by decide +kernel
theorem dL_law_288 : decode cL_law 288 = .ok (.iadd, 1) := by decide +kernel
theorem dL_law_289 : decode cL_law 289 = .ok (.iaload, 1) := by decide +kernel
theorem dL_law_290 : decode cL_law 290 = .ok (.invokevirtual 103, 3) := by decide +kernel
theorem dL_law_293 : decode cL_law 293 = .ok (.istore 7, 2) := by decide +kernel
theorem dL_law_295 : decode cL_law 295 = .ok (.aload_n 2, 1) := by decide +kernel
theorem dL_law_296 : decode cL_law 296 = .ok (.invokevirtual 96, 3) := by decide +kernel
theorem dL_law_299 : decode cL_law 299 = .ok (.iload 6, 2) := by decide +kernel
theorem dL_law_301 : decode cL_law 301 = .ok (.if_icmp .eq 5, 3) := by decide +kernel
theorem dL_law_304 : decode cL_law 304 = .ok (.iconst 0, 1) := by decide +kernel
theorem dL_law_305 : decode cL_law 305 = .ok (.ireturn, 1) := by decide +kernel
theorem dL_law_306 : decode cL_law 306 = .ok (.iload 6, 2) := by decide +kernel
theorem dL_law_308 : decode cL_law 308 = .ok (.ifCond .ne 15, 3) := by decide +kernel
theorem dL_law_311 : decode cL_law 311 = .ok (.aload_n 3, 1) := by decide +kernel
theorem dL_law_312 : decode cL_law 312 = .ok (.iconst 0, 1) := by decide +kernel
theorem dL_law_313 : decode cL_law 313 = .ok (.laload, 1) := by decide +kernel
theorem dL_law_314 : decode cL_law 314 = .ok (.iload 7, 2) := by decide +kernel
theorem dL_law_316 : decode cL_law 316 = .ok (.i2l, 1) := by decide +kernel
theorem dL_law_317 : decode cL_law 317 = .ok (.lcmp, 1) := by decide +kernel
theorem dL_law_318 : decode cL_law 318 = .ok (.ifCond .eq 5, 3) := by decide +kernel
theorem dL_law_321 : decode cL_law 321 = .ok (.iconst 0, 1) := by decide +kernel
theorem dL_law_322 : decode cL_law 322 = .ok (.ireturn, 1) := by decide +kernel
theorem dL_law_323 : decode cL_law 323 = .ok (.goto 1483, 3) := by decide +kernel
theorem dL_law_326 : decode cL_law 326 = .ok (.aload_n 1, 1) := by decide +kernel
theorem dL_law_327 : decode cL_law 327 = .ok (.aload_n 0, 1) := by decide +kernel
theorem dL_law_328 : decode cL_law 328 = .ok (.iload 5, 2) := by decide +kernel
theorem dL_law_330 : decode cL_law 330 = .ok (.iconst 1, 1) := by decide +kernel
theorem dL_law_331 : decode cL_law 331 = .ok (.iadd, 1) := by decide +kernel
theorem dL_law_332 : decode cL_law 332 = .ok (.iaload, 1) := by decide +kernel
theorem dL_law_333 : decode cL_law 333 = .ok (.aload_n 0, 1) := by decide +kernel
theorem dL_law_334 : decode cL_law 334 = .ok (.iload 5, 2) := by decide +kernel
theorem dL_law_336 : decode cL_law 336 = .ok (.iconst 2, 1) := by decide +kernel
theorem dL_law_337 : decode cL_law 337 = .ok (.iadd, 1) := by decide +kernel
theorem dL_law_338 : decode cL_law 338 = .ok (.iaload, 1) := by decide +kernel
theorem dL_law_339 : decode cL_law 339 = .ok (.aload_n 0, 1) := by decide +kernel
theorem dL_law_340 : decode cL_law 340 = .ok (.iload 5, 2) := by decide +kernel
theorem dL_law_342 : decode cL_law 342 = .ok (.iconst 3, 1) := by decide +kernel
theorem dL_law_343 : decode cL_law 343 = .ok (.iadd, 1) := by decide +kernel
theorem dL_law_344 : decode cL_law 344 = .ok (.iaload, 1) := by decide +kernel
theorem dL_law_345 : decode cL_law 345 = .ok (.aload_n 0, 1) := by decide +kernel
theorem dL_law_346 : decode cL_law 346 = .ok (.iload 5, 2) := by decide +kernel
theorem dL_law_348 : decode cL_law 348 = .ok (.iconst 4, 1) := by decide +kernel
theorem dL_law_349 : decode cL_law 349 = .ok (.iadd, 1) := by decide +kernel
theorem dL_law_350 : decode cL_law 350 = .ok (.iaload, 1) := by decide +kernel
theorem dL_law_351 : decode cL_law 351 = .ok (.aload_n 0, 1) := by decide +kernel
theorem dL_law_352 : decode cL_law 352 = .ok (.iload 5, 2) := by decide +kernel
theorem dL_law_354 : decode cL_law 354 = .ok (.iconst 5, 1) := by decide +kernel
theorem dL_law_355 : decode cL_law 355 = .ok (.iadd, 1) := by decide +kernel
theorem dL_law_356 : decode cL_law 356 = .ok (.iaload, 1) := by decide +kernel
theorem dL_law_357 : decode cL_law 357 = .ok (.aload_n 0, 1) := by decide +kernel
theorem dL_law_358 : decode cL_law 358 = .ok (.iload 5, 2) := by decide +kernel
theorem dL_law_360 : decode cL_law 360 = .ok (.bipush 6, 2) := by decide +kernel
theorem dL_law_362 : decode cL_law 362 = .ok (.iadd, 1) := by decide +kernel
theorem dL_law_363 : decode cL_law 363 = .ok (.iaload, 1) := by decide +kernel
theorem dL_law_364 : decode cL_law 364 = .ok (.aload_n 3, 1) := by decide +kernel
theorem dL_law_365 : decode cL_law 365 = .ok (.invokestatic 104, 3) := by decide +kernel
theorem dL_law_368 : decode cL_law 368 = .ok (.istore 6, 2) := by decide +kernel
theorem dL_law_370 : decode cL_law 370 = .ok (.aload_n 2, 1) := by decide +kernel
theorem dL_law_371 : decode cL_law 371 = .ok (.aload_n 0, 1) := by decide +kernel
theorem dL_law_372 : decode cL_law 372 = .ok (.iload 5, 2) := by decide +kernel
theorem dL_law_374 : decode cL_law 374 = .ok (.iconst 1, 1) := by decide +kernel
theorem dL_law_375 : decode cL_law 375 = .ok (.iadd, 1) := by decide +kernel
theorem dL_law_376 : decode cL_law 376 = .ok (.iaload, 1) := by decide +kernel
theorem dL_law_377 : decode cL_law 377 = .ok (.aload_n 0, 1) := by decide +kernel
theorem dL_law_378 : decode cL_law 378 = .ok (.iload 5, 2) := by decide +kernel
theorem dL_law_380 : decode cL_law 380 = .ok (.iconst 2, 1) := by decide +kernel
theorem dL_law_381 : decode cL_law 381 = .ok (.iadd, 1) := by decide +kernel
theorem dL_law_382 : decode cL_law 382 = .ok (.iaload, 1) := by decide +kernel
theorem dL_law_383 : decode cL_law 383 = .ok (.aload_n 0, 1) := by decide +kernel
theorem dL_law_384 : decode cL_law 384 = .ok (.iload 5, 2) := by decide +kernel
theorem dL_law_386 : decode cL_law 386 = .ok (.iconst 3, 1) := by decide +kernel
theorem dL_law_387 : decode cL_law 387 = .ok (.iadd, 1) := by decide +kernel
theorem dL_law_388 : decode cL_law 388 = .ok (.iaload, 1) := by decide +kernel
theorem dL_law_389 : decode cL_law 389 = .ok (.aload_n 0, 1) := by decide +kernel
theorem dL_law_390 : decode cL_law 390 = .ok (.iload 5, 2) := by decide +kernel
theorem dL_law_392 : decode cL_law 392 = .ok (.iconst 4, 1) := by decide +kernel
theorem dL_law_393 : decode cL_law 393 = .ok (.iadd, 1) := by decide +kernel
theorem dL_law_394 : decode cL_law 394 = .ok (.iaload, 1) := by decide +kernel
theorem dL_law_395 : decode cL_law 395 = .ok (.aload_n 0, 1) := by decide +kernel
theorem dL_law_396 : decode cL_law 396 = .ok (.iload 5, 2) := by decide +kernel
theorem dL_law_398 : decode cL_law 398 = .ok (.iconst 5, 1) := by decide +kernel
theorem dL_law_399 : decode cL_law 399 = .ok (.iadd, 1) := by decide +kernel
theorem dL_law_400 : decode cL_law 400 = .ok (.iaload, 1) := by decide +kernel
theorem dL_law_401 : decode cL_law 401 = .ok (.aload_n 0, 1) := by decide +kernel
theorem dL_law_402 : decode cL_law 402 = .ok (.iload 5, 2) := by decide +kernel
theorem dL_law_404 : decode cL_law 404 = .ok (.bipush 6, 2) := by decide +kernel
theorem dL_law_406 : decode cL_law 406 = .ok (.iadd, 1) := by decide +kernel
theorem dL_law_407 : decode cL_law 407 = .ok (.iaload, 1) := by decide +kernel
