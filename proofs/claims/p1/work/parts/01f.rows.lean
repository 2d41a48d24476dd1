set_option maxRecDepth 20000 in
theorem ggX10_likeness_X10_isMachine : GoodIn wsX10_likeness wsX10_isMachine := goodIn_r _ [8, 2, 9, 10, 11, 12, 13, 14, 15, 16, 7, 17, 42, 43, 44, 45, 46, 47, 48, 49, 50, 51] (by decide +kernel) (by decide +kernel)
set_option maxRecDepth 20000 in
theorem gX10_likeness_X10_isMachine : GoodIn wsX10_likeness (wsV RX10 44 RX10 yX10_isMachine wsX10_isMachine) := goodIn_app (goodIn_of _ (by decide +kernel)) ggX10_likeness_X10_isMachine
set_option maxRecDepth 20000 in
theorem ggX10_likeness_X10_refuse : GoodIn wsX10_likeness wsX10_refuse := goodIn_r _ [21, 1, 42, 43, 44, 45, 46, 47, 48] (by decide +kernel) (by decide +kernel)
set_option maxRecDepth 20000 in
theorem gX10_likeness_X10_refuse : GoodIn wsX10_likeness (wsV RX10 31 RX10 yX10_refuse wsX10_refuse) := goodIn_app (goodIn_of _ (by decide +kernel)) ggX10_likeness_X10_refuse
theorem dX10_likeness_0 : decode cX10_likeness 0 = .ok (.aload_n 0, 1) := by decide +kernel
theorem dX10_likeness_1 : decode cX10_likeness 1 = .ok (.iconst 0, 1) := by decide +kernel
theorem dX10_likeness_2 : decode cX10_likeness 2 = .ok (.putfield 19, 3) := by decide +kernel
theorem dX10_likeness_5 : decode cX10_likeness 5 = .ok (.aload_n 0, 1) := by decide +kernel
theorem dX10_likeness_6 : decode cX10_likeness 6 = .ok (.iload_n 1, 1) := by decide +kernel
theorem dX10_likeness_7 : decode cX10_likeness 7 = .ok (.invokevirtual 44, 3) := by decide +kernel
theorem dX10_likeness_10 : decode cX10_likeness 10 = .ok (.ifCond .eq 11, 3) := by decide +kernel
theorem dX10_likeness_13 : decode cX10_likeness 13 = .ok (.aload_n 0, 1) := by decide +kernel
theorem dX10_likeness_14 : decode cX10_likeness 14 = .ok (.iload_n 2, 1) := by decide +kernel
theorem dX10_likeness_15 : decode cX10_likeness 15 = .ok (.invokevirtual 44, 3) := by decide +kernel
theorem dX10_likeness_18 : decode cX10_likeness 18 = .ok (.ifCond .ne 9, 3) := by decide +kernel
theorem dX10_likeness_21 : decode cX10_likeness 21 = .ok (.aload_n 0, 1) := by decide +kernel
theorem dX10_likeness_22 : decode cX10_likeness 22 = .ok (.iconst 1, 1) := by decide +kernel
theorem dX10_likeness_23 : decode cX10_likeness 23 = .ok (.invokevirtual 31, 3) := by decide +kernel
theorem dX10_likeness_26 : decode cX10_likeness 26 = .ok (.ireturn, 1) := by decide +kernel
theorem dX10_likeness_27 : decode cX10_likeness 27 = .ok (.aload_n 0, 1) := by decide +kernel
theorem dX10_likeness_28 : decode cX10_likeness 28 = .ok (.getfield 10, 3) := by decide +kernel
theorem dX10_likeness_31 : decode cX10_likeness 31 = .ok (.iload_n 1, 1) := by decide +kernel
theorem dX10_likeness_32 : decode cX10_likeness 32 = .ok (.invokevirtual 48, 3) := by decide +kernel
theorem dX10_likeness_35 : decode cX10_likeness 35 = .ok (.checkcast 35, 3) := by decide +kernel
theorem dX10_likeness_38 : decode cX10_likeness 38 = .ok (.aload_n 0, 1) := by decide +kernel
theorem dX10_likeness_39 : decode cX10_likeness 39 = .ok (.getfield 10, 3) := by decide +kernel
theorem dX10_likeness_42 : decode cX10_likeness 42 = .ok (.iload_n 2, 1) := by decide +kernel
theorem dX10_likeness_43 : decode cX10_likeness 43 = .ok (.invokevirtual 48, 3) := by decide +kernel
theorem dX10_likeness_46 : decode cX10_likeness 46 = .ok (.checkcast 35, 3) := by decide +kernel
theorem dX10_likeness_49 : decode cX10_likeness 49 = .ok (.iconst 1, 1) := by decide +kernel
theorem dX10_likeness_50 : decode cX10_likeness 50 = .ok (.invokestatic 239, 3) := by decide +kernel
theorem dX10_likeness_53 : decode cX10_likeness 53 = .ok (.ifCond .eq 7, 3) := by decide +kernel
theorem dX10_likeness_56 : decode cX10_likeness 56 = .ok (.iconst 1, 1) := by decide +kernel
theorem dX10_likeness_57 : decode cX10_likeness 57 = .ok (.goto 37, 3) := by decide +kernel
theorem dX10_likeness_60 : decode cX10_likeness 60 = .ok (.aload_n 0, 1) := by decide +kernel
theorem dX10_likeness_61 : decode cX10_likeness 61 = .ok (.getfield 10, 3) := by decide +kernel
theorem dX10_likeness_64 : decode cX10_likeness 64 = .ok (.iload_n 1, 1) := by decide +kernel
theorem dX10_likeness_65 : decode cX10_likeness 65 = .ok (.invokevirtual 48, 3) := by decide +kernel
theorem dX10_likeness_68 : decode cX10_likeness 68 = .ok (.checkcast 35, 3) := by decide +kernel
theorem dX10_likeness_71 : decode cX10_likeness 71 = .ok (.aload_n 0, 1) := by decide +kernel
theorem dX10_likeness_72 : decode cX10_likeness 72 = .ok (.getfield 10, 3) := by decide +kernel
theorem dX10_likeness_75 : decode cX10_likeness 75 = .ok (.iload_n 2, 1) := by decide +kernel
theorem dX10_likeness_76 : decode cX10_likeness 76 = .ok (.invokevirtual 48, 3) := by decide +kernel
theorem dX10_likeness_79 : decode cX10_likeness 79 = .ok (.checkcast 35, 3) := by decide +kernel
theorem dX10_likeness_82 : decode cX10_likeness 82 = .ok (.iconst (-1), 1) := by decide +kernel
theorem dX10_likeness_83 : decode cX10_likeness 83 = .ok (.invokestatic 239, 3) := by decide +kernel
theorem dX10_likeness_86 : decode cX10_likeness 86 = .ok (.ifCond .eq 7, 3) := by decide +kernel
theorem dX10_likeness_89 : decode cX10_likeness 89 = .ok (.iconst 2, 1) := by decide +kernel
theorem dX10_likeness_90 : decode cX10_likeness 90 = .ok (.goto 4, 3) := by decide +kernel
theorem dX10_likeness_93 : decode cX10_likeness 93 = .ok (.iconst 0, 1) := by decide +kernel
theorem dX10_likeness_94 : decode cX10_likeness 94 = .ok (.ireturn, 1) := by decide +kernel
set_option maxRecDepth 20000 in
theorem ggX10_championNow_Jx4a65c_size_8abf5 : GoodIn wsX10_championNow wsJx4a65c_size_8abf5 := goodIn_r _ [7, 8, 124, 125, 126] (by decide +kernel) (by decide +kernel)
set_option maxRecDepth 20000 in
theorem gX10_championNow_Jx4a65c_size_8abf5 : GoodIn wsX10_championNow (wsV RX10 23 RJx4a65c yJx4a65c_size_8abf5 wsJx4a65c_size_8abf5) := goodIn_app (goodIn_of _ (by decide +kernel)) ggX10_championNow_Jx4a65c_size_8abf5
theorem dX10_championNow_0 : decode cX10_championNow 0 = .ok (.iconst (-1), 1) := by decide +kernel
theorem dX10_championNow_1 : decode cX10_championNow 1 = .ok (.istore_n 2, 1) := by decide +kernel
theorem dX10_championNow_2 : decode cX10_championNow 2 = .ok (.iconst (-1), 1) := by decide +kernel
theorem dX10_championNow_3 : decode cX10_championNow 3 = .ok (.istore_n 3, 1) := by decide +kernel
theorem dX10_championNow_4 : decode cX10_championNow 4 = .ok (.iconst 0, 1) := by decide +kernel
theorem dX10_championNow_5 : decode cX10_championNow 5 = .ok (.istore 4, 2) := by decide +kernel
theorem dX10_championNow_7 : decode cX10_championNow 7 = .ok (.iload 4, 2) := by decide +kernel
theorem dX10_championNow_9 : decode cX10_championNow 9 = .ok (.aload_n 0, 1) := by decide +kernel
theorem dX10_championNow_10 : decode cX10_championNow 10 = .ok (.getfield 10, 3) := by decide +kernel
theorem dX10_championNow_13 : decode cX10_championNow 13 = .ok (.invokevirtual 23, 3) := by decide +kernel
theorem dX10_championNow_16 : decode cX10_championNow 16 = .ok (.if_icmp .ge 62, 3) := by decide +kernel
theorem dX10_championNow_19 : decode cX10_championNow 19 = .ok (.aload_n 0, 1) := by decide +kernel
theorem dX10_championNow_20 : decode cX10_championNow 20 = .ok (.getfield 10, 3) := by decide +kernel
theorem dX10_championNow_23 : decode cX10_championNow 23 = .ok (.iload 4, 2) := by decide +kernel
theorem dX10_championNow_25 : decode cX10_championNow 25 = .ok (.invokevirtual 48, 3) := by decide +kernel
theorem dX10_championNow_28 : decode cX10_championNow 28 = .ok (.checkcast 35, 3) := by decide +kernel
theorem dX10_championNow_31 : decode cX10_championNow 31 = .ok (.astore 5, 2) := by decide +kernel
theorem dX10_championNow_33 : decode cX10_championNow 33 = .ok (.aload 5, 2) := by decide +kernel
theorem dX10_championNow_35 : decode cX10_championNow 35 = .ok (.getfield 175, 3) := by decide +kernel
theorem dX10_championNow_38 : decode cX10_championNow 38 = .ok (.ifCond .ne 16, 3) := by decide +kernel
theorem dX10_championNow_41 : decode cX10_championNow 41 = .ok (.aload_n 0, 1) := by decide +kernel
theorem dX10_championNow_42 : decode cX10_championNow 42 = .ok (.aload 5, 2) := by decide +kernel
theorem dX10_championNow_44 : decode cX10_championNow 44 = .ok (.bipush 6, 2) := by decide +kernel
theorem dX10_championNow_46 : decode cX10_championNow 46 = .ok (.iload_n 1, 1) := by decide +kernel
theorem dX10_championNow_47 : decode cX10_championNow 47 = .ok (.iadd, 1) := by decide +kernel
theorem dX10_championNow_48 : decode cX10_championNow 48 = .ok (.invokevirtual 221, 3) := by decide +kernel
theorem dX10_championNow_51 : decode cX10_championNow 51 = .ok (.goto 4, 3) := by decide +kernel
theorem dX10_championNow_54 : decode cX10_championNow 54 = .ok (.iconst (-1), 1) := by decide +kernel
theorem dX10_championNow_55 : decode cX10_championNow 55 = .ok (.istore 6, 2) := by decide +kernel
theorem dX10_championNow_57 : decode cX10_championNow 57 = .ok (.iload 6, 2) := by decide +kernel
theorem dX10_championNow_59 : decode cX10_championNow 59 = .ok (.iload_n 3, 1) := by decide +kernel
theorem dX10_championNow_60 : decode cX10_championNow 60 = .ok (.if_icmp .gt 6, 3) := by decide +kernel
theorem dX10_championNow_63 : decode cX10_championNow 63 = .ok (.goto 9, 3) := by decide +kernel
theorem dX10_championNow_66 : decode cX10_championNow 66 = .ok (.iload 4, 2) := by decide +kernel
theorem dX10_championNow_68 : decode cX10_championNow 68 = .ok (.istore_n 2, 1) := by decide +kernel
theorem dX10_championNow_69 : decode cX10_championNow 69 = .ok (.iload 6, 2) := by decide +kernel
theorem dX10_championNow_71 : decode cX10_championNow 71 = .ok (.istore_n 3, 1) := by decide +kernel
theorem dX10_championNow_72 : decode cX10_championNow 72 = .ok (.iinc 4 1, 3) := by decide +kernel
theorem dX10_championNow_75 : decode cX10_championNow 75 = .ok (.goto (-68), 3) := by decide +kernel
theorem dX10_championNow_78 : decode cX10_championNow 78 = .ok (.iload_n 2, 1) := by decide +kernel
theorem dX10_championNow_79 : decode cX10_championNow 79 = .ok (.ireturn, 1) := by decide +kernel
set_option maxRecDepth 20000 in
theorem ggX10_champion_X10_is : GoodIn wsX10_champion wsX10_is := goodIn_r _ [5] (by decide +kernel) (by decide +kernel)
set_option maxRecDepth 20000 in
theorem gX10_champion_X10_is : GoodIn wsX10_champion (va_wsS RX10 27 yX10_is wsX10_is) := goodIn_app (goodIn_of _ (by decide +kernel)) ggX10_champion_X10_is
set_option maxRecDepth 20000 in
theorem ggX10_champion_X10_championNow : GoodIn wsX10_champion wsX10_championNow := goodIn_r _ [9, 10, 11, 12, 13, 14, 15, 16, 17, 18, 19, 20, 21, 22, 23, 24, 25, 26, 27, 28, 29, 30, 31, 32, 33, 34, 35, 36, 37, 4, 38, 39, 40, 41, 42, 43, 44, 45, 46, 47, 48, 49, 50, 51, 52, 53, 54, 55, 56, 57, 58, 59, 60, 61, 62, 63, 64, 65, 66, 67, 68, 69, 70, 71, 72, 73, 74, 75, 76, 77, 78, 79, 80, 81, 82, 83, 84, 85, 86, 87, 88, 89, 90, 91, 92, 93, 94, 95, 96, 97, 98, 99, 100, 101, 102, 103, 104, 105, 106, 107, 108, 109, 110, 111, 112, 113, 114, 115, 116, 3, 5, 117, 122, 123, 124, 125, 126, 127, 128, 129, 130, 131, 132, 133, 134, 135, 136, 137, 138, 139, 140, 141, 142, 143, 144] (by decide +kernel) (by decide +kernel)
set_option maxRecDepth 20000 in
theorem gX10_champion_X10_championNow : GoodIn wsX10_champion (wsV RX10 243 RX10 yX10_championNow wsX10_championNow) := goodIn_app (goodIn_of _ (by decide +kernel)) ggX10_champion_X10_championNow
set_option maxRecDepth 20000 in
theorem ggX10_champion_X10_refuse : GoodIn wsX10_champion wsX10_refuse := goodIn_r _ [121, 1, 122, 123, 124, 125, 126, 127, 128] (by decide +kernel) (by decide +kernel)
set_option maxRecDepth 20000 in
theorem gX10_champion_X10_refuse : GoodIn wsX10_champion (wsV RX10 31 RX10 yX10_refuse wsX10_refuse) := goodIn_app (goodIn_of _ (by decide +kernel)) ggX10_champion_X10_refuse
theorem dX10_champion_0 : decode cX10_champion 0 = .ok (.aload_n 0, 1) := by decide +kernel
theorem dX10_champion_1 : decode cX10_champion 1 = .ok (.iconst 0, 1) := by decide +kernel
theorem dX10_champion_2 : decode cX10_champion 2 = .ok (.putfield 19, 3) := by decide +kernel
theorem dX10_champion_5 : decode cX10_champion 5 = .ok (.iload_n 1, 1) := by decide +kernel
theorem dX10_champion_6 : decode cX10_champion 6 = .ok (.iconst 0, 1) := by decide +kernel
theorem dX10_champion_7 : decode cX10_champion 7 = .ok (.iconst 1, 1) := by decide +kernel
theorem dX10_champion_8 : decode cX10_champion 8 = .ok (.invokestatic 27, 3) := by decide +kernel
theorem dX10_champion_11 : decode cX10_champion 11 = .ok (.ifCond .eq 11, 3) := by decide +kernel
theorem dX10_champion_14 : decode cX10_champion 14 = .ok (.aload_n 0, 1) := by decide +kernel
theorem dX10_champion_15 : decode cX10_champion 15 = .ok (.iload_n 1, 1) := by decide +kernel
theorem dX10_champion_16 : decode cX10_champion 16 = .ok (.invokevirtual 243, 3) := by decide +kernel
theorem dX10_champion_19 : decode cX10_champion 19 = .ok (.goto 8, 3) := by decide +kernel
theorem dX10_champion_22 : decode cX10_champion 22 = .ok (.aload_n 0, 1) := by decide +kernel
theorem dX10_champion_23 : decode cX10_champion 23 = .ok (.iconst 1, 1) := by decide +kernel
theorem dX10_champion_24 : decode cX10_champion 24 = .ok (.invokevirtual 31, 3) := by decide +kernel
theorem dX10_champion_27 : decode cX10_champion 27 = .ok (.ireturn, 1) := by decide +kernel
set_option maxRecDepth 20000 in
theorem ggX10_tagged_Jx4a65c_size_8abf5 : GoodIn wsX10_tagged wsJx4a65c_size_8abf5 := goodIn_r _ [7, 8, 54, 55, 56] (by decide +kernel) (by decide +kernel)
set_option maxRecDepth 20000 in
theorem gX10_tagged_Jx4a65c_size_8abf5 : GoodIn wsX10_tagged (wsV RX10 23 RJx4a65c yJx4a65c_size_8abf5 wsJx4a65c_size_8abf5) := goodIn_app (goodIn_of _ (by decide +kernel)) ggX10_tagged_Jx4a65c_size_8abf5
set_option maxRecDepth 20000 in
theorem ggX10_tagged_X10_is : GoodIn wsX10_tagged wsX10_is := goodIn_r _ [12] (by decide +kernel) (by decide +kernel)
set_option maxRecDepth 20000 in
theorem gX10_tagged_X10_is : GoodIn wsX10_tagged (va_wsS RX10 27 yX10_is wsX10_is) := goodIn_app (goodIn_of _ (by decide +kernel)) ggX10_tagged_X10_is
set_option maxRecDepth 20000 in
theorem ggX10_tagged_X10_refuse : GoodIn wsX10_tagged wsX10_refuse := goodIn_r _ [16, 1, 47, 48, 49, 50, 51, 52, 53] (by decide +kernel) (by decide +kernel)
set_option maxRecDepth 20000 in
theorem gX10_tagged_X10_refuse : GoodIn wsX10_tagged (wsV RX10 31 RX10 yX10_refuse wsX10_refuse) := goodIn_app (goodIn_of _ (by decide +kernel)) ggX10_tagged_X10_refuse
theorem dX10_tagged_0 : decode cX10_tagged 0 = .ok (.aload_n 0, 1) := by decide +kernel
theorem dX10_tagged_1 : decode cX10_tagged 1 = .ok (.iconst 0, 1) := by decide +kernel
theorem dX10_tagged_2 : decode cX10_tagged 2 = .ok (.putfield 19, 3) := by decide +kernel
theorem dX10_tagged_5 : decode cX10_tagged 5 = .ok (.iload_n 1, 1) := by decide +kernel
theorem dX10_tagged_6 : decode cX10_tagged 6 = .ok (.iconst 0, 1) := by decide +kernel
theorem dX10_tagged_7 : decode cX10_tagged 7 = .ok (.aload_n 0, 1) := by decide +kernel
theorem dX10_tagged_8 : decode cX10_tagged 8 = .ok (.getfield 16, 3) := by decide +kernel
theorem dX10_tagged_11 : decode cX10_tagged 11 = .ok (.invokevirtual 23, 3) := by decide +kernel
theorem dX10_tagged_14 : decode cX10_tagged 14 = .ok (.iconst 1, 1) := by decide +kernel
theorem dX10_tagged_15 : decode cX10_tagged 15 = .ok (.isub, 1) := by decide +kernel
theorem dX10_tagged_16 : decode cX10_tagged 16 = .ok (.invokestatic 27, 3) := by decide +kernel
theorem dX10_tagged_19 : decode cX10_tagged 19 = .ok (.ifCond .ne 9, 3) := by decide +kernel
theorem dX10_tagged_22 : decode cX10_tagged 22 = .ok (.aload_n 0, 1) := by decide +kernel
theorem dX10_tagged_23 : decode cX10_tagged 23 = .ok (.iconst 1, 1) := by decide +kernel
theorem dX10_tagged_24 : decode cX10_tagged 24 = .ok (.invokevirtual 31, 3) := by decide +kernel
theorem dX10_tagged_27 : decode cX10_tagged 27 = .ok (.ireturn, 1) := by decide +kernel
theorem dX10_tagged_28 : decode cX10_tagged 28 = .ok (.iload_n 2, 1) := by decide +kernel
theorem dX10_tagged_29 : decode cX10_tagged 29 = .ok (.iconst 1, 1) := by decide +kernel
theorem dX10_tagged_30 : decode cX10_tagged 30 = .ok (.sipush 1023, 3) := by decide +kernel
theorem dX10_tagged_33 : decode cX10_tagged 33 = .ok (.invokestatic 27, 3) := by decide +kernel
theorem dX10_tagged_36 : decode cX10_tagged 36 = .ok (.ifCond .eq 24, 3) := by decide +kernel
theorem dX10_tagged_39 : decode cX10_tagged 39 = .ok (.iload_n 3, 1) := by decide +kernel
theorem dX10_tagged_40 : decode cX10_tagged 40 = .ok (.iconst 0, 1) := by decide +kernel
theorem dX10_tagged_41 : decode cX10_tagged 41 = .ok (.sipush 200, 3) := by decide +kernel
theorem dX10_tagged_44 : decode cX10_tagged 44 = .ok (.invokestatic 27, 3) := by decide +kernel
theorem dX10_tagged_47 : decode cX10_tagged 47 = .ok (.ifCond .eq 13, 3) := by decide +kernel
theorem dX10_tagged_50 : decode cX10_tagged 50 = .ok (.aload_n 0, 1) := by decide +kernel
theorem dX10_tagged_51 : decode cX10_tagged 51 = .ok (.iload_n 1, 1) := by decide +kernel
theorem dX10_tagged_52 : decode cX10_tagged 52 = .ok (.iload_n 2, 1) := by decide +kernel
theorem dX10_tagged_53 : decode cX10_tagged 53 = .ok (.iload_n 3, 1) := by decide +kernel
theorem dX10_tagged_54 : decode cX10_tagged 54 = .ok (.invokevirtual 254, 3) := by decide +kernel
theorem dX10_tagged_57 : decode cX10_tagged 57 = .ok (.goto 8, 3) := by decide +kernel
theorem dX10_tagged_60 : decode cX10_tagged 60 = .ok (.aload_n 0, 1) := by decide +kernel
theorem dX10_tagged_61 : decode cX10_tagged 61 = .ok (.iconst 2, 1) := by decide +kernel
theorem dX10_tagged_62 : decode cX10_tagged 62 = .ok (.invokevirtual 31, 3) := by decide +kernel
theorem dX10_tagged_65 : decode cX10_tagged 65 = .ok (.ireturn, 1) := by decide +kernel
set_option maxRecDepth 20000 in
theorem ggX10_manyNow_Jx4a65c_iterator_32c93 : GoodIn wsX10_manyNow wsJx4a65c_iterator_32c93 := goodIn_r _ [12, 13, 14, 15, 16, 17, 18, 19, 20, 21, 22, 23, 24, 25, 26, 64, 65, 66, 67, 68, 69, 70] (by decide +kernel) (by decide +kernel)
set_option maxRecDepth 20000 in
theorem gX10_manyNow_Jx4a65c_iterator_32c93 : GoodIn wsX10_manyNow (wsV RX10 158 RJx4a65c yJx4a65c_iterator_32c93 wsJx4a65c_iterator_32c93) := goodIn_app (goodIn_of _ (by decide +kernel)) ggX10_manyNow_Jx4a65c_iterator_32c93
set_option maxRecDepth 20000 in
theorem ggX10_manyNow_Jx35411_hasNext_aae02 : GoodIn wsX10_manyNow wsJx35411_hasNext_aae02 := goodIn_r _ [30, 31, 19, 64, 65, 66, 67, 68, 69, 70] (by decide +kernel) (by decide +kernel)
set_option maxRecDepth 20000 in
theorem gX10_manyNow_Jx35411_hasNext_aae02_f162Jx35411 : GoodIn wsX10_manyNow (va_wsF RX10 162 RJx35411 ⟨"java/util/Iterator", "hasNext", "()Z"⟩ yJx35411_hasNext_aae02 wsJx35411_hasNext_aae02) := goodIn_app (goodIn_of _ (by decide +kernel)) ggX10_manyNow_Jx35411_hasNext_aae02
set_option maxRecDepth 20000 in
theorem ggX10_manyNow_Jx4a65c_size_8abf5 : GoodIn wsX10_manyNow wsJx4a65c_size_8abf5 := goodIn_r _ [50, 51, 68, 69, 70] (by decide +kernel) (by decide +kernel)
set_option maxRecDepth 20000 in
theorem gX10_manyNow_Jx4a65c_size_8abf5 : GoodIn wsX10_manyNow (wsV RX10 23 RJx4a65c yJx4a65c_size_8abf5 wsJx4a65c_size_8abf5) := goodIn_app (goodIn_of _ (by decide +kernel)) ggX10_manyNow_Jx4a65c_size_8abf5
theorem dX10_manyNow_0 : decode cX10_manyNow 0 = .ok (.iconst 5, 1) := by decide +kernel
theorem dX10_manyNow_1 : decode cX10_manyNow 1 = .ok (.newarray .int, 2) := by decide +kernel
theorem dX10_manyNow_3 : decode cX10_manyNow 3 = .ok (.astore_n 2, 1) := by decide +kernel
theorem dX10_manyNow_4 : decode cX10_manyNow 4 = .ok (.iconst 0, 1) := by decide +kernel
theorem dX10_manyNow_5 : decode cX10_manyNow 5 = .ok (.istore_n 3, 1) := by decide +kernel
theorem dX10_manyNow_6 : decode cX10_manyNow 6 = .ok (.aload_n 0, 1) := by decide +kernel
theorem dX10_manyNow_7 : decode cX10_manyNow 7 = .ok (.getfield 10, 3) := by decide +kernel
theorem dX10_manyNow_10 : decode cX10_manyNow 10 = .ok (.invokevirtual 158, 3) := by decide +kernel
theorem dX10_manyNow_13 : decode cX10_manyNow 13 = .ok (.astore 4, 2) := by decide +kernel
theorem dX10_manyNow_15 : decode cX10_manyNow 15 = .ok (.aload 4, 2) := by decide +kernel
theorem dX10_manyNow_17 : decode cX10_manyNow 17 = .ok (.invokeinterface 162 1, 5) := by decide +kernel
theorem dX10_manyNow_22 : decode cX10_manyNow 22 = .ok (.ifCond .eq 39, 3) := by decide +kernel
theorem dX10_manyNow_25 : decode cX10_manyNow 25 = .ok (.aload 4, 2) := by decide +kernel
theorem dX10_manyNow_27 : decode cX10_manyNow 27 = .ok (.invokeinterface 167 1, 5) := by decide +kernel
theorem dX10_manyNow_32 : decode cX10_manyNow 32 = .ok (.checkcast 35, 3) := by decide +kernel
theorem dX10_manyNow_35 : decode cX10_manyNow 35 = .ok (.astore 5, 2) := by decide +kernel
theorem dX10_manyNow_37 : decode cX10_manyNow 37 = .ok (.aload_n 2, 1) := by decide +kernel
theorem dX10_manyNow_38 : decode cX10_manyNow 38 = .ok (.aload 5, 2) := by decide +kernel
theorem dX10_manyNow_40 : decode cX10_manyNow 40 = .ok (.getfield 175, 3) := by decide +kernel
theorem dX10_manyNow_43 : decode cX10_manyNow 43 = .ok (.iconst 1, 1) := by decide +kernel
theorem dX10_manyNow_44 : decode cX10_manyNow 44 = .ok (.iadd, 1) := by decide +kernel
theorem dX10_manyNow_45 : decode cX10_manyNow 45 = .ok (.dup2, 1) := by decide +kernel
theorem dX10_manyNow_46 : decode cX10_manyNow 46 = .ok (.iaload, 1) := by decide +kernel
theorem dX10_manyNow_47 : decode cX10_manyNow 47 = .ok (.iconst 1, 1) := by decide +kernel
theorem dX10_manyNow_48 : decode cX10_manyNow 48 = .ok (.iadd, 1) := by decide +kernel
theorem dX10_manyNow_49 : decode cX10_manyNow 49 = .ok (.iastore, 1) := by decide +kernel
theorem dX10_manyNow_50 : decode cX10_manyNow 50 = .ok (.iload_n 3, 1) := by decide +kernel
theorem dX10_manyNow_51 : decode cX10_manyNow 51 = .ok (.aload 5, 2) := by decide +kernel
theorem dX10_manyNow_53 : decode cX10_manyNow 53 = .ok (.invokevirtual 78, 3) := by decide +kernel
theorem dX10_manyNow_56 : decode cX10_manyNow 56 = .ok (.iadd, 1) := by decide +kernel
theorem dX10_manyNow_57 : decode cX10_manyNow 57 = .ok (.istore_n 3, 1) := by decide +kernel
theorem dX10_manyNow_58 : decode cX10_manyNow 58 = .ok (.goto (-43), 3) := by decide +kernel
theorem dX10_manyNow_61 : decode cX10_manyNow 61 = .ok (.bipush 11, 2) := by decide +kernel
theorem dX10_manyNow_63 : decode cX10_manyNow 63 = .ok (.newarray .int, 2) := by decide +kernel
theorem dX10_manyNow_65 : decode cX10_manyNow 65 = .ok (.dup, 1) := by decide +kernel
theorem dX10_manyNow_66 : decode cX10_manyNow 66 = .ok (.iconst 0, 1) := by decide +kernel
theorem dX10_manyNow_67 : decode cX10_manyNow 67 = .ok (.aload_n 0, 1) := by decide +kernel
theorem dX10_manyNow_68 : decode cX10_manyNow 68 = .ok (.getfield 10, 3) := by decide +kernel
theorem dX10_manyNow_71 : decode cX10_manyNow 71 = .ok (.invokevirtual 23, 3) := by decide +kernel
theorem dX10_manyNow_74 : decode cX10_manyNow 74 = .ok (.iastore, 1) := by decide +kernel
theorem dX10_manyNow_75 : decode cX10_manyNow 75 = .ok (.dup, 1) := by decide +kernel
theorem dX10_manyNow_76 : decode cX10_manyNow 76 = .ok (.iconst 1, 1) := by decide +kernel
theorem dX10_manyNow_77 : decode cX10_manyNow 77 = .ok (.aload_n 2, 1) := by decide +kernel
theorem dX10_manyNow_78 : decode cX10_manyNow 78 = .ok (.iconst 0, 1) := by decide +kernel
theorem dX10_manyNow_79 : decode cX10_manyNow 79 = .ok (.iaload, 1) := by decide +kernel
theorem dX10_manyNow_80 : decode cX10_manyNow 80 = .ok (.iastore, 1) := by decide +kernel
theorem dX10_manyNow_81 : decode cX10_manyNow 81 = .ok (.dup, 1) := by decide +kernel
theorem dX10_manyNow_82 : decode cX10_manyNow 82 = .ok (.iconst 2, 1) := by decide +kernel
theorem dX10_manyNow_83 : decode cX10_manyNow 83 = .ok (.aload_n 2, 1) := by decide +kernel
theorem dX10_manyNow_84 : decode cX10_manyNow 84 = .ok (.iconst 1, 1) := by decide +kernel
theorem dX10_manyNow_85 : decode cX10_manyNow 85 = .ok (.iaload, 1) := by decide +kernel
theorem dX10_manyNow_86 : decode cX10_manyNow 86 = .ok (.iastore, 1) := by decide +kernel
theorem dX10_manyNow_87 : decode cX10_manyNow 87 = .ok (.dup, 1) := by decide +kernel
theorem dX10_manyNow_88 : decode cX10_manyNow 88 = .ok (.iconst 3, 1) := by decide +kernel
theorem dX10_manyNow_89 : decode cX10_manyNow 89 = .ok (.aload_n 2, 1) := by decide +kernel
theorem dX10_manyNow_90 : decode cX10_manyNow 90 = .ok (.iconst 2, 1) := by decide +kernel
theorem dX10_manyNow_91 : decode cX10_manyNow 91 = .ok (.iaload, 1) := by decide +kernel
theorem dX10_manyNow_92 : decode cX10_manyNow 92 = .ok (.iastore, 1) := by decide +kernel
theorem dX10_manyNow_93 : decode cX10_manyNow 93 = .ok (.dup, 1) := by decide +kernel
theorem dX10_manyNow_94 : decode cX10_manyNow 94 = .ok (.iconst 4, 1) := by decide +kernel
theorem dX10_manyNow_95 : decode cX10_manyNow 95 = .ok (.aload_n 2, 1) := by decide +kernel
theorem dX10_manyNow_96 : decode cX10_manyNow 96 = .ok (.iconst 3, 1) := by decide +kernel
theorem dX10_manyNow_97 : decode cX10_manyNow 97 = .ok (.iaload, 1) := by decide +kernel
theorem dX10_manyNow_98 : decode cX10_manyNow 98 = .ok (.iastore, 1) := by decide +kernel
theorem dX10_manyNow_99 : decode cX10_manyNow 99 = .ok (.dup, 1) := by decide +kernel
theorem dX10_manyNow_100 : decode cX10_manyNow 100 = .ok (.iconst 5, 1) := by decide +kernel
theorem dX10_manyNow_101 : decode cX10_manyNow 101 = .ok (.aload_n 2, 1) := by decide +kernel
theorem dX10_manyNow_102 : decode cX10_manyNow 102 = .ok (.iconst 4, 1) := by decide +kernel
theorem dX10_manyNow_103 : decode cX10_manyNow 103 = .ok (.iaload, 1) := by decide +kernel
theorem dX10_manyNow_104 : decode cX10_manyNow 104 = .ok (.iastore, 1) := by decide +kernel
theorem dX10_manyNow_105 : decode cX10_manyNow 105 = .ok (.dup, 1) := by decide +kernel
theorem dX10_manyNow_106 : decode cX10_manyNow 106 = .ok (.bipush 6, 2) := by decide +kernel
theorem dX10_manyNow_108 : decode cX10_manyNow 108 = .ok (.aload_n 0, 1) := by decide +kernel
theorem dX10_manyNow_109 : decode cX10_manyNow 109 = .ok (.getfield 16, 3) := by decide +kernel
theorem dX10_manyNow_112 : decode cX10_manyNow 112 = .ok (.invokevirtual 23, 3) := by decide +kernel
theorem dX10_manyNow_115 : decode cX10_manyNow 115 = .ok (.iastore, 1) := by decide +kernel
theorem dX10_manyNow_116 : decode cX10_manyNow 116 = .ok (.dup, 1) := by decide +kernel
theorem dX10_manyNow_117 : decode cX10_manyNow 117 = .ok (.bipush 7, 2) := by decide +kernel
theorem dX10_manyNow_119 : decode cX10_manyNow 119 = .ok (.aload_n 0, 1) := by decide +kernel
theorem dX10_manyNow_120 : decode cX10_manyNow 120 = .ok (.getfield 191, 3) := by decide +kernel
theorem dX10_manyNow_123 : decode cX10_manyNow 123 = .ok (.iastore, 1) := by decide +kernel
theorem dX10_manyNow_124 : decode cX10_manyNow 124 = .ok (.dup, 1) := by decide +kernel
theorem dX10_manyNow_125 : decode cX10_manyNow 125 = .ok (.bipush 8, 2) := by decide +kernel
theorem dX10_manyNow_127 : decode cX10_manyNow 127 = .ok (.aload_n 0, 1) := by decide +kernel
theorem dX10_manyNow_128 : decode cX10_manyNow 128 = .ok (.getfield 194, 3) := by decide +kernel
theorem dX10_manyNow_131 : decode cX10_manyNow 131 = .ok (.iastore, 1) := by decide +kernel
theorem dX10_manyNow_132 : decode cX10_manyNow 132 = .ok (.dup, 1) := by decide +kernel
theorem dX10_manyNow_133 : decode cX10_manyNow 133 = .ok (.bipush 9, 2) := by decide +kernel
theorem dX10_manyNow_135 : decode cX10_manyNow 135 = .ok (.aload_n 0, 1) := by decide +kernel
theorem dX10_manyNow_136 : decode cX10_manyNow 136 = .ok (.getfield 67, 3) := by decide +kernel
theorem dX10_manyNow_139 : decode cX10_manyNow 139 = .ok (.iastore, 1) := by decide +kernel
theorem dX10_manyNow_140 : decode cX10_manyNow 140 = .ok (.dup, 1) := by decide +kernel
theorem dX10_manyNow_141 : decode cX10_manyNow 141 = .ok (.bipush 10, 2) := by decide +kernel
theorem dX10_manyNow_143 : decode cX10_manyNow 143 = .ok (.iload_n 3, 1) := by decide +kernel
theorem dX10_manyNow_144 : decode cX10_manyNow 144 = .ok (.iastore, 1) := by decide +kernel
theorem dX10_manyNow_145 : decode cX10_manyNow 145 = .ok (.astore 4, 2) := by decide +kernel
theorem dX10_manyNow_147 : decode cX10_manyNow 147 = .ok (.aload 4, 2) := by decide +kernel
theorem dX10_manyNow_149 : decode cX10_manyNow 149 = .ok (.iload_n 1, 1) := by decide +kernel
theorem dX10_manyNow_150 : decode cX10_manyNow 150 = .ok (.iaload, 1) := by decide +kernel
theorem dX10_manyNow_151 : decode cX10_manyNow 151 = .ok (.ireturn, 1) := by decide +kernel
set_option maxRecDepth 20000 in
theorem ggX10_many_X10_is : GoodIn wsX10_many wsX10_is := goodIn_r _ [5] (by decide +kernel) (by decide +kernel)
set_option maxRecDepth 20000 in
theorem gX10_many_X10_is : GoodIn wsX10_many (va_wsS RX10 27 yX10_is wsX10_is) := goodIn_app (goodIn_of _ (by decide +kernel)) ggX10_many_X10_is
set_option maxRecDepth 20000 in
theorem ggX10_many_X10_manyNow : GoodIn wsX10_many wsX10_manyNow := goodIn_r _ [9, 10, 11, 12, 13, 14, 15, 16, 17, 18, 19, 20, 21, 22, 23, 24, 25, 26, 27, 28, 29, 30, 31, 32, 33, 34, 35, 36, 37, 38, 39, 40, 41, 42, 43, 44, 45, 46, 47, 48, 49, 50, 51, 52, 53, 54, 55, 56, 57, 58, 59, 60, 65, 66, 67, 68, 69, 70, 71, 72, 73, 74, 75, 76, 77, 78, 79, 80, 81, 82, 83] (by decide +kernel) (by decide +kernel)
set_option maxRecDepth 20000 in
theorem gX10_many_X10_manyNow : GoodIn wsX10_many (wsV RX10 258 RX10 yX10_manyNow wsX10_manyNow) := goodIn_app (goodIn_of _ (by decide +kernel)) ggX10_many_X10_manyNow
set_option maxRecDepth 20000 in
theorem ggX10_many_X10_refuse : GoodIn wsX10_many wsX10_refuse := goodIn_r _ [64, 1, 65, 66, 67, 68, 69, 70, 71] (by decide +kernel) (by decide +kernel)
set_option maxRecDepth 20000 in
theorem gX10_many_X10_refuse : GoodIn wsX10_many (wsV RX10 31 RX10 yX10_refuse wsX10_refuse) := goodIn_app (goodIn_of _ (by decide +kernel)) ggX10_many_X10_refuse
theorem dX10_many_0 : decode cX10_many 0 = .ok (.aload_n 0, 1) := by decide +kernel
theorem dX10_many_1 : decode cX10_many 1 = .ok (.iconst 0, 1) := by decide +kernel
theorem dX10_many_2 : decode cX10_many 2 = .ok (.putfield 19, 3) := by decide +kernel
theorem dX10_many_5 : decode cX10_many 5 = .ok (.iload_n 1, 1) := by decide +kernel
theorem dX10_many_6 : decode cX10_many 6 = .ok (.iconst 0, 1) := by decide +kernel
theorem dX10_many_7 : decode cX10_many 7 = .ok (.bipush 10, 2) := by decide +kernel
theorem dX10_many_9 : decode cX10_many 9 = .ok (.invokestatic 27, 3) := by decide +kernel
theorem dX10_many_12 : decode cX10_many 12 = .ok (.ifCond .eq 11, 3) := by decide +kernel
theorem dX10_many_15 : decode cX10_many 15 = .ok (.aload_n 0, 1) := by decide +kernel
theorem dX10_many_16 : decode cX10_many 16 = .ok (.iload_n 1, 1) := by decide +kernel
theorem dX10_many_17 : decode cX10_many 17 = .ok (.invokevirtual 258, 3) := by decide +kernel
theorem dX10_many_20 : decode cX10_many 20 = .ok (.goto 8, 3) := by decide +kernel
theorem dX10_many_23 : decode cX10_many 23 = .ok (.aload_n 0, 1) := by decide +kernel
theorem dX10_many_24 : decode cX10_many 24 = .ok (.iconst 1, 1) := by decide +kernel
theorem dX10_many_25 : decode cX10_many 25 = .ok (.invokevirtual 31, 3) := by decide +kernel
theorem dX10_many_28 : decode cX10_many 28 = .ok (.ireturn, 1) := by decide +kernel
set_option maxRecDepth 20000 in
theorem ggX10_meanStop_Jx4a65c_iterator_32c93 : GoodIn wsX10_meanStop wsJx4a65c_iterator_32c93 := goodIn_r _ [8, 9, 10, 11, 12, 13, 14, 15, 16, 17, 18, 19, 20, 21, 22, 49, 50, 51, 52, 53, 54, 55] (by decide +kernel) (by decide +kernel)
set_option maxRecDepth 20000 in
theorem gX10_meanStop_Jx4a65c_iterator_32c93 : GoodIn wsX10_meanStop (wsV RX10 158 RJx4a65c yJx4a65c_iterator_32c93 wsJx4a65c_iterator_32c93) := goodIn_app (goodIn_of _ (by decide +kernel)) ggX10_meanStop_Jx4a65c_iterator_32c93
set_option maxRecDepth 20000 in
theorem ggX10_meanStop_Jx35411_hasNext_aae02 : GoodIn wsX10_meanStop wsJx35411_hasNext_aae02 := goodIn_r _ [26, 27, 15, 49, 50, 51, 52, 53, 54, 55] (by decide +kernel) (by decide +kernel)
set_option maxRecDepth 20000 in
theorem gX10_meanStop_Jx35411_hasNext_aae02_f162Jx35411 : GoodIn wsX10_meanStop (va_wsF RX10 162 RJx35411 ⟨"java/util/Iterator", "hasNext", "()Z"⟩ yJx35411_hasNext_aae02 wsJx35411_hasNext_aae02) := goodIn_app (goodIn_of _ (by decide +kernel)) ggX10_meanStop_Jx35411_hasNext_aae02
theorem dX10_meanStop_0 : decode cX10_meanStop 0 = .ok (.aload_n 0, 1) := by decide +kernel
theorem dX10_meanStop_1 : decode cX10_meanStop 1 = .ok (.iconst 0, 1) := by decide +kernel
theorem dX10_meanStop_2 : decode cX10_meanStop 2 = .ok (.putfield 19, 3) := by decide +kernel
theorem dX10_meanStop_5 : decode cX10_meanStop 5 = .ok (.iconst 0, 1) := by decide +kernel
theorem dX10_meanStop_6 : decode cX10_meanStop 6 = .ok (.istore_n 1, 1) := by decide +kernel
theorem dX10_meanStop_7 : decode cX10_meanStop 7 = .ok (.iconst 0, 1) := by decide +kernel
theorem dX10_meanStop_8 : decode cX10_meanStop 8 = .ok (.istore_n 2, 1) := by decide +kernel
theorem dX10_meanStop_9 : decode cX10_meanStop 9 = .ok (.aload_n 0, 1) := by decide +kernel
theorem dX10_meanStop_10 : decode cX10_meanStop 10 = .ok (.getfield 10, 3) := by decide +kernel
theorem dX10_meanStop_13 : decode cX10_meanStop 13 = .ok (.invokevirtual 158, 3) := by decide +kernel
theorem dX10_meanStop_16 : decode cX10_meanStop 16 = .ok (.astore_n 3, 1) := by decide +kernel
theorem dX10_meanStop_17 : decode cX10_meanStop 17 = .ok (.aload_n 3, 1) := by decide +kernel
theorem dX10_meanStop_18 : decode cX10_meanStop 18 = .ok (.invokeinterface 162 1, 5) := by decide +kernel
theorem dX10_meanStop_23 : decode cX10_meanStop 23 = .ok (.ifCond .eq 39, 3) := by decide +kernel
theorem dX10_meanStop_26 : decode cX10_meanStop 26 = .ok (.aload_n 3, 1) := by decide +kernel
theorem dX10_meanStop_27 : decode cX10_meanStop 27 = .ok (.invokeinterface 167 1, 5) := by decide +kernel
theorem dX10_meanStop_32 : decode cX10_meanStop 32 = .ok (.checkcast 35, 3) := by decide +kernel
theorem dX10_meanStop_35 : decode cX10_meanStop 35 = .ok (.astore 4, 2) := by decide +kernel
theorem dX10_meanStop_37 : decode cX10_meanStop 37 = .ok (.aload 4, 2) := by decide +kernel
theorem dX10_meanStop_39 : decode cX10_meanStop 39 = .ok (.getfield 175, 3) := by decide +kernel
theorem dX10_meanStop_42 : decode cX10_meanStop 42 = .ok (.ifCond .eq 6, 3) := by decide +kernel
theorem dX10_meanStop_45 : decode cX10_meanStop 45 = .ok (.goto (-28), 3) := by decide +kernel
theorem dX10_meanStop_48 : decode cX10_meanStop 48 = .ok (.iload_n 1, 1) := by decide +kernel
theorem dX10_meanStop_49 : decode cX10_meanStop 49 = .ok (.aload 4, 2) := by decide +kernel
theorem dX10_meanStop_51 : decode cX10_meanStop 51 = .ok (.getfield 178, 3) := by decide +kernel
theorem dX10_meanStop_54 : decode cX10_meanStop 54 = .ok (.iadd, 1) := by decide +kernel
theorem dX10_meanStop_55 : decode cX10_meanStop 55 = .ok (.istore_n 1, 1) := by decide +kernel
theorem dX10_meanStop_56 : decode cX10_meanStop 56 = .ok (.iinc 2 1, 3) := by decide +kernel
theorem dX10_meanStop_59 : decode cX10_meanStop 59 = .ok (.goto (-42), 3) := by decide +kernel
theorem dX10_meanStop_62 : decode cX10_meanStop 62 = .ok (.iload_n 2, 1) := by decide +kernel
theorem dX10_meanStop_63 : decode cX10_meanStop 63 = .ok (.ifCond .ne 7, 3) := by decide +kernel
theorem dX10_meanStop_66 : decode cX10_meanStop 66 = .ok (.dconst 0, 1) := by decide +kernel
theorem dX10_meanStop_67 : decode cX10_meanStop 67 = .ok (.goto 8, 3) := by decide +kernel
theorem dX10_meanStop_70 : decode cX10_meanStop 70 = .ok (.iload_n 1, 1) := by decide +kernel
theorem dX10_meanStop_71 : decode cX10_meanStop 71 = .ok (.i2d, 1) := by decide +kernel
theorem dX10_meanStop_72 : decode cX10_meanStop 72 = .ok (.iload_n 2, 1) := by decide +kernel
theorem dX10_meanStop_73 : decode cX10_meanStop 73 = .ok (.i2d, 1) := by decide +kernel
theorem dX10_meanStop_74 : decode cX10_meanStop 74 = .ok (.ddiv, 1) := by decide +kernel
theorem dX10_meanStop_75 : decode cX10_meanStop 75 = .ok (.dreturn, 1) := by decide +kernel
set_option maxRecDepth 20000 in
theorem ggX10_cycleIn_X10_isMachine : GoodIn wsX10_cycleIn wsX10_isMachine := goodIn_r _ [8, 2, 9, 10, 11, 12, 13, 14, 15, 16, 7, 17, 106, 107, 108, 109, 110, 111, 112, 113, 114, 115] (by decide +kernel) (by decide +kernel)
set_option maxRecDepth 20000 in
theorem gX10_cycleIn_X10_isMachine : GoodIn wsX10_cycleIn (wsV RX10 44 RX10 yX10_isMachine wsX10_isMachine) := goodIn_app (goodIn_of _ (by decide +kernel)) ggX10_cycleIn_X10_isMachine
set_option maxRecDepth 20000 in
theorem ggX10_cycleIn_X10_refuse : GoodIn wsX10_cycleIn wsX10_refuse := goodIn_r _ [21, 1, 106, 107, 108, 109, 110, 111, 112] (by decide +kernel) (by decide +kernel)
set_option maxRecDepth 20000 in
theorem gX10_cycleIn_X10_refuse : GoodIn wsX10_cycleIn (wsV RX10 31 RX10 yX10_refuse wsX10_refuse) := goodIn_app (goodIn_of _ (by decide +kernel)) ggX10_cycleIn_X10_refuse
set_option maxRecDepth 20000 in
theorem ggX10_cycleIn_X10_is : GoodIn wsX10_cycleIn wsX10_is := goodIn_r _ [17] (by decide +kernel) (by decide +kernel)
set_option maxRecDepth 20000 in
theorem gX10_cycleIn_X10_is : GoodIn wsX10_cycleIn (va_wsS RX10 27 yX10_is wsX10_is) := goodIn_app (goodIn_of _ (by decide +kernel)) ggX10_cycleIn_X10_is
theorem dX10_cycleIn_0 : decode cX10_cycleIn 0 = .ok (.aload_n 0, 1) := by decide +kernel
theorem dX10_cycleIn_1 : decode cX10_cycleIn 1 = .ok (.iconst 0, 1) := by decide +kernel
theorem dX10_cycleIn_2 : decode cX10_cycleIn 2 = .ok (.putfield 19, 3) := by decide +kernel
theorem dX10_cycleIn_5 : decode cX10_cycleIn 5 = .ok (.aload_n 0, 1) := by decide +kernel
theorem dX10_cycleIn_6 : decode cX10_cycleIn 6 = .ok (.iload_n 1, 1) := by decide +kernel
theorem dX10_cycleIn_7 : decode cX10_cycleIn 7 = .ok (.invokevirtual 44, 3) := by decide +kernel
theorem dX10_cycleIn_10 : decode cX10_cycleIn 10 = .ok (.ifCond .ne 9, 3) := by decide +kernel
theorem dX10_cycleIn_13 : decode cX10_cycleIn 13 = .ok (.aload_n 0, 1) := by decide +kernel
theorem dX10_cycleIn_14 : decode cX10_cycleIn 14 = .ok (.iconst 1, 1) := by decide +kernel
theorem dX10_cycleIn_15 : decode cX10_cycleIn 15 = .ok (.invokevirtual 31, 3) := by decide +kernel
theorem dX10_cycleIn_18 : decode cX10_cycleIn 18 = .ok (.ireturn, 1) := by decide +kernel
theorem dX10_cycleIn_19 : decode cX10_cycleIn 19 = .ok (.iload_n 2, 1) := by decide +kernel
theorem dX10_cycleIn_20 : decode cX10_cycleIn 20 = .ok (.iconst 1, 1) := by decide +kernel
theorem dX10_cycleIn_21 : decode cX10_cycleIn 21 = .ok (.bipush 40, 2) := by decide +kernel
theorem dX10_cycleIn_23 : decode cX10_cycleIn 23 = .ok (.invokestatic 27, 3) := by decide +kernel
theorem dX10_cycleIn_26 : decode cX10_cycleIn 26 = .ok (.ifCond .eq 21, 3) := by decide +kernel
theorem dX10_cycleIn_29 : decode cX10_cycleIn 29 = .ok (.aload_n 0, 1) := by decide +kernel
theorem dX10_cycleIn_30 : decode cX10_cycleIn 30 = .ok (.getfield 10, 3) := by decide +kernel
theorem dX10_cycleIn_33 : decode cX10_cycleIn 33 = .ok (.iload_n 1, 1) := by decide +kernel
theorem dX10_cycleIn_34 : decode cX10_cycleIn 34 = .ok (.invokevirtual 48, 3) := by decide +kernel
theorem dX10_cycleIn_37 : decode cX10_cycleIn 37 = .ok (.checkcast 35, 3) := by decide +kernel
theorem dX10_cycleIn_40 : decode cX10_cycleIn 40 = .ok (.iload_n 2, 1) := by decide +kernel
theorem dX10_cycleIn_41 : decode cX10_cycleIn 41 = .ok (.invokestatic 201, 3) := by decide +kernel
theorem dX10_cycleIn_44 : decode cX10_cycleIn 44 = .ok (.goto 8, 3) := by decide +kernel
theorem dX10_cycleIn_47 : decode cX10_cycleIn 47 = .ok (.aload_n 0, 1) := by decide +kernel
theorem dX10_cycleIn_48 : decode cX10_cycleIn 48 = .ok (.iconst 2, 1) := by decide +kernel
theorem dX10_cycleIn_49 : decode cX10_cycleIn 49 = .ok (.invokevirtual 31, 3) := by decide +kernel
theorem dX10_cycleIn_52 : decode cX10_cycleIn 52 = .ok (.ireturn, 1) := by decide +kernel
set_option maxRecDepth 20000 in
theorem ggX10_backIn_X10_isMachine : GoodIn wsX10_backIn wsX10_isMachine := goodIn_r _ [8, 2, 9, 10, 11, 12, 13, 14, 15, 16, 7, 17, 200, 201, 202, 203, 204, 205, 206, 207, 208, 209] (by decide +kernel) (by decide +kernel)
set_option maxRecDepth 20000 in
theorem gX10_backIn_X10_isMachine : GoodIn wsX10_backIn (wsV RX10 44 RX10 yX10_isMachine wsX10_isMachine) := goodIn_app (goodIn_of _ (by decide +kernel)) ggX10_backIn_X10_isMachine
set_option maxRecDepth 20000 in
theorem ggX10_backIn_X10_refuse : GoodIn wsX10_backIn wsX10_refuse := goodIn_r _ [199, 1, 200, 201, 202, 203, 204, 205, 206] (by decide +kernel) (by decide +kernel)
set_option maxRecDepth 20000 in
theorem gX10_backIn_X10_refuse : GoodIn wsX10_backIn (wsV RX10 31 RX10 yX10_refuse wsX10_refuse) := goodIn_app (goodIn_of _ (by decide +kernel)) ggX10_backIn_X10_refuse
theorem dX10_backIn_0 : decode cX10_backIn 0 = .ok (.aload_n 0, 1) := by decide +kernel
theorem dX10_backIn_1 : decode cX10_backIn 1 = .ok (.iconst 0, 1) := by decide +kernel
theorem dX10_backIn_2 : decode cX10_backIn 2 = .ok (.putfield 19, 3) := by decide +kernel
theorem dX10_backIn_5 : decode cX10_backIn 5 = .ok (.aload_n 0, 1) := by decide +kernel
theorem dX10_backIn_6 : decode cX10_backIn 6 = .ok (.iload_n 1, 1) := by decide +kernel
theorem dX10_backIn_7 : decode cX10_backIn 7 = .ok (.invokevirtual 44, 3) := by decide +kernel
theorem dX10_backIn_10 : decode cX10_backIn 10 = .ok (.ifCond .eq 20, 3) := by decide +kernel
theorem dX10_backIn_13 : decode cX10_backIn 13 = .ok (.aload_n 0, 1) := by decide +kernel
theorem dX10_backIn_14 : decode cX10_backIn 14 = .ok (.getfield 10, 3) := by decide +kernel
theorem dX10_backIn_17 : decode cX10_backIn 17 = .ok (.iload_n 1, 1) := by decide +kernel
theorem dX10_backIn_18 : decode cX10_backIn 18 = .ok (.invokevirtual 48, 3) := by decide +kernel
theorem dX10_backIn_21 : decode cX10_backIn 21 = .ok (.checkcast 35, 3) := by decide +kernel
theorem dX10_backIn_24 : decode cX10_backIn 24 = .ok (.invokestatic 205, 3) := by decide +kernel
theorem dX10_backIn_27 : decode cX10_backIn 27 = .ok (.goto 8, 3) := by decide +kernel
theorem dX10_backIn_30 : decode cX10_backIn 30 = .ok (.aload_n 0, 1) := by decide +kernel
theorem dX10_backIn_31 : decode cX10_backIn 31 = .ok (.iconst 1, 1) := by decide +kernel
theorem dX10_backIn_32 : decode cX10_backIn 32 = .ok (.invokevirtual 31, 3) := by decide +kernel
theorem dX10_backIn_35 : decode cX10_backIn 35 = .ok (.ireturn, 1) := by decide +kernel
set_option maxRecDepth 20000 in
theorem ggX10_gramIn_X10_isMachine : GoodIn wsX10_gramIn wsX10_isMachine := goodIn_r _ [8, 2, 9, 10, 11, 12, 13, 14, 15, 16, 7, 17, 47, 48, 49, 50, 51, 52, 53, 54, 55, 56] (by decide +kernel) (by decide +kernel)
set_option maxRecDepth 20000 in
theorem gX10_gramIn_X10_isMachine : GoodIn wsX10_gramIn (wsV RX10 44 RX10 yX10_isMachine wsX10_isMachine) := goodIn_app (goodIn_of _ (by decide +kernel)) ggX10_gramIn_X10_isMachine
set_option maxRecDepth 20000 in
theorem ggX10_gramIn_X10_refuse : GoodIn wsX10_gramIn wsX10_refuse := goodIn_r _ [46, 1, 47, 48, 49, 50, 51, 52, 53] (by decide +kernel) (by decide +kernel)
set_option maxRecDepth 20000 in
theorem gX10_gramIn_X10_refuse : GoodIn wsX10_gramIn (wsV RX10 31 RX10 yX10_refuse wsX10_refuse) := goodIn_app (goodIn_of _ (by decide +kernel)) ggX10_gramIn_X10_refuse
theorem dX10_gramIn_0 : decode cX10_gramIn 0 = .ok (.aload_n 0, 1) := by decide +kernel
theorem dX10_gramIn_1 : decode cX10_gramIn 1 = .ok (.iconst 0, 1) := by decide +kernel
theorem dX10_gramIn_2 : decode cX10_gramIn 2 = .ok (.putfield 19, 3) := by decide +kernel
theorem dX10_gramIn_5 : decode cX10_gramIn 5 = .ok (.aload_n 0, 1) := by decide +kernel
theorem dX10_gramIn_6 : decode cX10_gramIn 6 = .ok (.iload_n 1, 1) := by decide +kernel
theorem dX10_gramIn_7 : decode cX10_gramIn 7 = .ok (.invokevirtual 44, 3) := by decide +kernel
theorem dX10_gramIn_10 : decode cX10_gramIn 10 = .ok (.ifCond .eq 20, 3) := by decide +kernel
theorem dX10_gramIn_13 : decode cX10_gramIn 13 = .ok (.aload_n 0, 1) := by decide +kernel
theorem dX10_gramIn_14 : decode cX10_gramIn 14 = .ok (.getfield 10, 3) := by decide +kernel
theorem dX10_gramIn_17 : decode cX10_gramIn 17 = .ok (.iload_n 1, 1) := by decide +kernel
theorem dX10_gramIn_18 : decode cX10_gramIn 18 = .ok (.invokevirtual 48, 3) := by decide +kernel
theorem dX10_gramIn_21 : decode cX10_gramIn 21 = .ok (.checkcast 35, 3) := by decide +kernel
theorem dX10_gramIn_24 : decode cX10_gramIn 24 = .ok (.invokestatic 208, 3) := by decide +kernel
theorem dX10_gramIn_27 : decode cX10_gramIn 27 = .ok (.goto 8, 3) := by decide +kernel
theorem dX10_gramIn_30 : decode cX10_gramIn 30 = .ok (.aload_n 0, 1) := by decide +kernel
theorem dX10_gramIn_31 : decode cX10_gramIn 31 = .ok (.iconst 1, 1) := by decide +kernel
theorem dX10_gramIn_32 : decode cX10_gramIn 32 = .ok (.invokevirtual 31, 3) := by decide +kernel
theorem dX10_gramIn_35 : decode cX10_gramIn 35 = .ok (.ireturn, 1) := by decide +kernel
theorem dX10_add_0 : decode cX10_add 0 = .ok (.aload_n 0, 1) := by decide +kernel
theorem dX10_add_1 : decode cX10_add 1 = .ok (.aload_n 0, 1) := by decide +kernel
theorem dX10_add_2 : decode cX10_add 2 = .ok (.getfield 261, 3) := by decide +kernel
theorem dX10_add_5 : decode cX10_add 5 = .ok (.ldc2_w 265, 3) := by decide +kernel
theorem dX10_add_8 : decode cX10_add 8 = .ok (.lmul, 1) := by decide +kernel
theorem dX10_add_9 : decode cX10_add 9 = .ok (.iload_n 1, 1) := by decide +kernel
theorem dX10_add_10 : decode cX10_add 10 = .ok (.i2l, 1) := by decide +kernel
theorem dX10_add_11 : decode cX10_add 11 = .ok (.ladd, 1) := by decide +kernel
theorem dX10_add_12 : decode cX10_add 12 = .ok (.putfield 261, 3) := by decide +kernel
theorem dX10_add_15 : decode cX10_add 15 = .ok (.return_, 1) := by decide +kernel
set_option maxRecDepth 20000 in
theorem ggX10_digest_X10_manyNow : GoodIn wsX10_digest wsX10_manyNow := goodIn_r _ [11, 12, 4, 5, 6, 13, 14, 15, 16, 17, 18, 19, 20, 21, 22, 23, 24, 25, 26, 27, 28, 29, 30, 31, 32, 33, 34, 35, 36, 37, 38, 39, 40, 41, 42, 43, 44, 45, 46, 47, 48, 49, 50, 51, 52, 53, 54, 55, 56, 57, 58, 59, 276, 277, 278, 279, 280, 281, 282, 283, 284, 285, 286, 287, 288, 289, 290, 291, 292, 293, 294] (by decide +kernel) (by decide +kernel)
set_option maxRecDepth 20000 in
theorem gX10_digest_X10_manyNow : GoodIn wsX10_digest (wsV RX10 258 RX10 yX10_manyNow wsX10_manyNow) := goodIn_app (goodIn_of _ (by decide +kernel)) ggX10_digest_X10_manyNow
set_option maxRecDepth 20000 in
theorem ggX10_digest_X10_add : GoodIn wsX10_digest wsX10_add := goodIn_r _ [63, 3, 64, 276, 277, 278, 279, 280, 281, 282] (by decide +kernel) (by decide +kernel)
set_option maxRecDepth 20000 in
theorem gX10_digest_X10_add : GoodIn wsX10_digest (wsV RX10 269 RX10 yX10_add wsX10_add) := goodIn_app (goodIn_of _ (by decide +kernel)) ggX10_digest_X10_add
set_option maxRecDepth 20000 in
theorem ggX10_digest_Jx4a65c_iterator_32c93 : GoodIn wsX10_digest wsJx4a65c_iterator_32c93 := goodIn_r _ [20, 21, 22, 23, 24, 25, 26, 27, 28, 29, 30, 31, 32, 33, 34, 288, 289, 290, 291, 292, 293, 294] (by decide +kernel) (by decide +kernel)
set_option maxRecDepth 20000 in
theorem gX10_digest_Jx4a65c_iterator_32c93 : GoodIn wsX10_digest (wsV RX10 158 RJx4a65c yJx4a65c_iterator_32c93 wsJx4a65c_iterator_32c93) := goodIn_app (goodIn_of _ (by decide +kernel)) ggX10_digest_Jx4a65c_iterator_32c93
set_option maxRecDepth 20000 in
theorem ggX10_digest_Jx35411_hasNext_aae02 : GoodIn wsX10_digest wsJx35411_hasNext_aae02 := goodIn_r _ [38, 39, 27, 288, 289, 290, 291, 292, 293, 294] (by decide +kernel) (by decide +kernel)
set_option maxRecDepth 20000 in
theorem gX10_digest_Jx35411_hasNext_aae02_f162Jx35411 : GoodIn wsX10_digest (va_wsF RX10 162 RJx35411 ⟨"java/util/Iterator", "hasNext", "()Z"⟩ yJx35411_hasNext_aae02 wsJx35411_hasNext_aae02) := goodIn_app (goodIn_of _ (by decide +kernel)) ggX10_digest_Jx35411_hasNext_aae02
set_option maxRecDepth 20000 in
theorem ggX10_digest_Jx4a65c_size_8abf5 : GoodIn wsX10_digest wsJx4a65c_size_8abf5 := goodIn_r _ [58, 59, 292, 293, 294] (by decide +kernel) (by decide +kernel)
set_option maxRecDepth 20000 in
theorem gX10_digest_Jx4a65c_size_8abf5 : GoodIn wsX10_digest (wsV RX10 23 RJx4a65c yJx4a65c_size_8abf5 wsJx4a65c_size_8abf5) := goodIn_app (goodIn_of _ (by decide +kernel)) ggX10_digest_Jx4a65c_size_8abf5
set_option maxRecDepth 20000 in
theorem ggX10_digest_X10_championNow : GoodIn wsX10_digest wsX10_championNow := goodIn_r _ [275, 4, 5, 55, 56, 57, 19, 58, 59, 248, 249, 250, 251, 252, 253, 254, 255, 256, 257, 258, 259, 260, 261, 262, 263, 176, 65, 66, 67, 10, 68, 12, 69, 70, 71, 72, 73, 74, 75, 76, 77, 78, 79, 52, 80, 81, 82, 83, 84, 85, 86, 87, 29, 30, 88, 89, 90, 91, 92, 93, 94, 95, 96, 97, 98, 99, 100, 101, 102, 103, 104, 105, 106, 107, 108, 109, 110, 111, 112, 113, 114, 115, 116, 117, 118, 119, 120, 121, 54, 122, 123, 124, 125, 126, 127, 128, 129, 49, 50, 51, 53, 130, 131, 132, 133, 134, 135, 136, 137, 138, 139, 140, 276, 277, 278, 279, 280, 281, 282, 283, 284, 285, 286, 287, 292, 293, 294, 295, 296, 297, 298, 299, 300, 301, 302] (by decide +kernel) (by decide +kernel)
set_option maxRecDepth 20000 in
theorem gX10_digest_X10_championNow : GoodIn wsX10_digest (wsV RX10 243 RX10 yX10_championNow wsX10_championNow) := goodIn_app (goodIn_of _ (by decide +kernel)) ggX10_digest_X10_championNow
theorem dX10_digest_0 : decode cX10_digest 0 = .ok (.aload_n 0, 1) := by decide +kernel
theorem dX10_digest_1 : decode cX10_digest 1 = .ok (.iconst 0, 1) := by decide +kernel
theorem dX10_digest_2 : decode cX10_digest 2 = .ok (.putfield 19, 3) := by decide +kernel
theorem dX10_digest_5 : decode cX10_digest 5 = .ok (.aload_n 0, 1) := by decide +kernel
theorem dX10_digest_6 : decode cX10_digest 6 = .ok (.ldc2_w 267, 3) := by decide +kernel
theorem dX10_digest_9 : decode cX10_digest 9 = .ok (.putfield 261, 3) := by decide +kernel
theorem dX10_digest_12 : decode cX10_digest 12 = .ok (.iconst 0, 1) := by decide +kernel
theorem dX10_digest_13 : decode cX10_digest 13 = .ok (.istore_n 1, 1) := by decide +kernel
theorem dX10_digest_14 : decode cX10_digest 14 = .ok (.iload_n 1, 1) := by decide +kernel
theorem dX10_digest_15 : decode cX10_digest 15 = .ok (.bipush 11, 2) := by decide +kernel
theorem dX10_digest_17 : decode cX10_digest 17 = .ok (.if_icmp .ge 18, 3) := by decide +kernel
theorem dX10_digest_20 : decode cX10_digest 20 = .ok (.aload_n 0, 1) := by decide +kernel
theorem dX10_digest_21 : decode cX10_digest 21 = .ok (.aload_n 0, 1) := by decide +kernel
theorem dX10_digest_22 : decode cX10_digest 22 = .ok (.iload_n 1, 1) := by decide +kernel
theorem dX10_digest_23 : decode cX10_digest 23 = .ok (.invokevirtual 258, 3) := by decide +kernel
theorem dX10_digest_26 : decode cX10_digest 26 = .ok (.invokevirtual 269, 3) := by decide +kernel
theorem dX10_digest_29 : decode cX10_digest 29 = .ok (.iinc 1 1, 3) := by decide +kernel
theorem dX10_digest_32 : decode cX10_digest 32 = .ok (.goto (-18), 3) := by decide +kernel
theorem dX10_digest_35 : decode cX10_digest 35 = .ok (.aload_n 0, 1) := by decide +kernel
theorem dX10_digest_36 : decode cX10_digest 36 = .ok (.getfield 10, 3) := by decide +kernel
theorem dX10_digest_39 : decode cX10_digest 39 = .ok (.invokevirtual 158, 3) := by decide +kernel
theorem dX10_digest_42 : decode cX10_digest 42 = .ok (.astore_n 1, 1) := by decide +kernel
theorem dX10_digest_43 : decode cX10_digest 43 = .ok (.aload_n 1, 1) := by decide +kernel
theorem dX10_digest_44 : decode cX10_digest 44 = .ok (.invokeinterface 162 1, 5) := by decide +kernel
theorem dX10_digest_49 : decode cX10_digest 49 = .ok (.ifCond .eq 139, 3) := by decide +kernel
theorem dX10_digest_52 : decode cX10_digest 52 = .ok (.aload_n 1, 1) := by decide +kernel
theorem dX10_digest_53 : decode cX10_digest 53 = .ok (.invokeinterface 167 1, 5) := by decide +kernel
theorem dX10_digest_58 : decode cX10_digest 58 = .ok (.checkcast 35, 3) := by decide +kernel
theorem dX10_digest_61 : decode cX10_digest 61 = .ok (.astore_n 2, 1) := by decide +kernel
theorem dX10_digest_62 : decode cX10_digest 62 = .ok (.iconst 0, 1) := by decide +kernel
theorem dX10_digest_63 : decode cX10_digest 63 = .ok (.istore_n 3, 1) := by decide +kernel
theorem dX10_digest_64 : decode cX10_digest 64 = .ok (.iload_n 3, 1) := by decide +kernel
theorem dX10_digest_65 : decode cX10_digest 65 = .ok (.bipush 9, 2) := by decide +kernel
theorem dX10_digest_67 : decode cX10_digest 67 = .ok (.if_icmp .ge 19, 3) := by decide +kernel
theorem dX10_digest_70 : decode cX10_digest 70 = .ok (.aload_n 0, 1) := by decide +kernel
theorem dX10_digest_71 : decode cX10_digest 71 = .ok (.aload_n 0, 1) := by decide +kernel
theorem dX10_digest_72 : decode cX10_digest 72 = .ok (.aload_n 2, 1) := by decide +kernel
theorem dX10_digest_73 : decode cX10_digest 73 = .ok (.iload_n 3, 1) := by decide +kernel
theorem dX10_digest_74 : decode cX10_digest 74 = .ok (.invokevirtual 221, 3) := by decide +kernel
theorem dX10_digest_77 : decode cX10_digest 77 = .ok (.invokevirtual 269, 3) := by decide +kernel
theorem dX10_digest_80 : decode cX10_digest 80 = .ok (.iinc 3 1, 3) := by decide +kernel
theorem dX10_digest_83 : decode cX10_digest 83 = .ok (.goto (-19), 3) := by decide +kernel
theorem dX10_digest_86 : decode cX10_digest 86 = .ok (.iconst 0, 1) := by decide +kernel
theorem dX10_digest_87 : decode cX10_digest 87 = .ok (.istore_n 3, 1) := by decide +kernel
theorem dX10_digest_88 : decode cX10_digest 88 = .ok (.iload_n 3, 1) := by decide +kernel
theorem dX10_digest_89 : decode cX10_digest 89 = .ok (.aload_n 2, 1) := by decide +kernel
theorem dX10_digest_90 : decode cX10_digest 90 = .ok (.getfield 59, 3) := by decide +kernel
theorem dX10_digest_93 : decode cX10_digest 93 = .ok (.arraylength, 1) := by decide +kernel
theorem dX10_digest_94 : decode cX10_digest 94 = .ok (.if_icmp .ge 40, 3) := by decide +kernel
theorem dX10_digest_97 : decode cX10_digest 97 = .ok (.iconst 0, 1) := by decide +kernel
theorem dX10_digest_98 : decode cX10_digest 98 = .ok (.istore 4, 2) := by decide +kernel
theorem dX10_digest_100 : decode cX10_digest 100 = .ok (.iload 4, 2) := by decide +kernel
theorem dX10_digest_102 : decode cX10_digest 102 = .ok (.iconst 3, 1) := by decide +kernel
theorem dX10_digest_103 : decode cX10_digest 103 = .ok (.if_icmp .ge 25, 3) := by decide +kernel
theorem dX10_digest_106 : decode cX10_digest 106 = .ok (.aload_n 0, 1) := by decide +kernel
theorem dX10_digest_107 : decode cX10_digest 107 = .ok (.aload_n 2, 1) := by decide +kernel
theorem dX10_digest_108 : decode cX10_digest 108 = .ok (.iload_n 3, 1) := by decide +kernel
theorem dX10_digest_109 : decode cX10_digest 109 = .ok (.iconst 2, 1) := by decide +kernel
theorem dX10_digest_110 : decode cX10_digest 110 = .ok (.idiv, 1) := by decide +kernel
theorem dX10_digest_111 : decode cX10_digest 111 = .ok (.iload_n 3, 1) := by decide +kernel
theorem dX10_digest_112 : decode cX10_digest 112 = .ok (.iconst 2, 1) := by decide +kernel
theorem dX10_digest_113 : decode cX10_digest 113 = .ok (.irem, 1) := by decide +kernel
theorem dX10_digest_114 : decode cX10_digest 114 = .ok (.iload 4, 2) := by decide +kernel
theorem dX10_digest_116 : decode cX10_digest 116 = .ok (.invokestatic 211, 3) := by decide +kernel
theorem dX10_digest_119 : decode cX10_digest 119 = .ok (.invokevirtual 269, 3) := by decide +kernel
theorem dX10_digest_122 : decode cX10_digest 122 = .ok (.iinc 4 1, 3) := by decide +kernel
theorem dX10_digest_125 : decode cX10_digest 125 = .ok (.goto (-25), 3) := by decide +kernel
theorem dX10_digest_128 : decode cX10_digest 128 = .ok (.iinc 3 1, 3) := by decide +kernel
theorem dX10_digest_131 : decode cX10_digest 131 = .ok (.goto (-43), 3) := by decide +kernel
theorem dX10_digest_134 : decode cX10_digest 134 = .ok (.aload_n 2, 1) := by decide +kernel
theorem dX10_digest_135 : decode cX10_digest 135 = .ok (.bipush 40, 2) := by decide +kernel
theorem dX10_digest_137 : decode cX10_digest 137 = .ok (.invokevirtual 81, 3) := by decide +kernel
theorem dX10_digest_140 : decode cX10_digest 140 = .ok (.astore_n 3, 1) := by decide +kernel
theorem dX10_digest_141 : decode cX10_digest 141 = .ok (.iconst 0, 1) := by decide +kernel
theorem dX10_digest_142 : decode cX10_digest 142 = .ok (.istore 4, 2) := by decide +kernel
theorem dX10_digest_144 : decode cX10_digest 144 = .ok (.iload 4, 2) := by decide +kernel
theorem dX10_digest_146 : decode cX10_digest 146 = .ok (.bipush 8, 2) := by decide +kernel
theorem dX10_digest_148 : decode cX10_digest 148 = .ok (.if_icmp .ge 19, 3) := by decide +kernel
theorem dX10_digest_151 : decode cX10_digest 151 = .ok (.aload_n 0, 1) := by decide +kernel
theorem dX10_digest_152 : decode cX10_digest 152 = .ok (.aload_n 3, 1) := by decide +kernel
theorem dX10_digest_153 : decode cX10_digest 153 = .ok (.iload 4, 2) := by decide +kernel
theorem dX10_digest_155 : decode cX10_digest 155 = .ok (.invokestatic 233, 3) := by decide +kernel
theorem dX10_digest_158 : decode cX10_digest 158 = .ok (.invokevirtual 269, 3) := by decide +kernel
theorem dX10_digest_161 : decode cX10_digest 161 = .ok (.iinc 4 1, 3) := by decide +kernel
theorem dX10_digest_164 : decode cX10_digest 164 = .ok (.goto (-20), 3) := by decide +kernel
theorem dX10_digest_167 : decode cX10_digest 167 = .ok (.aload_n 0, 1) := by decide +kernel
theorem dX10_digest_168 : decode cX10_digest 168 = .ok (.aload_n 2, 1) := by decide +kernel
theorem dX10_digest_169 : decode cX10_digest 169 = .ok (.bipush 8, 2) := by decide +kernel
theorem dX10_digest_171 : decode cX10_digest 171 = .ok (.invokestatic 201, 3) := by decide +kernel
theorem dX10_digest_174 : decode cX10_digest 174 = .ok (.invokevirtual 269, 3) := by decide +kernel
theorem dX10_digest_177 : decode cX10_digest 177 = .ok (.aload_n 0, 1) := by decide +kernel
theorem dX10_digest_178 : decode cX10_digest 178 = .ok (.aload_n 2, 1) := by decide +kernel
theorem dX10_digest_179 : decode cX10_digest 179 = .ok (.invokestatic 205, 3) := by decide +kernel
theorem dX10_digest_182 : decode cX10_digest 182 = .ok (.invokevirtual 269, 3) := by decide +kernel
theorem dX10_digest_185 : decode cX10_digest 185 = .ok (.goto (-142), 3) := by decide +kernel
theorem dX10_digest_188 : decode cX10_digest 188 = .ok (.iconst 0, 1) := by decide +kernel
theorem dX10_digest_189 : decode cX10_digest 189 = .ok (.istore_n 1, 1) := by decide +kernel
theorem dX10_digest_190 : decode cX10_digest 190 = .ok (.iload_n 1, 1) := by decide +kernel
theorem dX10_digest_191 : decode cX10_digest 191 = .ok (.aload_n 0, 1) := by decide +kernel
theorem dX10_digest_192 : decode cX10_digest 192 = .ok (.getfield 16, 3) := by decide +kernel
theorem dX10_digest_195 : decode cX10_digest 195 = .ok (.invokevirtual 23, 3) := by decide +kernel
theorem dX10_digest_198 : decode cX10_digest 198 = .ok (.if_icmp .ge 22, 3) := by decide +kernel
theorem dX10_digest_201 : decode cX10_digest 201 = .ok (.aload_n 0, 1) := by decide +kernel
theorem dX10_digest_202 : decode cX10_digest 202 = .ok (.aload_n 0, 1) := by decide +kernel
theorem dX10_digest_203 : decode cX10_digest 203 = .ok (.iload_n 1, 1) := by decide +kernel
theorem dX10_digest_204 : decode cX10_digest 204 = .ok (.bipush 10, 2) := by decide +kernel
theorem dX10_digest_206 : decode cX10_digest 206 = .ok (.bipush 9, 2) := by decide +kernel
theorem dX10_digest_208 : decode cX10_digest 208 = .ok (.invokevirtual 254, 3) := by decide +kernel
theorem dX10_digest_211 : decode cX10_digest 211 = .ok (.invokevirtual 269, 3) := by decide +kernel
theorem dX10_digest_214 : decode cX10_digest 214 = .ok (.iinc 1 1, 3) := by decide +kernel
theorem dX10_digest_217 : decode cX10_digest 217 = .ok (.goto (-27), 3) := by decide +kernel
theorem dX10_digest_220 : decode cX10_digest 220 = .ok (.aload_n 0, 1) := by decide +kernel
theorem dX10_digest_221 : decode cX10_digest 221 = .ok (.aload_n 0, 1) := by decide +kernel
theorem dX10_digest_222 : decode cX10_digest 222 = .ok (.iconst 0, 1) := by decide +kernel
theorem dX10_digest_223 : decode cX10_digest 223 = .ok (.invokevirtual 243, 3) := by decide +kernel
theorem dX10_digest_226 : decode cX10_digest 226 = .ok (.invokevirtual 269, 3) := by decide +kernel
theorem dX10_digest_229 : decode cX10_digest 229 = .ok (.aload_n 0, 1) := by decide +kernel
theorem dX10_digest_230 : decode cX10_digest 230 = .ok (.aload_n 0, 1) := by decide +kernel
theorem dX10_digest_231 : decode cX10_digest 231 = .ok (.iconst 1, 1) := by decide +kernel
theorem dX10_digest_232 : decode cX10_digest 232 = .ok (.invokevirtual 243, 3) := by decide +kernel
theorem dX10_digest_235 : decode cX10_digest 235 = .ok (.invokevirtual 269, 3) := by decide +kernel
theorem dX10_digest_238 : decode cX10_digest 238 = .ok (.aload_n 0, 1) := by decide +kernel
theorem dX10_digest_239 : decode cX10_digest 239 = .ok (.getfield 261, 3) := by decide +kernel
theorem dX10_digest_242 : decode cX10_digest 242 = .ok (.lreturn, 1) := by decide +kernel
theorem dJ9_max_7cf53_0 : decode cJ9_max_7cf53 0 = .ok (.iload_n 0, 1) := by decide +kernel
theorem dJ9_max_7cf53_1 : decode cJ9_max_7cf53 1 = .ok (.iload_n 1, 1) := by decide +kernel
theorem dJ9_max_7cf53_2 : decode cJ9_max_7cf53 2 = .ok (.if_icmp .lt 7, 3) := by decide +kernel
theorem dJ9_max_7cf53_5 : decode cJ9_max_7cf53 5 = .ok (.iload_n 0, 1) := by decide +kernel
theorem dJ9_max_7cf53_6 : decode cJ9_max_7cf53 6 = .ok (.goto 4, 3) := by decide +kernel
theorem dJ9_max_7cf53_9 : decode cJ9_max_7cf53 9 = .ok (.iload_n 1, 1) := by decide +kernel
theorem dJ9_max_7cf53_10 : decode cJ9_max_7cf53 10 = .ok (.ireturn, 1) := by decide +kernel
theorem dJxa1e45_init_da8c8_0 : decode cJxa1e45_init_da8c8 0 = .ok (.aload_n 0, 1) := by decide +kernel
theorem dJxa1e45_init_da8c8_1 : decode cJxa1e45_init_da8c8 1 = .ok (.invokespecial 1, 3) := by decide +kernel
theorem dJxa1e45_init_da8c8_4 : decode cJxa1e45_init_da8c8 4 = .ok (.return_, 1) := by decide +kernel
set_option maxRecDepth 20000 in
theorem ggJxc12de_init_da8c8_Jxa1e45_init_da8c8 : GoodIn wsJxc12de_init_da8c8 wsJxa1e45_init_da8c8 := goodIn_r _ [5, 6, 7, 8] (by decide +kernel) (by decide +kernel)
set_option maxRecDepth 20000 in
theorem gJxc12de_init_da8c8_Jxa1e45_init_da8c8 : GoodIn wsJxc12de_init_da8c8 (wsJxa1e45_init_da8c8) := ggJxc12de_init_da8c8_Jxa1e45_init_da8c8
theorem dJxc12de_init_da8c8_0 : decode cJxc12de_init_da8c8 0 = .ok (.aload_n 0, 1) := by decide +kernel
theorem dJxc12de_init_da8c8_1 : decode cJxc12de_init_da8c8 1 = .ok (.invokespecial 1, 3) := by decide +kernel
theorem dJxc12de_init_da8c8_4 : decode cJxc12de_init_da8c8 4 = .ok (.aload_n 0, 1) := by decide +kernel
theorem dJxc12de_init_da8c8_5 : decode cJxc12de_init_da8c8 5 = .ok (.iconst 0, 1) := by decide +kernel
theorem dJxc12de_init_da8c8_6 : decode cJxc12de_init_da8c8 6 = .ok (.putfield 7, 3) := by decide +kernel
theorem dJxc12de_init_da8c8_9 : decode cJxc12de_init_da8c8 9 = .ok (.return_, 1) := by decide +kernel
theorem dJx35411_init_45d68_0 : decode cJx35411_init_45d68 0 = .ok (.aload_n 0, 1) := by decide +kernel
theorem dJx35411_init_45d68_1 : decode cJx35411_init_45d68 1 = .ok (.aload_n 1, 1) := by decide +kernel
theorem dJx35411_init_45d68_2 : decode cJx35411_init_45d68 2 = .ok (.putfield 1, 3) := by decide +kernel
theorem dJx35411_init_45d68_5 : decode cJx35411_init_45d68 5 = .ok (.aload_n 0, 1) := by decide +kernel
theorem dJx35411_init_45d68_6 : decode cJx35411_init_45d68 6 = .ok (.invokespecial 7, 3) := by decide +kernel
theorem dJx35411_init_45d68_9 : decode cJx35411_init_45d68 9 = .ok (.aload_n 0, 1) := by decide +kernel
theorem dJx35411_init_45d68_10 : decode cJx35411_init_45d68 10 = .ok (.iconst (-1), 1) := by decide +kernel
theorem dJx35411_init_45d68_11 : decode cJx35411_init_45d68 11 = .ok (.putfield 13, 3) := by decide +kernel
theorem dJx35411_init_45d68_14 : decode cJx35411_init_45d68 14 = .ok (.aload_n 0, 1) := by decide +kernel
theorem dJx35411_init_45d68_15 : decode cJx35411_init_45d68 15 = .ok (.aload_n 0, 1) := by decide +kernel
theorem dJx35411_init_45d68_16 : decode cJx35411_init_45d68 16 = .ok (.getfield 1, 3) := by decide +kernel
theorem dJx35411_init_45d68_19 : decode cJx35411_init_45d68 19 = .ok (.getfield 17, 3) := by decide +kernel
theorem dJx35411_init_45d68_22 : decode cJx35411_init_45d68 22 = .ok (.putfield 22, 3) := by decide +kernel
theorem dJx35411_init_45d68_25 : decode cJx35411_init_45d68 25 = .ok (.return_, 1) := by decide +kernel
theorem dJx35411_hasNext_aae02_0 : decode cJx35411_hasNext_aae02 0 = .ok (.aload_n 0, 1) := by decide +kernel
theorem dJx35411_hasNext_aae02_1 : decode cJx35411_hasNext_aae02 1 = .ok (.getfield 25, 3) := by decide +kernel
theorem dJx35411_hasNext_aae02_4 : decode cJx35411_hasNext_aae02 4 = .ok (.aload_n 0, 1) := by decide +kernel
theorem dJx35411_hasNext_aae02_5 : decode cJx35411_hasNext_aae02 5 = .ok (.getfield 1, 3) := by decide +kernel
theorem dJx35411_hasNext_aae02_8 : decode cJx35411_hasNext_aae02 8 = .ok (.getfield 28, 3) := by decide +kernel
theorem dJx35411_hasNext_aae02_11 : decode cJx35411_hasNext_aae02 11 = .ok (.if_icmp .eq 7, 3) := by decide +kernel
theorem dJx35411_hasNext_aae02_14 : decode cJx35411_hasNext_aae02 14 = .ok (.iconst 1, 1) := by decide +kernel
theorem dJx35411_hasNext_aae02_15 : decode cJx35411_hasNext_aae02 15 = .ok (.goto 4, 3) := by decide +kernel
theorem dJx35411_hasNext_aae02_18 : decode cJx35411_hasNext_aae02 18 = .ok (.iconst 0, 1) := by decide +kernel
theorem dJx35411_hasNext_aae02_19 : decode cJx35411_hasNext_aae02 19 = .ok (.ireturn, 1) := by decide +kernel
set_option maxRecDepth 20000 in
theorem ggJx4a65c_init_da8c8_Jxc12de_init_da8c8 : GoodIn wsJx4a65c_init_da8c8 wsJxc12de_init_da8c8 := goodIn_r _ [6, 7, 8, 9, 10, 11, 12, 13, 14, 15, 16, 17] (by decide +kernel) (by decide +kernel)
set_option maxRecDepth 20000 in
theorem gJx4a65c_init_da8c8_Jxc12de_init_da8c8 : GoodIn wsJx4a65c_init_da8c8 (wsJxc12de_init_da8c8) := ggJx4a65c_init_da8c8_Jxc12de_init_da8c8
theorem dJx4a65c_init_da8c8_0 : decode cJx4a65c_init_da8c8 0 = .ok (.aload_n 0, 1) := by decide +kernel
theorem dJx4a65c_init_da8c8_1 : decode cJx4a65c_init_da8c8 1 = .ok (.invokespecial 1, 3) := by decide +kernel
theorem dJx4a65c_init_da8c8_4 : decode cJx4a65c_init_da8c8 4 = .ok (.aload_n 0, 1) := by decide +kernel
theorem dJx4a65c_init_da8c8_5 : decode cJx4a65c_init_da8c8 5 = .ok (.getstatic 39, 3) := by decide +kernel
theorem dJx4a65c_init_da8c8_8 : decode cJx4a65c_init_da8c8 8 = .ok (.putfield 9, 3) := by decide +kernel
theorem dJx4a65c_init_da8c8_11 : decode cJx4a65c_init_da8c8 11 = .ok (.return_, 1) := by decide +kernel
theorem dJx4a65c_grow_92f84_0 : decode cJx4a65c_grow_92f84 0 = .ok (.aload_n 0, 1) := by decide +kernel
theorem dJx4a65c_grow_92f84_1 : decode cJx4a65c_grow_92f84 1 = .ok (.getfield 9, 3) := by decide +kernel
theorem dJx4a65c_grow_92f84_4 : decode cJx4a65c_grow_92f84 4 = .ok (.arraylength, 1) := by decide +kernel
theorem dJx4a65c_grow_92f84_5 : decode cJx4a65c_grow_92f84 5 = .ok (.istore_n 2, 1) := by decide +kernel
theorem dJx4a65c_grow_92f84_6 : decode cJx4a65c_grow_92f84 6 = .ok (.iload_n 2, 1) := by decide +kernel
theorem dJx4a65c_grow_92f84_7 : decode cJx4a65c_grow_92f84 7 = .ok (.ifCond .gt 13, 3) := by decide +kernel
theorem dJx4a65c_grow_92f84_10 : decode cJx4a65c_grow_92f84 10 = .ok (.aload_n 0, 1) := by decide +kernel
theorem dJx4a65c_grow_92f84_11 : decode cJx4a65c_grow_92f84 11 = .ok (.getfield 9, 3) := by decide +kernel
theorem dJx4a65c_grow_92f84_14 : decode cJx4a65c_grow_92f84 14 = .ok (.getstatic 39, 3) := by decide +kernel
theorem dJx4a65c_grow_92f84_17 : decode cJx4a65c_grow_92f84 17 = .ok (.if_acmp .eq 28, 3) := by decide +kernel
theorem dJx4a65c_grow_92f84_20 : decode cJx4a65c_grow_92f84 20 = .ok (.iload_n 2, 1) := by decide +kernel
theorem dJx4a65c_grow_92f84_21 : decode cJx4a65c_grow_92f84 21 = .ok (.iload_n 1, 1) := by decide +kernel
theorem dJx4a65c_grow_92f84_22 : decode cJx4a65c_grow_92f84 22 = .ok (.iload_n 2, 1) := by decide +kernel
theorem dJx4a65c_grow_92f84_23 : decode cJx4a65c_grow_92f84 23 = .ok (.isub, 1) := by decide +kernel
theorem dJx4a65c_grow_92f84_24 : decode cJx4a65c_grow_92f84 24 = .ok (.iload_n 2, 1) := by decide +kernel
theorem dJx4a65c_grow_92f84_25 : decode cJx4a65c_grow_92f84 25 = .ok (.iconst 1, 1) := by decide +kernel
theorem dJx4a65c_grow_92f84_26 : decode cJx4a65c_grow_92f84 26 = .ok (.ishr, 1) := by decide +kernel
theorem dJx4a65c_grow_92f84_27 : decode cJx4a65c_grow_92f84 27 = .ok (.invokestatic 73, 3) := by decide +kernel
theorem dJx4a65c_grow_92f84_30 : decode cJx4a65c_grow_92f84 30 = .ok (.istore_n 3, 1) := by decide +kernel
theorem dJx4a65c_grow_92f84_31 : decode cJx4a65c_grow_92f84 31 = .ok (.aload_n 0, 1) := by decide +kernel
theorem dJx4a65c_grow_92f84_32 : decode cJx4a65c_grow_92f84 32 = .ok (.aload_n 0, 1) := by decide +kernel
theorem dJx4a65c_grow_92f84_33 : decode cJx4a65c_grow_92f84 33 = .ok (.getfield 9, 3) := by decide +kernel
theorem dJx4a65c_grow_92f84_36 : decode cJx4a65c_grow_92f84 36 = .ok (.iload_n 3, 1) := by decide +kernel
theorem dJx4a65c_grow_92f84_37 : decode cJx4a65c_grow_92f84 37 = .ok (.invokestatic 66, 3) := by decide +kernel
theorem dJx4a65c_grow_92f84_40 : decode cJx4a65c_grow_92f84 40 = .ok (.dup_x1, 1) := by decide +kernel
theorem dJx4a65c_grow_92f84_41 : decode cJx4a65c_grow_92f84 41 = .ok (.putfield 9, 3) := by decide +kernel
theorem dJx4a65c_grow_92f84_44 : decode cJx4a65c_grow_92f84 44 = .ok (.areturn, 1) := by decide +kernel
theorem dJx4a65c_grow_92f84_45 : decode cJx4a65c_grow_92f84 45 = .ok (.aload_n 0, 1) := by decide +kernel
theorem dJx4a65c_grow_92f84_46 : decode cJx4a65c_grow_92f84 46 = .ok (.bipush 10, 2) := by decide +kernel
theorem dJx4a65c_grow_92f84_48 : decode cJx4a65c_grow_92f84 48 = .ok (.iload_n 1, 1) := by decide +kernel
theorem dJx4a65c_grow_92f84_49 : decode cJx4a65c_grow_92f84 49 = .ok (.invokestatic 79, 3) := by decide +kernel
theorem dJx4a65c_grow_92f84_52 : decode cJx4a65c_grow_92f84 52 = .ok (.anewarray 7, 3) := by decide +kernel
theorem dJx4a65c_grow_92f84_55 : decode cJx4a65c_grow_92f84 55 = .ok (.dup_x1, 1) := by decide +kernel
theorem dJx4a65c_grow_92f84_56 : decode cJx4a65c_grow_92f84 56 = .ok (.putfield 9, 3) := by decide +kernel
theorem dJx4a65c_grow_92f84_59 : decode cJx4a65c_grow_92f84 59 = .ok (.areturn, 1) := by decide +kernel
set_option maxRecDepth 20000 in
theorem ggJx4a65c_grow_d5877_Jx4a65c_grow_92f84 : GoodIn wsJx4a65c_grow_d5877 wsJx4a65c_grow_92f84 := goodIn_r _ [6, 7, 8, 9, 10, 11, 12, 13, 14, 15, 16, 17, 18, 19, 20, 21, 22, 23, 24, 25, 26, 27, 28, 29, 30, 31, 32, 33, 34, 35, 36, 37, 38, 39, 40, 41, 42, 43, 44, 45] (by decide +kernel) (by decide +kernel)
set_option maxRecDepth 20000 in
theorem gJx4a65c_grow_d5877_Jx4a65c_grow_92f84 : GoodIn wsJx4a65c_grow_d5877 (wsV RJx4a65c 69 RJx4a65c yJx4a65c_grow_92f84 wsJx4a65c_grow_92f84) := goodIn_app (goodIn_of _ (by decide +kernel)) ggJx4a65c_grow_d5877_Jx4a65c_grow_92f84
theorem dJx4a65c_grow_d5877_0 : decode cJx4a65c_grow_d5877 0 = .ok (.aload_n 0, 1) := by decide +kernel
theorem dJx4a65c_grow_d5877_1 : decode cJx4a65c_grow_d5877 1 = .ok (.aload_n 0, 1) := by decide +kernel
theorem dJx4a65c_grow_d5877_2 : decode cJx4a65c_grow_d5877 2 = .ok (.getfield 48, 3) := by decide +kernel
theorem dJx4a65c_grow_d5877_5 : decode cJx4a65c_grow_d5877 5 = .ok (.iconst 1, 1) := by decide +kernel
theorem dJx4a65c_grow_d5877_6 : decode cJx4a65c_grow_d5877 6 = .ok (.iadd, 1) := by decide +kernel
theorem dJx4a65c_grow_d5877_7 : decode cJx4a65c_grow_d5877 7 = .ok (.invokevirtual 69, 3) := by decide +kernel
theorem dJx4a65c_grow_d5877_10 : decode cJx4a65c_grow_d5877 10 = .ok (.areturn, 1) := by decide +kernel
theorem dJx4a65c_size_8abf5_0 : decode cJx4a65c_size_8abf5 0 = .ok (.aload_n 0, 1) := by decide +kernel
theorem dJx4a65c_size_8abf5_1 : decode cJx4a65c_size_8abf5 1 = .ok (.getfield 48, 3) := by decide +kernel
theorem dJx4a65c_size_8abf5_4 : decode cJx4a65c_size_8abf5 4 = .ok (.ireturn, 1) := by decide +kernel
set_option maxRecDepth 20000 in
theorem ggJx4a65c_add_72be8_Jx4a65c_grow_d5877 : GoodIn wsJx4a65c_add_72be8 wsJx4a65c_grow_d5877 := goodIn_r _ [6, 1, 7, 8, 9, 5, 10, 11, 12, 13, 14, 15, 16, 17, 18, 19, 20, 21, 22, 23, 24, 25, 26, 27, 28, 29, 30, 31, 32, 33, 34, 35, 36, 37, 38, 39, 40, 41, 42, 43, 44, 45, 46, 47, 48, 49] (by decide +kernel) (by decide +kernel)
set_option maxRecDepth 20000 in
theorem gJx4a65c_add_72be8_Jx4a65c_grow_d5877 : GoodIn wsJx4a65c_add_72be8 (wsV RJx4a65c 129 RJx4a65c yJx4a65c_grow_d5877 wsJx4a65c_grow_d5877) := goodIn_app (goodIn_of _ (by decide +kernel)) ggJx4a65c_add_72be8_Jx4a65c_grow_d5877
theorem dJx4a65c_add_72be8_0 : decode cJx4a65c_add_72be8 0 = .ok (.iload_n 3, 1) := by decide +kernel
theorem dJx4a65c_add_72be8_1 : decode cJx4a65c_add_72be8 1 = .ok (.aload_n 2, 1) := by decide +kernel
theorem dJx4a65c_add_72be8_2 : decode cJx4a65c_add_72be8 2 = .ok (.arraylength, 1) := by decide +kernel
theorem dJx4a65c_add_72be8_3 : decode cJx4a65c_add_72be8 3 = .ok (.if_icmp .ne 8, 3) := by decide +kernel
theorem dJx4a65c_add_72be8_6 : decode cJx4a65c_add_72be8 6 = .ok (.aload_n 0, 1) := by decide +kernel
theorem dJx4a65c_add_72be8_7 : decode cJx4a65c_add_72be8 7 = .ok (.invokevirtual 129, 3) := by decide +kernel
theorem dJx4a65c_add_72be8_10 : decode cJx4a65c_add_72be8 10 = .ok (.astore_n 2, 1) := by decide +kernel
theorem dJx4a65c_add_72be8_11 : decode cJx4a65c_add_72be8 11 = .ok (.aload_n 2, 1) := by decide +kernel
theorem dJx4a65c_add_72be8_12 : decode cJx4a65c_add_72be8 12 = .ok (.iload_n 3, 1) := by decide +kernel
theorem dJx4a65c_add_72be8_13 : decode cJx4a65c_add_72be8 13 = .ok (.aload_n 1, 1) := by decide +kernel
theorem dJx4a65c_add_72be8_14 : decode cJx4a65c_add_72be8 14 = .ok (.aastore, 1) := by decide +kernel
theorem dJx4a65c_add_72be8_15 : decode cJx4a65c_add_72be8 15 = .ok (.aload_n 0, 1) := by decide +kernel
theorem dJx4a65c_add_72be8_16 : decode cJx4a65c_add_72be8 16 = .ok (.iload_n 3, 1) := by decide +kernel
theorem dJx4a65c_add_72be8_17 : decode cJx4a65c_add_72be8 17 = .ok (.iconst 1, 1) := by decide +kernel
theorem dJx4a65c_add_72be8_18 : decode cJx4a65c_add_72be8 18 = .ok (.iadd, 1) := by decide +kernel
theorem dJx4a65c_add_72be8_19 : decode cJx4a65c_add_72be8 19 = .ok (.putfield 48, 3) := by decide +kernel
theorem dJx4a65c_add_72be8_22 : decode cJx4a65c_add_72be8 22 = .ok (.return_, 1) := by decide +kernel
set_option maxRecDepth 20000 in
theorem ggJx4a65c_add_9ea2d_Jx4a65c_add_72be8 : GoodIn wsJx4a65c_add_9ea2d wsJx4a65c_add_72be8 := goodIn_r _ [9, 4, 10, 11, 12, 8, 13, 14, 15, 16, 17, 3, 18, 19, 20, 21, 22, 23, 24, 25, 26, 27, 28, 29, 30, 31, 32, 33, 34, 35, 36, 37, 38, 39, 40, 41, 42, 43, 44, 45, 46, 47, 48, 49, 50, 51, 52, 53, 54, 55] (by decide +kernel) (by decide +kernel)
set_option maxRecDepth 20000 in
theorem gJx4a65c_add_9ea2d_Jx4a65c_add_72be8 : GoodIn wsJx4a65c_add_9ea2d (wsV RJx4a65c 131 RJx4a65c yJx4a65c_add_72be8 wsJx4a65c_add_72be8) := goodIn_app (goodIn_of _ (by decide +kernel)) ggJx4a65c_add_9ea2d_Jx4a65c_add_72be8
theorem dJx4a65c_add_9ea2d_0 : decode cJx4a65c_add_9ea2d 0 = .ok (.aload_n 0, 1) := by decide +kernel
theorem dJx4a65c_add_9ea2d_1 : decode cJx4a65c_add_9ea2d 1 = .ok (.dup, 1) := by decide +kernel
theorem dJx4a65c_add_9ea2d_2 : decode cJx4a65c_add_9ea2d 2 = .ok (.getfield 63, 3) := by decide +kernel
theorem dJx4a65c_add_9ea2d_5 : decode cJx4a65c_add_9ea2d 5 = .ok (.iconst 1, 1) := by decide +kernel
theorem dJx4a65c_add_9ea2d_6 : decode cJx4a65c_add_9ea2d 6 = .ok (.iadd, 1) := by decide +kernel
theorem dJx4a65c_add_9ea2d_7 : decode cJx4a65c_add_9ea2d 7 = .ok (.putfield 63, 3) := by decide +kernel
theorem dJx4a65c_add_9ea2d_10 : decode cJx4a65c_add_9ea2d 10 = .ok (.aload_n 0, 1) := by decide +kernel
theorem dJx4a65c_add_9ea2d_11 : decode cJx4a65c_add_9ea2d 11 = .ok (.aload_n 1, 1) := by decide +kernel
theorem dJx4a65c_add_9ea2d_12 : decode cJx4a65c_add_9ea2d 12 = .ok (.aload_n 0, 1) := by decide +kernel
theorem dJx4a65c_add_9ea2d_13 : decode cJx4a65c_add_9ea2d 13 = .ok (.getfield 9, 3) := by decide +kernel
theorem dJx4a65c_add_9ea2d_16 : decode cJx4a65c_add_9ea2d 16 = .ok (.aload_n 0, 1) := by decide +kernel
theorem dJx4a65c_add_9ea2d_17 : decode cJx4a65c_add_9ea2d 17 = .ok (.getfield 48, 3) := by decide +kernel
theorem dJx4a65c_add_9ea2d_20 : decode cJx4a65c_add_9ea2d 20 = .ok (.invokevirtual 131, 3) := by decide +kernel
theorem dJx4a65c_add_9ea2d_23 : decode cJx4a65c_add_9ea2d 23 = .ok (.iconst 1, 1) := by decide +kernel
theorem dJx4a65c_add_9ea2d_24 : decode cJx4a65c_add_9ea2d 24 = .ok (.ireturn, 1) := by decide +kernel
set_option maxRecDepth 20000 in
theorem ggJx4a65c_iterator_32c93_Jx35411_init_45d68 : GoodIn wsJx4a65c_iterator_32c93 wsJx35411_init_45d68 := goodIn_r _ [6, 7, 8, 9, 10, 11, 12, 13, 14, 15, 16, 17, 18, 19, 20, 21] (by decide +kernel) (by decide +kernel)
set_option maxRecDepth 20000 in
theorem gJx4a65c_iterator_32c93_Jx35411_init_45d68 : GoodIn wsJx4a65c_iterator_32c93 (wsJx35411_init_45d68) := ggJx4a65c_iterator_32c93_Jx35411_init_45d68
theorem dJx4a65c_iterator_32c93_0 : decode cJx4a65c_iterator_32c93 0 = .ok (.new 267, 3) := by decide +kernel
theorem dJx4a65c_iterator_32c93_3 : decode cJx4a65c_iterator_32c93 3 = .ok (.dup, 1) := by decide +kernel
theorem dJx4a65c_iterator_32c93_4 : decode cJx4a65c_iterator_32c93 4 = .ok (.aload_n 0, 1) := by decide +kernel
theorem dJx4a65c_iterator_32c93_5 : decode cJx4a65c_iterator_32c93 5 = .ok (.invokespecial 269, 3) := by decide +kernel
theorem dJx4a65c_iterator_32c93_8 : decode cJx4a65c_iterator_32c93 8 = .ok (.areturn, 1) := by decide +kernel
set_option maxRecDepth 20000 in
theorem ggL_machine_X7_machine : GoodIn wsL_machine wsX7_machine := goodIn_ca (goodIn_ca (goodIn_r _ [7, 8, 9, 10, 11, 12, 6, 13, 14, 15, 16, 17, 18, 19, 20, 21, 22, 23, 24, 25, 26, 27, 28, 29, 30, 31, 32, 33, 34, 35, 36, 37, 38, 39, 40, 41, 42, 43, 44, 45, 46, 47, 48, 49, 50, 51, 52, 53, 54, 55, 56, 57, 58, 59, 60, 61, 62] (by decide +kernel) (by decide +kernel)) (goodIn_sub (fun _ h => List.mem_cons_of_mem _ (List.mem_append_left _ (List.mem_append_right _ h))) (by decide +kernel))) (goodIn_sub (fun _ h => List.mem_cons_of_mem _ (List.mem_append_right _ h)) (by decide +kernel))
set_option maxRecDepth 20000 in
theorem gL_machine_X7_machine : GoodIn wsL_machine (wsV RL 7 RX7 yX7_machine wsX7_machine) := goodIn_app (goodIn_of _ (by decide +kernel)) ggL_machine_X7_machine
theorem dL_machine_0 : decode cL_machine 0 = .ok (.aload_n 2, 1) := by decide +kernel
theorem dL_machine_1 : decode cL_machine 1 = .ok (.iconst 0, 1) := by decide +kernel
theorem dL_machine_2 : decode cL_machine 2 = .ok (.aload_n 0, 1) := by decide +kernel
theorem dL_machine_3 : decode cL_machine 3 = .ok (.iload_n 1, 1) := by decide +kernel
theorem dL_machine_4 : decode cL_machine 4 = .ok (.invokevirtual 7, 3) := by decide +kernel
theorem dL_machine_7 : decode cL_machine 7 = .ok (.i2l, 1) := by decide +kernel
theorem dL_machine_8 : decode cL_machine 8 = .ok (.lastore, 1) := by decide +kernel
theorem dL_machine_9 : decode cL_machine 9 = .ok (.goto 9, 3) := by decide +kernel
theorem dL_machine_12 : decode cL_machine 12 = .ok (.astore_n 3, 1) := by decide +kernel
theorem dL_machine_13 : decode cL_machine 13 = .ok (.iconst 1, 1) := by decide +kernel
theorem dL_machine_14 : decode cL_machine 14 = .ok (.ireturn, 1) := by decide +kernel
theorem dL_machine_15 : decode cL_machine 15 = .ok (.astore_n 3, 1) := by decide +kernel
theorem dL_machine_16 : decode cL_machine 16 = .ok (.iconst 2, 1) := by decide +kernel
theorem dL_machine_17 : decode cL_machine 17 = .ok (.ireturn, 1) := by decide +kernel
theorem dL_machine_18 : decode cL_machine 18 = .ok (.iconst 0, 1) := by decide +kernel
theorem dL_machine_19 : decode cL_machine 19 = .ok (.ireturn, 1) := by decide +kernel
