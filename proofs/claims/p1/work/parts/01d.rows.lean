set_option maxRecDepth 20000 in
theorem ggX7_meets_X7_find : GoodIn wsX7_meets wsX7_find := goodIn_ca (goodIn_r _ [6, 7, 8, 9, 10, 82, 83, 84, 85, 86, 87, 88, 89, 90, 91, 92] (by decide +kernel) (by decide +kernel)) (goodIn_sub (fun _ h => List.mem_cons_of_mem _ (List.mem_append_left _ (List.mem_append_right _ h))) (by decide +kernel))
set_option maxRecDepth 20000 in
theorem gX7_meets_X7_find : GoodIn wsX7_meets (wsV RX7 67 RX7 yX7_find wsX7_find) := goodIn_app (goodIn_of _ (by decide +kernel)) ggX7_meets_X7_find
set_option maxRecDepth 20000 in
theorem ggX7_meets_X7_isWithin : GoodIn wsX7_meets wsX7_isWithin := goodIn_r _ [17] (by decide +kernel) (by decide +kernel)
set_option maxRecDepth 20000 in
theorem gX7_meets_X7_isWithin : GoodIn wsX7_meets (va_wsS RX7 49 yX7_isWithin wsX7_isWithin) := goodIn_app (goodIn_of _ (by decide +kernel)) ggX7_meets_X7_isWithin
set_option maxRecDepth 20000 in
theorem ggX7_meets_X7_require : GoodIn wsX7_meets wsX7_require := goodIn_ca (goodIn_r _ [20, 21, 22] (by decide +kernel) (by decide +kernel)) (goodIn_sub (fun _ h => List.mem_cons_of_mem _ (List.mem_append_right _ h)) (by decide +kernel))
set_option maxRecDepth 20000 in
theorem gX7_meets_X7_require : GoodIn wsX7_meets (va_wsS RX7 53 yX7_require wsX7_require) := goodIn_app (goodIn_of _ (by decide +kernel)) ggX7_meets_X7_require
theorem dX7_meets_0 : decode cX7_meets 0 = .ok (.aload_n 0, 1) := by decide +kernel
theorem dX7_meets_1 : decode cX7_meets 1 = .ok (.iload_n 1, 1) := by decide +kernel
theorem dX7_meets_2 : decode cX7_meets 2 = .ok (.invokevirtual 67, 3) := by decide +kernel
theorem dX7_meets_5 : decode cX7_meets 5 = .ok (.astore 5, 2) := by decide +kernel
theorem dX7_meets_7 : decode cX7_meets 7 = .ok (.aload 5, 2) := by decide +kernel
theorem dX7_meets_9 : decode cX7_meets 9 = .ok (.iload_n 2, 1) := by decide +kernel
theorem dX7_meets_10 : decode cX7_meets 10 = .ok (.iload_n 3, 1) := by decide +kernel
theorem dX7_meets_11 : decode cX7_meets 11 = .ok (.invokestatic 71, 3) := by decide +kernel
theorem dX7_meets_14 : decode cX7_meets 14 = .ok (.istore 6, 2) := by decide +kernel
theorem dX7_meets_16 : decode cX7_meets 16 = .ok (.iload 4, 2) := by decide +kernel
theorem dX7_meets_18 : decode cX7_meets 18 = .ok (.iconst 0, 1) := by decide +kernel
theorem dX7_meets_19 : decode cX7_meets 19 = .ok (.sipush 500, 3) := by decide +kernel
theorem dX7_meets_22 : decode cX7_meets 22 = .ok (.invokestatic 49, 3) := by decide +kernel
theorem dX7_meets_25 : decode cX7_meets 25 = .ok (.invokestatic 53, 3) := by decide +kernel
theorem dX7_meets_28 : decode cX7_meets 28 = .ok (.aload_n 0, 1) := by decide +kernel
theorem dX7_meets_29 : decode cX7_meets 29 = .ok (.getfield 24, 3) := by decide +kernel
theorem dX7_meets_32 : decode cX7_meets 32 = .ok (.invokevirtual 232, 3) := by decide +kernel
theorem dX7_meets_35 : decode cX7_meets 35 = .ok (.iconst 0, 1) := by decide +kernel
theorem dX7_meets_36 : decode cX7_meets 36 = .ok (.istore 7, 2) := by decide +kernel
theorem dX7_meets_38 : decode cX7_meets 38 = .ok (.iload 7, 2) := by decide +kernel
theorem dX7_meets_40 : decode cX7_meets 40 = .ok (.iload 4, 2) := by decide +kernel
theorem dX7_meets_42 : decode cX7_meets 42 = .ok (.if_icmp .gt 38, 3) := by decide +kernel
theorem dX7_meets_45 : decode cX7_meets 45 = .ok (.aload_n 0, 1) := by decide +kernel
theorem dX7_meets_46 : decode cX7_meets 46 = .ok (.getfield 24, 3) := by decide +kernel
theorem dX7_meets_49 : decode cX7_meets 49 = .ok (.invokevirtual 115, 3) := by decide +kernel
theorem dX7_meets_52 : decode cX7_meets 52 = .ok (.iload 6, 2) := by decide +kernel
theorem dX7_meets_54 : decode cX7_meets 54 = .ok (.if_icmp .ne 6, 3) := by decide +kernel
theorem dX7_meets_57 : decode cX7_meets 57 = .ok (.iload 7, 2) := by decide +kernel
theorem dX7_meets_59 : decode cX7_meets 59 = .ok (.ireturn, 1) := by decide +kernel
theorem dX7_meets_60 : decode cX7_meets 60 = .ok (.aload_n 0, 1) := by decide +kernel
theorem dX7_meets_61 : decode cX7_meets 61 = .ok (.getfield 24, 3) := by decide +kernel
theorem dX7_meets_64 : decode cX7_meets 64 = .ok (.aload 5, 2) := by decide +kernel
theorem dX7_meets_66 : decode cX7_meets 66 = .ok (.invokevirtual 235, 3) := by decide +kernel
theorem dX7_meets_69 : decode cX7_meets 69 = .ok (.ifCond .ne 5, 3) := by decide +kernel
theorem dX7_meets_72 : decode cX7_meets 72 = .ok (.iconst (-1), 1) := by decide +kernel
theorem dX7_meets_73 : decode cX7_meets 73 = .ok (.ireturn, 1) := by decide +kernel
theorem dX7_meets_74 : decode cX7_meets 74 = .ok (.iinc 7 1, 3) := by decide +kernel
theorem dX7_meets_77 : decode cX7_meets 77 = .ok (.goto (-39), 3) := by decide +kernel
theorem dX7_meets_80 : decode cX7_meets 80 = .ok (.iconst (-1), 1) := by decide +kernel
theorem dX7_meets_81 : decode cX7_meets 81 = .ok (.ireturn, 1) := by decide +kernel
set_option maxRecDepth 20000 in
theorem ggX7_likeness_X7_find : GoodIn wsX7_likeness wsX7_find := goodIn_ca (goodIn_r _ [5, 6, 7, 8, 9, 35, 36, 37, 38, 39, 40, 41, 42, 43, 44, 45] (by decide +kernel) (by decide +kernel)) (goodIn_sub (fun _ h => List.mem_cons_of_mem _ (List.mem_append_right _ h)) (by decide +kernel))
set_option maxRecDepth 20000 in
theorem gX7_likeness_X7_find : GoodIn wsX7_likeness (wsV RX7 67 RX7 yX7_find wsX7_find) := goodIn_app (goodIn_of _ (by decide +kernel)) ggX7_likeness_X7_find
theorem dX7_likeness_0 : decode cX7_likeness 0 = .ok (.aload_n 0, 1) := by decide +kernel
theorem dX7_likeness_1 : decode cX7_likeness 1 = .ok (.iload_n 1, 1) := by decide +kernel
theorem dX7_likeness_2 : decode cX7_likeness 2 = .ok (.invokevirtual 67, 3) := by decide +kernel
theorem dX7_likeness_5 : decode cX7_likeness 5 = .ok (.astore_n 3, 1) := by decide +kernel
theorem dX7_likeness_6 : decode cX7_likeness 6 = .ok (.aload_n 0, 1) := by decide +kernel
theorem dX7_likeness_7 : decode cX7_likeness 7 = .ok (.iload_n 2, 1) := by decide +kernel
theorem dX7_likeness_8 : decode cX7_likeness 8 = .ok (.invokevirtual 67, 3) := by decide +kernel
theorem dX7_likeness_11 : decode cX7_likeness 11 = .ok (.astore 4, 2) := by decide +kernel
theorem dX7_likeness_13 : decode cX7_likeness 13 = .ok (.aload_n 3, 1) := by decide +kernel
theorem dX7_likeness_14 : decode cX7_likeness 14 = .ok (.aload 4, 2) := by decide +kernel
theorem dX7_likeness_16 : decode cX7_likeness 16 = .ok (.iconst 1, 1) := by decide +kernel
theorem dX7_likeness_17 : decode cX7_likeness 17 = .ok (.invokevirtual 238, 3) := by decide +kernel
theorem dX7_likeness_20 : decode cX7_likeness 20 = .ok (.ifCond .eq 5, 3) := by decide +kernel
theorem dX7_likeness_23 : decode cX7_likeness 23 = .ok (.iconst 1, 1) := by decide +kernel
theorem dX7_likeness_24 : decode cX7_likeness 24 = .ok (.ireturn, 1) := by decide +kernel
theorem dX7_likeness_25 : decode cX7_likeness 25 = .ok (.aload_n 3, 1) := by decide +kernel
theorem dX7_likeness_26 : decode cX7_likeness 26 = .ok (.aload 4, 2) := by decide +kernel
theorem dX7_likeness_28 : decode cX7_likeness 28 = .ok (.iconst (-1), 1) := by decide +kernel
theorem dX7_likeness_29 : decode cX7_likeness 29 = .ok (.invokevirtual 238, 3) := by decide +kernel
theorem dX7_likeness_32 : decode cX7_likeness 32 = .ok (.ifCond .eq 7, 3) := by decide +kernel
theorem dX7_likeness_35 : decode cX7_likeness 35 = .ok (.iconst 2, 1) := by decide +kernel
theorem dX7_likeness_36 : decode cX7_likeness 36 = .ok (.goto 4, 3) := by decide +kernel
theorem dX7_likeness_39 : decode cX7_likeness 39 = .ok (.iconst 0, 1) := by decide +kernel
theorem dX7_likeness_40 : decode cX7_likeness 40 = .ok (.ireturn, 1) := by decide +kernel
set_option maxRecDepth 20000 in
theorem ggX7_champion_X7_isWithin : GoodIn wsX7_champion wsX7_isWithin := goodIn_r _ [6] (by decide +kernel) (by decide +kernel)
set_option maxRecDepth 20000 in
theorem gX7_champion_X7_isWithin : GoodIn wsX7_champion (va_wsS RX7 49 yX7_isWithin wsX7_isWithin) := goodIn_app (goodIn_of _ (by decide +kernel)) ggX7_champion_X7_isWithin
set_option maxRecDepth 20000 in
theorem ggX7_champion_X7_require : GoodIn wsX7_champion wsX7_require := goodIn_ca (goodIn_r _ [9, 10, 11] (by decide +kernel) (by decide +kernel)) (goodIn_sub (fun _ h => List.mem_cons_of_mem _ (List.mem_append_left _ (List.mem_append_right _ h))) (by decide +kernel))
set_option maxRecDepth 20000 in
theorem gX7_champion_X7_require : GoodIn wsX7_champion (va_wsS RX7 53 yX7_require wsX7_require) := goodIn_app (goodIn_of _ (by decide +kernel)) ggX7_champion_X7_require
set_option maxRecDepth 20000 in
theorem ggX7_champion_X7_find : GoodIn wsX7_champion wsX7_find := goodIn_ca (goodIn_r _ [15, 16, 17, 1, 18, 93, 94, 95, 96, 97, 98, 99, 100, 101, 102, 103] (by decide +kernel) (by decide +kernel)) (goodIn_sub (fun _ h => List.mem_cons_of_mem _ (List.mem_append_right _ h)) (by decide +kernel))
set_option maxRecDepth 20000 in
theorem gX7_champion_X7_find : GoodIn wsX7_champion (wsV RX7 67 RX7 yX7_find wsX7_find) := goodIn_app (goodIn_of _ (by decide +kernel)) ggX7_champion_X7_find
theorem dX7_champion_0 : decode cX7_champion 0 = .ok (.iload_n 1, 1) := by decide +kernel
theorem dX7_champion_1 : decode cX7_champion 1 = .ok (.iconst 0, 1) := by decide +kernel
theorem dX7_champion_2 : decode cX7_champion 2 = .ok (.iconst 1, 1) := by decide +kernel
theorem dX7_champion_3 : decode cX7_champion 3 = .ok (.invokestatic 49, 3) := by decide +kernel
theorem dX7_champion_6 : decode cX7_champion 6 = .ok (.invokestatic 53, 3) := by decide +kernel
theorem dX7_champion_9 : decode cX7_champion 9 = .ok (.iconst (-1), 1) := by decide +kernel
theorem dX7_champion_10 : decode cX7_champion 10 = .ok (.istore_n 2, 1) := by decide +kernel
theorem dX7_champion_11 : decode cX7_champion 11 = .ok (.iconst (-1), 1) := by decide +kernel
theorem dX7_champion_12 : decode cX7_champion 12 = .ok (.istore_n 3, 1) := by decide +kernel
theorem dX7_champion_13 : decode cX7_champion 13 = .ok (.iconst 0, 1) := by decide +kernel
theorem dX7_champion_14 : decode cX7_champion 14 = .ok (.istore 4, 2) := by decide +kernel
theorem dX7_champion_16 : decode cX7_champion 16 = .ok (.iload 4, 2) := by decide +kernel
theorem dX7_champion_18 : decode cX7_champion 18 = .ok (.aload_n 0, 1) := by decide +kernel
theorem dX7_champion_19 : decode cX7_champion 19 = .ok (.getfield 148, 3) := by decide +kernel
theorem dX7_champion_22 : decode cX7_champion 22 = .ok (.if_icmp .ge 56, 3) := by decide +kernel
theorem dX7_champion_25 : decode cX7_champion 25 = .ok (.aload_n 0, 1) := by decide +kernel
theorem dX7_champion_26 : decode cX7_champion 26 = .ok (.iload 4, 2) := by decide +kernel
theorem dX7_champion_28 : decode cX7_champion 28 = .ok (.invokevirtual 67, 3) := by decide +kernel
theorem dX7_champion_31 : decode cX7_champion 31 = .ok (.astore 5, 2) := by decide +kernel
theorem dX7_champion_33 : decode cX7_champion 33 = .ok (.aload 5, 2) := by decide +kernel
theorem dX7_champion_35 : decode cX7_champion 35 = .ok (.getfield 151, 3) := by decide +kernel
theorem dX7_champion_38 : decode cX7_champion 38 = .ok (.ifCond .ne 34, 3) := by decide +kernel
theorem dX7_champion_41 : decode cX7_champion 41 = .ok (.aload_n 0, 1) := by decide +kernel
theorem dX7_champion_42 : decode cX7_champion 42 = .ok (.aload 5, 2) := by decide +kernel
theorem dX7_champion_44 : decode cX7_champion 44 = .ok (.iload_n 1, 1) := by decide +kernel
theorem dX7_champion_45 : decode cX7_champion 45 = .ok (.ifCond .ne 8, 3) := by decide +kernel
theorem dX7_champion_48 : decode cX7_champion 48 = .ok (.bipush 6, 2) := by decide +kernel
theorem dX7_champion_50 : decode cX7_champion 50 = .ok (.goto 5, 3) := by decide +kernel
theorem dX7_champion_53 : decode cX7_champion 53 = .ok (.bipush 7, 2) := by decide +kernel
theorem dX7_champion_55 : decode cX7_champion 55 = .ok (.invokevirtual 200, 3) := by decide +kernel
theorem dX7_champion_58 : decode cX7_champion 58 = .ok (.istore 6, 2) := by decide +kernel
theorem dX7_champion_60 : decode cX7_champion 60 = .ok (.iload 6, 2) := by decide +kernel
theorem dX7_champion_62 : decode cX7_champion 62 = .ok (.iload_n 3, 1) := by decide +kernel
theorem dX7_champion_63 : decode cX7_champion 63 = .ok (.if_icmp .le 9, 3) := by decide +kernel
theorem dX7_champion_66 : decode cX7_champion 66 = .ok (.iload 6, 2) := by decide +kernel
theorem dX7_champion_68 : decode cX7_champion 68 = .ok (.istore_n 3, 1) := by decide +kernel
theorem dX7_champion_69 : decode cX7_champion 69 = .ok (.iload 4, 2) := by decide +kernel
theorem dX7_champion_71 : decode cX7_champion 71 = .ok (.istore_n 2, 1) := by decide +kernel
theorem dX7_champion_72 : decode cX7_champion 72 = .ok (.iinc 4 1, 3) := by decide +kernel
theorem dX7_champion_75 : decode cX7_champion 75 = .ok (.goto (-59), 3) := by decide +kernel
theorem dX7_champion_78 : decode cX7_champion 78 = .ok (.iload_n 2, 1) := by decide +kernel
theorem dX7_champion_79 : decode cX7_champion 79 = .ok (.ireturn, 1) := by decide +kernel
set_option maxRecDepth 20000 in
theorem ggX7_tagged_X7_findTag : GoodIn wsX7_tagged wsX7_findTag := goodIn_ca (goodIn_r _ [5, 6, 7, 8, 9, 30, 31, 32, 33, 34, 35, 36, 37, 38, 39, 40] (by decide +kernel) (by decide +kernel)) (goodIn_sub (fun _ h => List.mem_cons_of_mem _ (List.mem_append_left _ (List.mem_append_right _ h))) (by decide +kernel))
set_option maxRecDepth 20000 in
theorem gX7_tagged_X7_findTag : GoodIn wsX7_tagged (wsV RX7 242 RX7 yX7_findTag wsX7_findTag) := goodIn_app (goodIn_of _ (by decide +kernel)) ggX7_tagged_X7_findTag
set_option maxRecDepth 20000 in
theorem ggX7_tagged_X7_isWithin : GoodIn wsX7_tagged wsX7_isWithin := goodIn_r _ [12] (by decide +kernel) (by decide +kernel)
set_option maxRecDepth 20000 in
theorem gX7_tagged_X7_isWithin : GoodIn wsX7_tagged (va_wsS RX7 49 yX7_isWithin wsX7_isWithin) := goodIn_app (goodIn_of _ (by decide +kernel)) ggX7_tagged_X7_isWithin
set_option maxRecDepth 20000 in
theorem ggX7_tagged_X7_require : GoodIn wsX7_tagged wsX7_require := goodIn_ca (goodIn_r _ [15, 16, 17] (by decide +kernel) (by decide +kernel)) (goodIn_sub (fun _ h => List.mem_cons_of_mem _ (List.mem_append_right _ h)) (by decide +kernel))
set_option maxRecDepth 20000 in
theorem gX7_tagged_X7_require : GoodIn wsX7_tagged (va_wsS RX7 53 yX7_require wsX7_require) := goodIn_app (goodIn_of _ (by decide +kernel)) ggX7_tagged_X7_require
theorem dX7_tagged_0 : decode cX7_tagged 0 = .ok (.aload_n 0, 1) := by decide +kernel
theorem dX7_tagged_1 : decode cX7_tagged 1 = .ok (.iload_n 1, 1) := by decide +kernel
theorem dX7_tagged_2 : decode cX7_tagged 2 = .ok (.invokevirtual 242, 3) := by decide +kernel
theorem dX7_tagged_5 : decode cX7_tagged 5 = .ok (.astore 4, 2) := by decide +kernel
theorem dX7_tagged_7 : decode cX7_tagged 7 = .ok (.iload_n 2, 1) := by decide +kernel
theorem dX7_tagged_8 : decode cX7_tagged 8 = .ok (.iconst 1, 1) := by decide +kernel
theorem dX7_tagged_9 : decode cX7_tagged 9 = .ok (.sipush 1023, 3) := by decide +kernel
theorem dX7_tagged_12 : decode cX7_tagged 12 = .ok (.invokestatic 49, 3) := by decide +kernel
theorem dX7_tagged_15 : decode cX7_tagged 15 = .ok (.invokestatic 53, 3) := by decide +kernel
theorem dX7_tagged_18 : decode cX7_tagged 18 = .ok (.iload_n 3, 1) := by decide +kernel
theorem dX7_tagged_19 : decode cX7_tagged 19 = .ok (.iconst 0, 1) := by decide +kernel
theorem dX7_tagged_20 : decode cX7_tagged 20 = .ok (.sipush 200, 3) := by decide +kernel
theorem dX7_tagged_23 : decode cX7_tagged 23 = .ok (.invokestatic 49, 3) := by decide +kernel
theorem dX7_tagged_26 : decode cX7_tagged 26 = .ok (.invokestatic 53, 3) := by decide +kernel
theorem dX7_tagged_29 : decode cX7_tagged 29 = .ok (.iload_n 2, 1) := by decide +kernel
theorem dX7_tagged_30 : decode cX7_tagged 30 = .ok (.istore 5, 2) := by decide +kernel
theorem dX7_tagged_32 : decode cX7_tagged 32 = .ok (.iconst 0, 1) := by decide +kernel
theorem dX7_tagged_33 : decode cX7_tagged 33 = .ok (.istore 6, 2) := by decide +kernel
theorem dX7_tagged_35 : decode cX7_tagged 35 = .ok (.iload 6, 2) := by decide +kernel
theorem dX7_tagged_37 : decode cX7_tagged 37 = .ok (.iload_n 3, 1) := by decide +kernel
theorem dX7_tagged_38 : decode cX7_tagged 38 = .ok (.if_icmp .ge 30, 3) := by decide +kernel
theorem dX7_tagged_41 : decode cX7_tagged 41 = .ok (.aload 4, 2) := by decide +kernel
theorem dX7_tagged_43 : decode cX7_tagged 43 = .ok (.iload 5, 2) := by decide +kernel
theorem dX7_tagged_45 : decode cX7_tagged 45 = .ok (.invokevirtual 246, 3) := by decide +kernel
theorem dX7_tagged_48 : decode cX7_tagged 48 = .ok (.istore 5, 2) := by decide +kernel
theorem dX7_tagged_50 : decode cX7_tagged 50 = .ok (.iload 5, 2) := by decide +kernel
theorem dX7_tagged_52 : decode cX7_tagged 52 = .ok (.invokestatic 249, 3) := by decide +kernel
theorem dX7_tagged_55 : decode cX7_tagged 55 = .ok (.bipush 20, 2) := by decide +kernel
theorem dX7_tagged_57 : decode cX7_tagged 57 = .ok (.if_icmp .le 5, 3) := by decide +kernel
theorem dX7_tagged_60 : decode cX7_tagged 60 = .ok (.iconst (-1), 1) := by decide +kernel
theorem dX7_tagged_61 : decode cX7_tagged 61 = .ok (.ireturn, 1) := by decide +kernel
theorem dX7_tagged_62 : decode cX7_tagged 62 = .ok (.iinc 6 1, 3) := by decide +kernel
theorem dX7_tagged_65 : decode cX7_tagged 65 = .ok (.goto (-30), 3) := by decide +kernel
theorem dX7_tagged_68 : decode cX7_tagged 68 = .ok (.iload 5, 2) := by decide +kernel
theorem dX7_tagged_70 : decode cX7_tagged 70 = .ok (.ireturn, 1) := by decide +kernel
set_option maxRecDepth 20000 in
theorem ggX7_many_X7_isWithin : GoodIn wsX7_many wsX7_isWithin := goodIn_r _ [9] (by decide +kernel) (by decide +kernel)
set_option maxRecDepth 20000 in
theorem gX7_many_X7_isWithin : GoodIn wsX7_many (va_wsS RX7 49 yX7_isWithin wsX7_isWithin) := goodIn_app (goodIn_of _ (by decide +kernel)) ggX7_many_X7_isWithin
set_option maxRecDepth 20000 in
theorem ggX7_many_X7_require : GoodIn wsX7_many wsX7_require := goodIn_ca (goodIn_r _ [12, 13, 14] (by decide +kernel) (by decide +kernel)) (goodIn_sub (fun _ h => List.mem_cons_of_mem _ (List.mem_append_left _ (List.mem_append_right _ h))) (by decide +kernel))
set_option maxRecDepth 20000 in
theorem gX7_many_X7_require : GoodIn wsX7_many (va_wsS RX7 53 yX7_require wsX7_require) := goodIn_app (goodIn_of _ (by decide +kernel)) ggX7_many_X7_require
set_option maxRecDepth 20000 in
theorem ggX7_many_X7_countOfKind : GoodIn wsX7_many wsX7_countOfKind := goodIn_ca (goodIn_r _ [18, 1, 19, 20, 21, 22, 8, 23, 24, 25, 26, 46, 47, 48, 49, 50, 51, 52, 53, 54, 55, 56, 57, 58, 59, 60, 61, 62, 63] (by decide +kernel) (by decide +kernel)) (goodIn_sub (fun _ h => List.mem_cons_of_mem _ (List.mem_append_right _ h)) (by decide +kernel))
set_option maxRecDepth 20000 in
theorem gX7_many_X7_countOfKind : GoodIn wsX7_many (wsV RX7 252 RX7 yX7_countOfKind wsX7_countOfKind) := goodIn_app (goodIn_of _ (by decide +kernel)) ggX7_many_X7_countOfKind
set_option maxRecDepth 20000 in
theorem ggX7_many_X7_countEmptyCells : GoodIn wsX7_many wsX7_countEmptyCells := goodIn_ca (goodIn_r _ [30, 1, 20, 21, 22, 8, 23, 24, 25, 26, 31, 32, 33, 34, 35, 36, 37, 38, 39, 40, 41, 42, 43, 44, 45, 46, 47, 48, 49, 50, 51, 52, 53, 54, 55, 56, 57, 58, 59, 60, 61, 62, 63] (by decide +kernel) (by decide +kernel)) (goodIn_sub (fun _ h => List.mem_cons_of_mem _ (List.mem_append_right _ h)) (by decide +kernel))
set_option maxRecDepth 20000 in
theorem gX7_many_X7_countEmptyCells : GoodIn wsX7_many (wsV RX7 258 RX7 yX7_countEmptyCells wsX7_countEmptyCells) := goodIn_app (goodIn_of _ (by decide +kernel)) ggX7_many_X7_countEmptyCells
theorem dX7_many_0 : decode cX7_many 0 = .ok (.iload_n 1, 1) := by decide +kernel
theorem dX7_many_1 : decode cX7_many 1 = .ok (.iconst 0, 1) := by decide +kernel
theorem dX7_many_2 : decode cX7_many 2 = .ok (.bipush 10, 2) := by decide +kernel
theorem dX7_many_4 : decode cX7_many 4 = .ok (.invokestatic 49, 3) := by decide +kernel
theorem dX7_many_7 : decode cX7_many 7 = .ok (.invokestatic 53, 3) := by decide +kernel
theorem dX7_many_10 : decode cX7_many 10 = .ok (.iload_n 1, 1) := by decide +kernel
theorem dX7_many_11 : decode cX7_many 11 = .ok (.tableswitch 93 0 10 #[57, 62, 93, 93, 93, 93, 68, 73, 78, 83, 88], 57) := by decide +kernel
theorem dX7_many_68 : decode cX7_many 68 = .ok (.aload_n 0, 1) := by decide +kernel
theorem dX7_many_69 : decode cX7_many 69 = .ok (.getfield 148, 3) := by decide +kernel
theorem dX7_many_72 : decode cX7_many 72 = .ok (.ireturn, 1) := by decide +kernel
theorem dX7_many_73 : decode cX7_many 73 = .ok (.aload_n 0, 1) := by decide +kernel
theorem dX7_many_74 : decode cX7_many 74 = .ok (.iconst (-1), 1) := by decide +kernel
theorem dX7_many_75 : decode cX7_many 75 = .ok (.invokevirtual 252, 3) := by decide +kernel
theorem dX7_many_78 : decode cX7_many 78 = .ok (.ireturn, 1) := by decide +kernel
theorem dX7_many_79 : decode cX7_many 79 = .ok (.aload_n 0, 1) := by decide +kernel
theorem dX7_many_80 : decode cX7_many 80 = .ok (.getfield 122, 3) := by decide +kernel
theorem dX7_many_83 : decode cX7_many 83 = .ok (.ireturn, 1) := by decide +kernel
theorem dX7_many_84 : decode cX7_many 84 = .ok (.aload_n 0, 1) := by decide +kernel
theorem dX7_many_85 : decode cX7_many 85 = .ok (.getfield 136, 3) := by decide +kernel
theorem dX7_many_88 : decode cX7_many 88 = .ok (.ireturn, 1) := by decide +kernel
theorem dX7_many_89 : decode cX7_many 89 = .ok (.aload_n 0, 1) := by decide +kernel
theorem dX7_many_90 : decode cX7_many 90 = .ok (.getfield 142, 3) := by decide +kernel
theorem dX7_many_93 : decode cX7_many 93 = .ok (.ireturn, 1) := by decide +kernel
theorem dX7_many_94 : decode cX7_many 94 = .ok (.aload_n 0, 1) := by decide +kernel
theorem dX7_many_95 : decode cX7_many 95 = .ok (.getfield 255, 3) := by decide +kernel
theorem dX7_many_98 : decode cX7_many 98 = .ok (.ireturn, 1) := by decide +kernel
theorem dX7_many_99 : decode cX7_many 99 = .ok (.aload_n 0, 1) := by decide +kernel
theorem dX7_many_100 : decode cX7_many 100 = .ok (.invokevirtual 258, 3) := by decide +kernel
theorem dX7_many_103 : decode cX7_many 103 = .ok (.ireturn, 1) := by decide +kernel
theorem dX7_many_104 : decode cX7_many 104 = .ok (.aload_n 0, 1) := by decide +kernel
theorem dX7_many_105 : decode cX7_many 105 = .ok (.iload_n 1, 1) := by decide +kernel
theorem dX7_many_106 : decode cX7_many 106 = .ok (.iconst 2, 1) := by decide +kernel
theorem dX7_many_107 : decode cX7_many 107 = .ok (.isub, 1) := by decide +kernel
theorem dX7_many_108 : decode cX7_many 108 = .ok (.invokevirtual 252, 3) := by decide +kernel
theorem dX7_many_111 : decode cX7_many 111 = .ok (.ireturn, 1) := by decide +kernel
set_option maxRecDepth 20000 in
theorem ggX7_meanStop_X7_find : GoodIn wsX7_meanStop wsX7_find := goodIn_ca (goodIn_r _ [8, 9, 10, 1, 11, 12, 13, 14, 15, 16, 17, 18, 19, 20, 21, 22] (by decide +kernel) (by decide +kernel)) (goodIn_sub (fun _ h => List.mem_cons_of_mem _ (List.mem_append_right _ h)) (by decide +kernel))
set_option maxRecDepth 20000 in
theorem gX7_meanStop_X7_find : GoodIn wsX7_meanStop (wsV RX7 67 RX7 yX7_find wsX7_find) := goodIn_app (goodIn_of _ (by decide +kernel)) ggX7_meanStop_X7_find
theorem dX7_meanStop_0 : decode cX7_meanStop 0 = .ok (.iconst 0, 1) := by decide +kernel
theorem dX7_meanStop_1 : decode cX7_meanStop 1 = .ok (.istore_n 1, 1) := by decide +kernel
theorem dX7_meanStop_2 : decode cX7_meanStop 2 = .ok (.iconst 0, 1) := by decide +kernel
theorem dX7_meanStop_3 : decode cX7_meanStop 3 = .ok (.istore_n 2, 1) := by decide +kernel
theorem dX7_meanStop_4 : decode cX7_meanStop 4 = .ok (.iconst 0, 1) := by decide +kernel
theorem dX7_meanStop_5 : decode cX7_meanStop 5 = .ok (.istore_n 3, 1) := by decide +kernel
theorem dX7_meanStop_6 : decode cX7_meanStop 6 = .ok (.iload_n 3, 1) := by decide +kernel
theorem dX7_meanStop_7 : decode cX7_meanStop 7 = .ok (.aload_n 0, 1) := by decide +kernel
theorem dX7_meanStop_8 : decode cX7_meanStop 8 = .ok (.getfield 148, 3) := by decide +kernel
theorem dX7_meanStop_11 : decode cX7_meanStop 11 = .ok (.if_icmp .ge 35, 3) := by decide +kernel
theorem dX7_meanStop_14 : decode cX7_meanStop 14 = .ok (.aload_n 0, 1) := by decide +kernel
theorem dX7_meanStop_15 : decode cX7_meanStop 15 = .ok (.iload_n 3, 1) := by decide +kernel
theorem dX7_meanStop_16 : decode cX7_meanStop 16 = .ok (.invokevirtual 67, 3) := by decide +kernel
theorem dX7_meanStop_19 : decode cX7_meanStop 19 = .ok (.astore 4, 2) := by decide +kernel
theorem dX7_meanStop_21 : decode cX7_meanStop 21 = .ok (.aload 4, 2) := by decide +kernel
theorem dX7_meanStop_23 : decode cX7_meanStop 23 = .ok (.getfield 151, 3) := by decide +kernel
theorem dX7_meanStop_26 : decode cX7_meanStop 26 = .ok (.ifCond .ne 14, 3) := by decide +kernel
theorem dX7_meanStop_29 : decode cX7_meanStop 29 = .ok (.iload_n 1, 1) := by decide +kernel
theorem dX7_meanStop_30 : decode cX7_meanStop 30 = .ok (.aload 4, 2) := by decide +kernel
theorem dX7_meanStop_32 : decode cX7_meanStop 32 = .ok (.getfield 194, 3) := by decide +kernel
theorem dX7_meanStop_35 : decode cX7_meanStop 35 = .ok (.iadd, 1) := by decide +kernel
theorem dX7_meanStop_36 : decode cX7_meanStop 36 = .ok (.istore_n 1, 1) := by decide +kernel
theorem dX7_meanStop_37 : decode cX7_meanStop 37 = .ok (.iinc 2 1, 3) := by decide +kernel
theorem dX7_meanStop_40 : decode cX7_meanStop 40 = .ok (.iinc 3 1, 3) := by decide +kernel
theorem dX7_meanStop_43 : decode cX7_meanStop 43 = .ok (.goto (-37), 3) := by decide +kernel
theorem dX7_meanStop_46 : decode cX7_meanStop 46 = .ok (.iload_n 2, 1) := by decide +kernel
theorem dX7_meanStop_47 : decode cX7_meanStop 47 = .ok (.ifCond .ne 7, 3) := by decide +kernel
theorem dX7_meanStop_50 : decode cX7_meanStop 50 = .ok (.dconst 0, 1) := by decide +kernel
theorem dX7_meanStop_51 : decode cX7_meanStop 51 = .ok (.goto 8, 3) := by decide +kernel
theorem dX7_meanStop_54 : decode cX7_meanStop 54 = .ok (.iload_n 1, 1) := by decide +kernel
theorem dX7_meanStop_55 : decode cX7_meanStop 55 = .ok (.i2d, 1) := by decide +kernel
theorem dX7_meanStop_56 : decode cX7_meanStop 56 = .ok (.iload_n 2, 1) := by decide +kernel
theorem dX7_meanStop_57 : decode cX7_meanStop 57 = .ok (.i2d, 1) := by decide +kernel
theorem dX7_meanStop_58 : decode cX7_meanStop 58 = .ok (.ddiv, 1) := by decide +kernel
theorem dX7_meanStop_59 : decode cX7_meanStop 59 = .ok (.dreturn, 1) := by decide +kernel
set_option maxRecDepth 20000 in
theorem ggX7_cycleIn_X7_find : GoodIn wsX7_cycleIn wsX7_find := goodIn_ca (goodIn_r _ [6, 7, 8, 9, 10, 108, 109, 110, 111, 112, 113, 114, 115, 116, 117, 118] (by decide +kernel) (by decide +kernel)) (goodIn_sub (fun _ h => List.mem_cons_of_mem _ (List.mem_append_left _ (List.mem_append_right _ h))) (by decide +kernel))
set_option maxRecDepth 20000 in
theorem gX7_cycleIn_X7_find : GoodIn wsX7_cycleIn (wsV RX7 67 RX7 yX7_find wsX7_find) := goodIn_app (goodIn_of _ (by decide +kernel)) ggX7_cycleIn_X7_find
set_option maxRecDepth 20000 in
theorem ggX7_cycleIn_X7_isWithin : GoodIn wsX7_cycleIn wsX7_isWithin := goodIn_r _ [13] (by decide +kernel) (by decide +kernel)
set_option maxRecDepth 20000 in
theorem gX7_cycleIn_X7_isWithin : GoodIn wsX7_cycleIn (va_wsS RX7 49 yX7_isWithin wsX7_isWithin) := goodIn_app (goodIn_of _ (by decide +kernel)) ggX7_cycleIn_X7_isWithin
set_option maxRecDepth 20000 in
theorem ggX7_cycleIn_X7_require : GoodIn wsX7_cycleIn wsX7_require := goodIn_ca (goodIn_r _ [16, 17, 18] (by decide +kernel) (by decide +kernel)) (goodIn_sub (fun _ h => List.mem_cons_of_mem _ (List.mem_append_right _ h)) (by decide +kernel))
set_option maxRecDepth 20000 in
theorem gX7_cycleIn_X7_require : GoodIn wsX7_cycleIn (va_wsS RX7 53 yX7_require wsX7_require) := goodIn_app (goodIn_of _ (by decide +kernel)) ggX7_cycleIn_X7_require
theorem dX7_cycleIn_0 : decode cX7_cycleIn 0 = .ok (.aload_n 0, 1) := by decide +kernel
theorem dX7_cycleIn_1 : decode cX7_cycleIn 1 = .ok (.iload_n 1, 1) := by decide +kernel
theorem dX7_cycleIn_2 : decode cX7_cycleIn 2 = .ok (.invokevirtual 67, 3) := by decide +kernel
theorem dX7_cycleIn_5 : decode cX7_cycleIn 5 = .ok (.astore_n 3, 1) := by decide +kernel
theorem dX7_cycleIn_6 : decode cX7_cycleIn 6 = .ok (.iload_n 2, 1) := by decide +kernel
theorem dX7_cycleIn_7 : decode cX7_cycleIn 7 = .ok (.iconst 1, 1) := by decide +kernel
theorem dX7_cycleIn_8 : decode cX7_cycleIn 8 = .ok (.bipush 40, 2) := by decide +kernel
theorem dX7_cycleIn_10 : decode cX7_cycleIn 10 = .ok (.invokestatic 49, 3) := by decide +kernel
theorem dX7_cycleIn_13 : decode cX7_cycleIn 13 = .ok (.invokestatic 53, 3) := by decide +kernel
theorem dX7_cycleIn_16 : decode cX7_cycleIn 16 = .ok (.aload_n 0, 1) := by decide +kernel
theorem dX7_cycleIn_17 : decode cX7_cycleIn 17 = .ok (.getfield 31, 3) := by decide +kernel
theorem dX7_cycleIn_20 : decode cX7_cycleIn 20 = .ok (.aload_n 3, 1) := by decide +kernel
theorem dX7_cycleIn_21 : decode cX7_cycleIn 21 = .ok (.iload_n 2, 1) := by decide +kernel
theorem dX7_cycleIn_22 : decode cX7_cycleIn 22 = .ok (.invokevirtual 168, 3) := by decide +kernel
theorem dX7_cycleIn_25 : decode cX7_cycleIn 25 = .ok (.ireturn, 1) := by decide +kernel
set_option maxRecDepth 20000 in
theorem ggX7_backIn_X7_find : GoodIn wsX7_backIn wsX7_find := goodIn_ca (goodIn_r _ [5, 6, 7, 8, 9, 134, 135, 136, 137, 138, 139, 140, 141, 142, 143, 144] (by decide +kernel) (by decide +kernel)) (goodIn_sub (fun _ h => List.mem_cons_of_mem _ (List.mem_append_right _ h)) (by decide +kernel))
set_option maxRecDepth 20000 in
theorem gX7_backIn_X7_find : GoodIn wsX7_backIn (wsV RX7 67 RX7 yX7_find wsX7_find) := goodIn_app (goodIn_of _ (by decide +kernel)) ggX7_backIn_X7_find
theorem dX7_backIn_0 : decode cX7_backIn 0 = .ok (.aload_n 0, 1) := by decide +kernel
theorem dX7_backIn_1 : decode cX7_backIn 1 = .ok (.aload_n 0, 1) := by decide +kernel
theorem dX7_backIn_2 : decode cX7_backIn 2 = .ok (.iload_n 1, 1) := by decide +kernel
theorem dX7_backIn_3 : decode cX7_backIn 3 = .ok (.invokevirtual 67, 3) := by decide +kernel
theorem dX7_backIn_6 : decode cX7_backIn 6 = .ok (.invokevirtual 172, 3) := by decide +kernel
theorem dX7_backIn_9 : decode cX7_backIn 9 = .ok (.ireturn, 1) := by decide +kernel
set_option maxRecDepth 20000 in
theorem ggX7_gramIn_X7_find : GoodIn wsX7_gramIn wsX7_find := goodIn_ca (goodIn_r _ [6, 7, 8, 9, 10, 74, 75, 76, 77, 78, 79, 80, 81, 82, 83, 84] (by decide +kernel) (by decide +kernel)) (goodIn_sub (fun _ h => List.mem_cons_of_mem _ (List.mem_append_right _ h)) (by decide +kernel))
set_option maxRecDepth 20000 in
theorem gX7_gramIn_X7_find : GoodIn wsX7_gramIn (wsV RX7 67 RX7 yX7_find wsX7_find) := goodIn_app (goodIn_of _ (by decide +kernel)) ggX7_gramIn_X7_find
theorem dX7_gramIn_0 : decode cX7_gramIn 0 = .ok (.aload_n 0, 1) := by decide +kernel
theorem dX7_gramIn_1 : decode cX7_gramIn 1 = .ok (.getfield 45, 3) := by decide +kernel
theorem dX7_gramIn_4 : decode cX7_gramIn 4 = .ok (.aload_n 0, 1) := by decide +kernel
theorem dX7_gramIn_5 : decode cX7_gramIn 5 = .ok (.iload_n 1, 1) := by decide +kernel
theorem dX7_gramIn_6 : decode cX7_gramIn 6 = .ok (.invokevirtual 67, 3) := by decide +kernel
theorem dX7_gramIn_9 : decode cX7_gramIn 9 = .ok (.invokevirtual 175, 3) := by decide +kernel
theorem dX7_gramIn_12 : decode cX7_gramIn 12 = .ok (.ireturn, 1) := by decide +kernel
set_option maxRecDepth 20000 in
theorem ggX7_digest_X7_many : GoodIn wsX7_digest wsX7_many := goodIn_ca (goodIn_ca (goodIn_r _ [9, 3, 4, 10, 11, 12, 13, 14, 8, 15, 16, 17, 18, 19, 20, 21, 22, 23, 24, 25, 26, 27, 28, 29, 30, 31, 32, 33, 34, 35, 36, 37, 38, 39, 40, 41, 42, 43, 44, 45, 46, 47, 48, 49, 50, 51, 297, 298, 299, 300, 301, 302, 303, 304, 305, 306, 307, 308, 309, 310, 311, 312, 313, 314] (by decide +kernel) (by decide +kernel)) (goodIn_sub (fun _ h => List.mem_cons_of_mem _ (List.mem_append_left _ (List.mem_append_right _ h))) (by decide +kernel))) (goodIn_sub (fun _ h => List.mem_cons_of_mem _ (List.mem_append_right _ h)) (by decide +kernel))
set_option maxRecDepth 20000 in
theorem gX7_digest_X7_many : GoodIn wsX7_digest (wsV RX7 265 RX7 yX7_many wsX7_many) := goodIn_app (goodIn_of _ (by decide +kernel)) ggX7_digest_X7_many
set_option maxRecDepth 20000 in
theorem ggX7_digest_X7_tagged : GoodIn wsX7_digest wsX7_tagged := goodIn_ca (goodIn_ca (goodIn_r _ [275, 276, 277, 278, 8, 279, 30, 31, 4, 280, 13, 14, 15, 16, 17, 18, 19, 20, 281, 282, 283, 284, 285, 286, 287, 288, 289, 290, 291, 292, 297, 298, 299, 300, 301, 302, 303, 304, 305, 306, 307, 332, 333, 334] (by decide +kernel) (by decide +kernel)) (goodIn_sub (fun _ h => List.mem_cons_of_mem _ (List.mem_append_right _ h)) (by decide +kernel))) (goodIn_sub (fun _ h => List.mem_cons_of_mem _ (List.mem_append_left _ (List.mem_append_right _ h))) (by decide +kernel))
set_option maxRecDepth 20000 in
theorem gX7_digest_X7_tagged : GoodIn wsX7_digest (wsV RX7 275 RX7 yX7_tagged wsX7_tagged) := goodIn_app (goodIn_of _ (by decide +kernel)) ggX7_digest_X7_tagged
set_option maxRecDepth 20000 in
theorem ggX7_digest_X7_champion : GoodIn wsX7_digest wsX7_champion := goodIn_ca (goodIn_ca (goodIn_r _ [296, 3, 25, 13, 14, 8, 15, 16, 17, 18, 19, 20, 26, 27, 28, 29, 30, 31, 32, 141, 142, 143, 144, 67, 145, 146, 147, 148, 93, 149, 68, 69, 70, 71, 72, 73, 74, 75, 76, 77, 78, 79, 80, 81, 82, 83, 84, 85, 86, 87, 88, 89, 90, 91, 92, 94, 95, 96, 97, 98, 99, 100, 101, 102, 103, 104, 105, 106, 107, 48, 49, 40, 50, 51, 108, 109, 110, 111, 112, 113, 114, 115, 116, 117, 118, 119, 120, 121, 150, 151, 152, 153, 154, 297, 298, 299, 300, 301, 302, 303, 304, 305, 306, 307, 308, 309, 310, 311, 312, 313, 314, 315, 316, 317, 318, 319, 320] (by decide +kernel) (by decide +kernel)) (goodIn_sub (fun _ h => List.mem_cons_of_mem _ (List.mem_append_left _ (List.mem_append_right _ h))) (by decide +kernel))) (goodIn_sub (fun _ h => List.mem_cons_of_mem _ (List.mem_append_right _ h)) (by decide +kernel))
set_option maxRecDepth 20000 in
theorem gX7_digest_X7_champion : GoodIn wsX7_digest (wsV RX7 279 RX7 yX7_champion wsX7_champion) := goodIn_app (goodIn_of _ (by decide +kernel)) ggX7_digest_X7_champion
theorem dX7_digest_0 : decode cX7_digest 0 = .ok (.ldc2_w 261, 3) := by decide +kernel
theorem dX7_digest_3 : decode cX7_digest 3 = .ok (.lstore_n 1, 1) := by decide +kernel
theorem dX7_digest_4 : decode cX7_digest 4 = .ok (.iconst 0, 1) := by decide +kernel
theorem dX7_digest_5 : decode cX7_digest 5 = .ok (.istore_n 3, 1) := by decide +kernel
theorem dX7_digest_6 : decode cX7_digest 6 = .ok (.iload_n 3, 1) := by decide +kernel
theorem dX7_digest_7 : decode cX7_digest 7 = .ok (.bipush 10, 2) := by decide +kernel
theorem dX7_digest_9 : decode cX7_digest 9 = .ok (.if_icmp .gt 22, 3) := by decide +kernel
theorem dX7_digest_12 : decode cX7_digest 12 = .ok (.lload_n 1, 1) := by decide +kernel
theorem dX7_digest_13 : decode cX7_digest 13 = .ok (.ldc2_w 263, 3) := by decide +kernel
theorem dX7_digest_16 : decode cX7_digest 16 = .ok (.lmul, 1) := by decide +kernel
theorem dX7_digest_17 : decode cX7_digest 17 = .ok (.aload_n 0, 1) := by decide +kernel
theorem dX7_digest_18 : decode cX7_digest 18 = .ok (.iload_n 3, 1) := by decide +kernel
theorem dX7_digest_19 : decode cX7_digest 19 = .ok (.invokevirtual 265, 3) := by decide +kernel
theorem dX7_digest_22 : decode cX7_digest 22 = .ok (.i2l, 1) := by decide +kernel
theorem dX7_digest_23 : decode cX7_digest 23 = .ok (.ladd, 1) := by decide +kernel
theorem dX7_digest_24 : decode cX7_digest 24 = .ok (.lstore_n 1, 1) := by decide +kernel
theorem dX7_digest_25 : decode cX7_digest 25 = .ok (.iinc 3 1, 3) := by decide +kernel
theorem dX7_digest_28 : decode cX7_digest 28 = .ok (.goto (-22), 3) := by decide +kernel
theorem dX7_digest_31 : decode cX7_digest 31 = .ok (.iconst 0, 1) := by decide +kernel
theorem dX7_digest_32 : decode cX7_digest 32 = .ok (.istore_n 3, 1) := by decide +kernel
theorem dX7_digest_33 : decode cX7_digest 33 = .ok (.iload_n 3, 1) := by decide +kernel
theorem dX7_digest_34 : decode cX7_digest 34 = .ok (.aload_n 0, 1) := by decide +kernel
theorem dX7_digest_35 : decode cX7_digest 35 = .ok (.getfield 148, 3) := by decide +kernel
theorem dX7_digest_38 : decode cX7_digest 38 = .ok (.if_icmp .ge 23, 3) := by decide +kernel
theorem dX7_digest_41 : decode cX7_digest 41 = .ok (.aload_n 0, 1) := by decide +kernel
theorem dX7_digest_42 : decode cX7_digest 42 = .ok (.lload_n 1, 1) := by decide +kernel
theorem dX7_digest_43 : decode cX7_digest 43 = .ok (.iload_n 3, 1) := by decide +kernel
theorem dX7_digest_44 : decode cX7_digest 44 = .ok (.invokevirtual 268, 3) := by decide +kernel
theorem dX7_digest_47 : decode cX7_digest 47 = .ok (.lstore_n 1, 1) := by decide +kernel
theorem dX7_digest_48 : decode cX7_digest 48 = .ok (.aload_n 0, 1) := by decide +kernel
theorem dX7_digest_49 : decode cX7_digest 49 = .ok (.lload_n 1, 1) := by decide +kernel
theorem dX7_digest_50 : decode cX7_digest 50 = .ok (.iload_n 3, 1) := by decide +kernel
theorem dX7_digest_51 : decode cX7_digest 51 = .ok (.invokevirtual 272, 3) := by decide +kernel
theorem dX7_digest_54 : decode cX7_digest 54 = .ok (.lstore_n 1, 1) := by decide +kernel
theorem dX7_digest_55 : decode cX7_digest 55 = .ok (.iinc 3 1, 3) := by decide +kernel
theorem dX7_digest_58 : decode cX7_digest 58 = .ok (.goto (-25), 3) := by decide +kernel
theorem dX7_digest_61 : decode cX7_digest 61 = .ok (.iconst 0, 1) := by decide +kernel
theorem dX7_digest_62 : decode cX7_digest 62 = .ok (.istore_n 3, 1) := by decide +kernel
theorem dX7_digest_63 : decode cX7_digest 63 = .ok (.iload_n 3, 1) := by decide +kernel
theorem dX7_digest_64 : decode cX7_digest 64 = .ok (.aload_n 0, 1) := by decide +kernel
theorem dX7_digest_65 : decode cX7_digest 65 = .ok (.getfield 122, 3) := by decide +kernel
theorem dX7_digest_68 : decode cX7_digest 68 = .ok (.if_icmp .ge 26, 3) := by decide +kernel
theorem dX7_digest_71 : decode cX7_digest 71 = .ok (.lload_n 1, 1) := by decide +kernel
theorem dX7_digest_72 : decode cX7_digest 72 = .ok (.ldc2_w 263, 3) := by decide +kernel
theorem dX7_digest_75 : decode cX7_digest 75 = .ok (.lmul, 1) := by decide +kernel
theorem dX7_digest_76 : decode cX7_digest 76 = .ok (.aload_n 0, 1) := by decide +kernel
theorem dX7_digest_77 : decode cX7_digest 77 = .ok (.iload_n 3, 1) := by decide +kernel
theorem dX7_digest_78 : decode cX7_digest 78 = .ok (.bipush 10, 2) := by decide +kernel
theorem dX7_digest_80 : decode cX7_digest 80 = .ok (.bipush 9, 2) := by decide +kernel
theorem dX7_digest_82 : decode cX7_digest 82 = .ok (.invokevirtual 275, 3) := by decide +kernel
theorem dX7_digest_85 : decode cX7_digest 85 = .ok (.i2l, 1) := by decide +kernel
theorem dX7_digest_86 : decode cX7_digest 86 = .ok (.ladd, 1) := by decide +kernel
theorem dX7_digest_87 : decode cX7_digest 87 = .ok (.lstore_n 1, 1) := by decide +kernel
theorem dX7_digest_88 : decode cX7_digest 88 = .ok (.iinc 3 1, 3) := by decide +kernel
theorem dX7_digest_91 : decode cX7_digest 91 = .ok (.goto (-28), 3) := by decide +kernel
theorem dX7_digest_94 : decode cX7_digest 94 = .ok (.lload_n 1, 1) := by decide +kernel
theorem dX7_digest_95 : decode cX7_digest 95 = .ok (.ldc2_w 263, 3) := by decide +kernel
theorem dX7_digest_98 : decode cX7_digest 98 = .ok (.lmul, 1) := by decide +kernel
theorem dX7_digest_99 : decode cX7_digest 99 = .ok (.aload_n 0, 1) := by decide +kernel
theorem dX7_digest_100 : decode cX7_digest 100 = .ok (.iconst 0, 1) := by decide +kernel
theorem dX7_digest_101 : decode cX7_digest 101 = .ok (.invokevirtual 279, 3) := by decide +kernel
theorem dX7_digest_104 : decode cX7_digest 104 = .ok (.i2l, 1) := by decide +kernel
theorem dX7_digest_105 : decode cX7_digest 105 = .ok (.ladd, 1) := by decide +kernel
theorem dX7_digest_106 : decode cX7_digest 106 = .ok (.lstore_n 1, 1) := by decide +kernel
theorem dX7_digest_107 : decode cX7_digest 107 = .ok (.lload_n 1, 1) := by decide +kernel
theorem dX7_digest_108 : decode cX7_digest 108 = .ok (.ldc2_w 263, 3) := by decide +kernel
theorem dX7_digest_111 : decode cX7_digest 111 = .ok (.lmul, 1) := by decide +kernel
theorem dX7_digest_112 : decode cX7_digest 112 = .ok (.aload_n 0, 1) := by decide +kernel
theorem dX7_digest_113 : decode cX7_digest 113 = .ok (.iconst 1, 1) := by decide +kernel
theorem dX7_digest_114 : decode cX7_digest 114 = .ok (.invokevirtual 279, 3) := by decide +kernel
theorem dX7_digest_117 : decode cX7_digest 117 = .ok (.i2l, 1) := by decide +kernel
theorem dX7_digest_118 : decode cX7_digest 118 = .ok (.ladd, 1) := by decide +kernel
theorem dX7_digest_119 : decode cX7_digest 119 = .ok (.lreturn, 1) := by decide +kernel
theorem dX7_isWithin_0 : decode cX7_isWithin 0 = .ok (.iload_n 0, 1) := by decide +kernel
theorem dX7_isWithin_1 : decode cX7_isWithin 1 = .ok (.iload_n 1, 1) := by decide +kernel
theorem dX7_isWithin_2 : decode cX7_isWithin 2 = .ok (.if_icmp .lt 12, 3) := by decide +kernel
theorem dX7_isWithin_5 : decode cX7_isWithin 5 = .ok (.iload_n 0, 1) := by decide +kernel
theorem dX7_isWithin_6 : decode cX7_isWithin 6 = .ok (.iload_n 2, 1) := by decide +kernel
theorem dX7_isWithin_7 : decode cX7_isWithin 7 = .ok (.if_icmp .gt 7, 3) := by decide +kernel
theorem dX7_isWithin_10 : decode cX7_isWithin 10 = .ok (.iconst 1, 1) := by decide +kernel
theorem dX7_isWithin_11 : decode cX7_isWithin 11 = .ok (.goto 4, 3) := by decide +kernel
theorem dX7_isWithin_14 : decode cX7_isWithin 14 = .ok (.iconst 0, 1) := by decide +kernel
theorem dX7_isWithin_15 : decode cX7_isWithin 15 = .ok (.ireturn, 1) := by decide +kernel
theorem dX7_require_0 : decode cX7_require 0 = .ok (.iload_n 0, 1) := by decide +kernel
theorem dX7_require_1 : decode cX7_require 1 = .ok (.ifCond .ne 14, 3) := by decide +kernel
theorem dX7_require_4 : decode cX7_require 4 = .ok (.new 292, 3) := by decide +kernel
theorem dX7_require_7 : decode cX7_require 7 = .ok (.dup, 1) := by decide +kernel
theorem dX7_require_8 : decode cX7_require 8 = .ok (.ldc_w 294, 3) := by decide +kernel
theorem dX7_require_11 : decode cX7_require 11 = .ok (.invokespecial 296, 3) := by decide +kernel
theorem dX7_require_14 : decode cX7_require 14 = .ok (.athrow, 1) := by decide +kernel
theorem dX7_require_15 : decode cX7_require 15 = .ok (.return_, 1) := by decide +kernel
theorem dX7_requireRoomForMachine_0 : decode cX7_requireRoomForMachine 0 = .ok (.aload_n 0, 1) := by decide +kernel
theorem dX7_requireRoomForMachine_1 : decode cX7_requireRoomForMachine 1 = .ok (.getfield 148, 3) := by decide +kernel
theorem dX7_requireRoomForMachine_4 : decode cX7_requireRoomForMachine 4 = .ok (.ifCond .lt 12, 3) := by decide +kernel
theorem dX7_requireRoomForMachine_7 : decode cX7_requireRoomForMachine 7 = .ok (.aload_n 0, 1) := by decide +kernel
theorem dX7_requireRoomForMachine_8 : decode cX7_requireRoomForMachine 8 = .ok (.getfield 148, 3) := by decide +kernel
theorem dX7_requireRoomForMachine_11 : decode cX7_requireRoomForMachine 11 = .ok (.bipush 12, 2) := by decide +kernel
theorem dX7_requireRoomForMachine_13 : decode cX7_requireRoomForMachine 13 = .ok (.if_icmp .lt 14, 3) := by decide +kernel
theorem dX7_requireRoomForMachine_16 : decode cX7_requireRoomForMachine 16 = .ok (.new 83, 3) := by decide +kernel
theorem dX7_requireRoomForMachine_19 : decode cX7_requireRoomForMachine 19 = .ok (.dup, 1) := by decide +kernel
theorem dX7_requireRoomForMachine_20 : decode cX7_requireRoomForMachine 20 = .ok (.ldc_w 299, 3) := by decide +kernel
theorem dX7_requireRoomForMachine_23 : decode cX7_requireRoomForMachine 23 = .ok (.invokespecial 87, 3) := by decide +kernel
theorem dX7_requireRoomForMachine_26 : decode cX7_requireRoomForMachine 26 = .ok (.athrow, 1) := by decide +kernel
theorem dX7_requireRoomForMachine_27 : decode cX7_requireRoomForMachine 27 = .ok (.return_, 1) := by decide +kernel
theorem dX7_find_0 : decode cX7_find 0 = .ok (.iload_n 1, 1) := by decide +kernel
theorem dX7_find_1 : decode cX7_find 1 = .ok (.ifCond .lt 17, 3) := by decide +kernel
theorem dX7_find_4 : decode cX7_find 4 = .ok (.iload_n 1, 1) := by decide +kernel
theorem dX7_find_5 : decode cX7_find 5 = .ok (.aload_n 0, 1) := by decide +kernel
theorem dX7_find_6 : decode cX7_find 6 = .ok (.getfield 148, 3) := by decide +kernel
theorem dX7_find_9 : decode cX7_find 9 = .ok (.if_icmp .ge 9, 3) := by decide +kernel
theorem dX7_find_12 : decode cX7_find 12 = .ok (.iload_n 1, 1) := by decide +kernel
theorem dX7_find_13 : decode cX7_find 13 = .ok (.bipush 12, 2) := by decide +kernel
theorem dX7_find_15 : decode cX7_find 15 = .ok (.if_icmp .lt 14, 3) := by decide +kernel
theorem dX7_find_18 : decode cX7_find 18 = .ok (.new 301, 3) := by decide +kernel
theorem dX7_find_21 : decode cX7_find 21 = .ok (.dup, 1) := by decide +kernel
theorem dX7_find_22 : decode cX7_find 22 = .ok (.ldc_w 303, 3) := by decide +kernel
theorem dX7_find_25 : decode cX7_find 25 = .ok (.invokespecial 305, 3) := by decide +kernel
theorem dX7_find_28 : decode cX7_find 28 = .ok (.athrow, 1) := by decide +kernel
theorem dX7_find_29 : decode cX7_find 29 = .ok (.aload_n 0, 1) := by decide +kernel
theorem dX7_find_30 : decode cX7_find 30 = .ok (.getfield 11, 3) := by decide +kernel
theorem dX7_find_33 : decode cX7_find 33 = .ok (.iload_n 1, 1) := by decide +kernel
theorem dX7_find_34 : decode cX7_find 34 = .ok (.aaload, 1) := by decide +kernel
theorem dX7_find_35 : decode cX7_find 35 = .ok (.astore_n 2, 1) := by decide +kernel
theorem dX7_find_36 : decode cX7_find 36 = .ok (.aload_n 2, 1) := by decide +kernel
theorem dX7_find_37 : decode cX7_find 37 = .ok (.ifnonnull 14, 3) := by decide +kernel
theorem dX7_find_40 : decode cX7_find 40 = .ok (.new 301, 3) := by decide +kernel
theorem dX7_find_43 : decode cX7_find 43 = .ok (.dup, 1) := by decide +kernel
theorem dX7_find_44 : decode cX7_find 44 = .ok (.ldc_w 303, 3) := by decide +kernel
theorem dX7_find_47 : decode cX7_find 47 = .ok (.invokespecial 305, 3) := by decide +kernel
theorem dX7_find_50 : decode cX7_find 50 = .ok (.athrow, 1) := by decide +kernel
theorem dX7_find_51 : decode cX7_find 51 = .ok (.aload_n 2, 1) := by decide +kernel
theorem dX7_find_52 : decode cX7_find 52 = .ok (.areturn, 1) := by decide +kernel
theorem dX7_findTag_0 : decode cX7_findTag 0 = .ok (.iload_n 1, 1) := by decide +kernel
theorem dX7_findTag_1 : decode cX7_findTag 1 = .ok (.ifCond .lt 16, 3) := by decide +kernel
theorem dX7_findTag_4 : decode cX7_findTag 4 = .ok (.iload_n 1, 1) := by decide +kernel
theorem dX7_findTag_5 : decode cX7_findTag 5 = .ok (.aload_n 0, 1) := by decide +kernel
theorem dX7_findTag_6 : decode cX7_findTag 6 = .ok (.getfield 122, 3) := by decide +kernel
theorem dX7_findTag_9 : decode cX7_findTag 9 = .ok (.if_icmp .ge 8, 3) := by decide +kernel
theorem dX7_findTag_12 : decode cX7_findTag 12 = .ok (.iload_n 1, 1) := by decide +kernel
theorem dX7_findTag_13 : decode cX7_findTag 13 = .ok (.iconst 4, 1) := by decide +kernel
theorem dX7_findTag_14 : decode cX7_findTag 14 = .ok (.if_icmp .lt 14, 3) := by decide +kernel
theorem dX7_findTag_17 : decode cX7_findTag 17 = .ok (.new 301, 3) := by decide +kernel
theorem dX7_findTag_20 : decode cX7_findTag 20 = .ok (.dup, 1) := by decide +kernel
theorem dX7_findTag_21 : decode cX7_findTag 21 = .ok (.ldc_w 308, 3) := by decide +kernel
theorem dX7_findTag_24 : decode cX7_findTag 24 = .ok (.invokespecial 305, 3) := by decide +kernel
theorem dX7_findTag_27 : decode cX7_findTag 27 = .ok (.athrow, 1) := by decide +kernel
theorem dX7_findTag_28 : decode cX7_findTag 28 = .ok (.aload_n 0, 1) := by decide +kernel
theorem dX7_findTag_29 : decode cX7_findTag 29 = .ok (.getfield 17, 3) := by decide +kernel
theorem dX7_findTag_32 : decode cX7_findTag 32 = .ok (.iload_n 1, 1) := by decide +kernel
theorem dX7_findTag_33 : decode cX7_findTag 33 = .ok (.aaload, 1) := by decide +kernel
theorem dX7_findTag_34 : decode cX7_findTag 34 = .ok (.astore_n 2, 1) := by decide +kernel
theorem dX7_findTag_35 : decode cX7_findTag 35 = .ok (.aload_n 2, 1) := by decide +kernel
theorem dX7_findTag_36 : decode cX7_findTag 36 = .ok (.ifnonnull 14, 3) := by decide +kernel
theorem dX7_findTag_39 : decode cX7_findTag 39 = .ok (.new 301, 3) := by decide +kernel
theorem dX7_findTag_42 : decode cX7_findTag 42 = .ok (.dup, 1) := by decide +kernel
theorem dX7_findTag_43 : decode cX7_findTag 43 = .ok (.ldc_w 308, 3) := by decide +kernel
theorem dX7_findTag_46 : decode cX7_findTag 46 = .ok (.invokespecial 305, 3) := by decide +kernel
theorem dX7_findTag_49 : decode cX7_findTag 49 = .ok (.athrow, 1) := by decide +kernel
theorem dX7_findTag_50 : decode cX7_findTag 50 = .ok (.aload_n 2, 1) := by decide +kernel
theorem dX7_findTag_51 : decode cX7_findTag 51 = .ok (.areturn, 1) := by decide +kernel
theorem dX7_append_0 : decode cX7_append 0 = .ok (.aload_n 0, 1) := by decide +kernel
theorem dX7_append_1 : decode cX7_append 1 = .ok (.getfield 148, 3) := by decide +kernel
theorem dX7_append_4 : decode cX7_append 4 = .ok (.ifCond .lt 32, 3) := by decide +kernel
theorem dX7_append_7 : decode cX7_append 7 = .ok (.aload_n 0, 1) := by decide +kernel
theorem dX7_append_8 : decode cX7_append 8 = .ok (.getfield 148, 3) := by decide +kernel
theorem dX7_append_11 : decode cX7_append 11 = .ok (.bipush 12, 2) := by decide +kernel
theorem dX7_append_13 : decode cX7_append 13 = .ok (.if_icmp .ge 23, 3) := by decide +kernel
theorem dX7_append_16 : decode cX7_append 16 = .ok (.aload_n 0, 1) := by decide +kernel
theorem dX7_append_17 : decode cX7_append 17 = .ok (.getfield 11, 3) := by decide +kernel
theorem dX7_append_20 : decode cX7_append 20 = .ok (.aload_n 0, 1) := by decide +kernel
theorem dX7_append_21 : decode cX7_append 21 = .ok (.getfield 148, 3) := by decide +kernel
theorem dX7_append_24 : decode cX7_append 24 = .ok (.aload_n 1, 1) := by decide +kernel
theorem dX7_append_25 : decode cX7_append 25 = .ok (.aastore, 1) := by decide +kernel
theorem dX7_append_26 : decode cX7_append 26 = .ok (.aload_n 0, 1) := by decide +kernel
theorem dX7_append_27 : decode cX7_append 27 = .ok (.dup, 1) := by decide +kernel
theorem dX7_append_28 : decode cX7_append 28 = .ok (.getfield 148, 3) := by decide +kernel
theorem dX7_append_31 : decode cX7_append 31 = .ok (.iconst 1, 1) := by decide +kernel
theorem dX7_append_32 : decode cX7_append 32 = .ok (.iadd, 1) := by decide +kernel
theorem dX7_append_33 : decode cX7_append 33 = .ok (.putfield 148, 3) := by decide +kernel
theorem dX7_append_36 : decode cX7_append 36 = .ok (.aload_n 0, 1) := by decide +kernel
theorem dX7_append_37 : decode cX7_append 37 = .ok (.getfield 148, 3) := by decide +kernel
theorem dX7_append_40 : decode cX7_append 40 = .ok (.iconst 1, 1) := by decide +kernel
theorem dX7_append_41 : decode cX7_append 41 = .ok (.isub, 1) := by decide +kernel
theorem dX7_append_42 : decode cX7_append 42 = .ok (.ireturn, 1) := by decide +kernel
set_option maxRecDepth 20000 in
theorem ggX7_countOfKind_X7_find : GoodIn wsX7_countOfKind wsX7_find := goodIn_ca (goodIn_r _ [7, 8, 9, 1, 10, 11, 12, 13, 14, 15, 16, 17, 18, 19, 20, 21] (by decide +kernel) (by decide +kernel)) (goodIn_sub (fun _ h => List.mem_cons_of_mem _ (List.mem_append_right _ h)) (by decide +kernel))
set_option maxRecDepth 20000 in
theorem gX7_countOfKind_X7_find : GoodIn wsX7_countOfKind (wsV RX7 67 RX7 yX7_find wsX7_find) := goodIn_app (goodIn_of _ (by decide +kernel)) ggX7_countOfKind_X7_find
theorem dX7_countOfKind_0 : decode cX7_countOfKind 0 = .ok (.iconst 0, 1) := by decide +kernel
theorem dX7_countOfKind_1 : decode cX7_countOfKind 1 = .ok (.istore_n 2, 1) := by decide +kernel
theorem dX7_countOfKind_2 : decode cX7_countOfKind 2 = .ok (.iconst 0, 1) := by decide +kernel
theorem dX7_countOfKind_3 : decode cX7_countOfKind 3 = .ok (.istore_n 3, 1) := by decide +kernel
theorem dX7_countOfKind_4 : decode cX7_countOfKind 4 = .ok (.iload_n 3, 1) := by decide +kernel
theorem dX7_countOfKind_5 : decode cX7_countOfKind 5 = .ok (.aload_n 0, 1) := by decide +kernel
theorem dX7_countOfKind_6 : decode cX7_countOfKind 6 = .ok (.getfield 148, 3) := by decide +kernel
theorem dX7_countOfKind_9 : decode cX7_countOfKind 9 = .ok (.if_icmp .ge 24, 3) := by decide +kernel
theorem dX7_countOfKind_12 : decode cX7_countOfKind 12 = .ok (.aload_n 0, 1) := by decide +kernel
theorem dX7_countOfKind_13 : decode cX7_countOfKind 13 = .ok (.iload_n 3, 1) := by decide +kernel
theorem dX7_countOfKind_14 : decode cX7_countOfKind 14 = .ok (.invokevirtual 67, 3) := by decide +kernel
theorem dX7_countOfKind_17 : decode cX7_countOfKind 17 = .ok (.getfield 151, 3) := by decide +kernel
theorem dX7_countOfKind_20 : decode cX7_countOfKind 20 = .ok (.iload_n 1, 1) := by decide +kernel
theorem dX7_countOfKind_21 : decode cX7_countOfKind 21 = .ok (.if_icmp .ne 6, 3) := by decide +kernel
theorem dX7_countOfKind_24 : decode cX7_countOfKind 24 = .ok (.iinc 2 1, 3) := by decide +kernel
theorem dX7_countOfKind_27 : decode cX7_countOfKind 27 = .ok (.iinc 3 1, 3) := by decide +kernel
theorem dX7_countOfKind_30 : decode cX7_countOfKind 30 = .ok (.goto (-26), 3) := by decide +kernel
theorem dX7_countOfKind_33 : decode cX7_countOfKind 33 = .ok (.iload_n 2, 1) := by decide +kernel
theorem dX7_countOfKind_34 : decode cX7_countOfKind 34 = .ok (.ireturn, 1) := by decide +kernel
set_option maxRecDepth 20000 in
theorem ggX7_countEmptyCells_X7_find : GoodIn wsX7_countEmptyCells wsX7_find := goodIn_ca (goodIn_r _ [6, 7, 8, 1, 9, 25, 26, 27, 28, 29, 30, 31, 32, 33, 34, 35] (by decide +kernel) (by decide +kernel)) (goodIn_sub (fun _ h => List.mem_cons_of_mem _ (List.mem_append_right _ h)) (by decide +kernel))
set_option maxRecDepth 20000 in
theorem gX7_countEmptyCells_X7_find : GoodIn wsX7_countEmptyCells (wsV RX7 67 RX7 yX7_find wsX7_find) := goodIn_app (goodIn_of _ (by decide +kernel)) ggX7_countEmptyCells_X7_find
theorem dX7_countEmptyCells_0 : decode cX7_countEmptyCells 0 = .ok (.iconst 0, 1) := by decide +kernel
theorem dX7_countEmptyCells_1 : decode cX7_countEmptyCells 1 = .ok (.istore_n 1, 1) := by decide +kernel
theorem dX7_countEmptyCells_2 : decode cX7_countEmptyCells 2 = .ok (.iconst 0, 1) := by decide +kernel
theorem dX7_countEmptyCells_3 : decode cX7_countEmptyCells 3 = .ok (.istore_n 2, 1) := by decide +kernel
theorem dX7_countEmptyCells_4 : decode cX7_countEmptyCells 4 = .ok (.iload_n 2, 1) := by decide +kernel
theorem dX7_countEmptyCells_5 : decode cX7_countEmptyCells 5 = .ok (.aload_n 0, 1) := by decide +kernel
theorem dX7_countEmptyCells_6 : decode cX7_countEmptyCells 6 = .ok (.getfield 148, 3) := by decide +kernel
theorem dX7_countEmptyCells_9 : decode cX7_countEmptyCells 9 = .ok (.if_icmp .ge 20, 3) := by decide +kernel
theorem dX7_countEmptyCells_12 : decode cX7_countEmptyCells 12 = .ok (.iload_n 1, 1) := by decide +kernel
theorem dX7_countEmptyCells_13 : decode cX7_countEmptyCells 13 = .ok (.aload_n 0, 1) := by decide +kernel
theorem dX7_countEmptyCells_14 : decode cX7_countEmptyCells 14 = .ok (.iload_n 2, 1) := by decide +kernel
theorem dX7_countEmptyCells_15 : decode cX7_countEmptyCells 15 = .ok (.invokevirtual 67, 3) := by decide +kernel
theorem dX7_countEmptyCells_18 : decode cX7_countEmptyCells 18 = .ok (.invokevirtual 98, 3) := by decide +kernel
theorem dX7_countEmptyCells_21 : decode cX7_countEmptyCells 21 = .ok (.iadd, 1) := by decide +kernel
theorem dX7_countEmptyCells_22 : decode cX7_countEmptyCells 22 = .ok (.istore_n 1, 1) := by decide +kernel
theorem dX7_countEmptyCells_23 : decode cX7_countEmptyCells 23 = .ok (.iinc 2 1, 3) := by decide +kernel
theorem dX7_countEmptyCells_26 : decode cX7_countEmptyCells 26 = .ok (.goto (-22), 3) := by decide +kernel
theorem dX7_countEmptyCells_29 : decode cX7_countEmptyCells 29 = .ok (.iload_n 1, 1) := by decide +kernel
theorem dX7_countEmptyCells_30 : decode cX7_countEmptyCells 30 = .ok (.ireturn, 1) := by decide +kernel
theorem dX8_init_0 : decode cX8_init 0 = .ok (.aload_n 0, 1) := by decide +kernel
theorem dX8_init_1 : decode cX8_init 1 = .ok (.invokespecial 3, 3) := by decide +kernel
theorem dX8_init_4 : decode cX8_init 4 = .ok (.aload_n 0, 1) := by decide +kernel
theorem dX8_init_5 : decode cX8_init 5 = .ok (.iconst (-1), 1) := by decide +kernel
theorem dX8_init_6 : decode cX8_init 6 = .ok (.putfield 9, 3) := by decide +kernel
theorem dX8_init_9 : decode cX8_init 9 = .ok (.aload_n 0, 1) := by decide +kernel
theorem dX8_init_10 : decode cX8_init 10 = .ok (.iconst (-1), 1) := by decide +kernel
theorem dX8_init_11 : decode cX8_init 11 = .ok (.putfield 15, 3) := by decide +kernel
theorem dX8_init_14 : decode cX8_init 14 = .ok (.aload_n 0, 1) := by decide +kernel
theorem dX8_init_15 : decode cX8_init 15 = .ok (.iconst (-1), 1) := by decide +kernel
theorem dX8_init_16 : decode cX8_init 16 = .ok (.putfield 18, 3) := by decide +kernel
theorem dX8_init_19 : decode cX8_init 19 = .ok (.aload_n 0, 1) := by decide +kernel
theorem dX8_init_20 : decode cX8_init 20 = .ok (.iload_n 1, 1) := by decide +kernel
theorem dX8_init_21 : decode cX8_init 21 = .ok (.putfield 21, 3) := by decide +kernel
theorem dX8_init_24 : decode cX8_init 24 = .ok (.aload_n 0, 1) := by decide +kernel
theorem dX8_init_25 : decode cX8_init 25 = .ok (.iconst 2, 1) := by decide +kernel
theorem dX8_init_26 : decode cX8_init 26 = .ok (.iload_n 1, 1) := by decide +kernel
theorem dX8_init_27 : decode cX8_init 27 = .ok (.imul, 1) := by decide +kernel
theorem dX8_init_28 : decode cX8_init 28 = .ok (.anewarray 24, 3) := by decide +kernel
theorem dX8_init_31 : decode cX8_init 31 = .ok (.putfield 26, 3) := by decide +kernel
theorem dX8_init_34 : decode cX8_init 34 = .ok (.return_, 1) := by decide +kernel
set_option maxRecDepth 20000 in
theorem ggX10_init_Jx4a65c_init_da8c8 : GoodIn wsX10_init wsJx4a65c_init_da8c8 := goodIn_r _ [11, 12, 13, 14, 15, 16, 17, 18, 19, 20, 21, 22, 23, 2, 3, 24, 25, 26] (by decide +kernel) (by decide +kernel)
set_option maxRecDepth 20000 in
theorem gX10_init_Jx4a65c_init_da8c8 : GoodIn wsX10_init (wsJx4a65c_init_da8c8) := ggX10_init_Jx4a65c_init_da8c8
theorem dX10_init_0 : decode cX10_init 0 = .ok (.aload_n 0, 1) := by decide +kernel
theorem dX10_init_1 : decode cX10_init 1 = .ok (.invokespecial 1, 3) := by decide +kernel
theorem dX10_init_4 : decode cX10_init 4 = .ok (.aload_n 0, 1) := by decide +kernel
theorem dX10_init_5 : decode cX10_init 5 = .ok (.new 7, 3) := by decide +kernel
theorem dX10_init_8 : decode cX10_init 8 = .ok (.dup, 1) := by decide +kernel
theorem dX10_init_9 : decode cX10_init 9 = .ok (.invokespecial 9, 3) := by decide +kernel
theorem dX10_init_12 : decode cX10_init 12 = .ok (.putfield 10, 3) := by decide +kernel
theorem dX10_init_15 : decode cX10_init 15 = .ok (.aload_n 0, 1) := by decide +kernel
theorem dX10_init_16 : decode cX10_init 16 = .ok (.new 7, 3) := by decide +kernel
theorem dX10_init_19 : decode cX10_init 19 = .ok (.dup, 1) := by decide +kernel
theorem dX10_init_20 : decode cX10_init 20 = .ok (.invokespecial 9, 3) := by decide +kernel
theorem dX10_init_23 : decode cX10_init 23 = .ok (.putfield 16, 3) := by decide +kernel
theorem dX10_init_26 : decode cX10_init 26 = .ok (.return_, 1) := by decide +kernel
theorem dX10_thrown_0 : decode cX10_thrown 0 = .ok (.aload_n 0, 1) := by decide +kernel
theorem dX10_thrown_1 : decode cX10_thrown 1 = .ok (.getfield 19, 3) := by decide +kernel
theorem dX10_thrown_4 : decode cX10_thrown 4 = .ok (.ireturn, 1) := by decide +kernel
theorem dX10_refuse_0 : decode cX10_refuse 0 = .ok (.aload_n 0, 1) := by decide +kernel
theorem dX10_refuse_1 : decode cX10_refuse 1 = .ok (.iload_n 1, 1) := by decide +kernel
theorem dX10_refuse_2 : decode cX10_refuse 2 = .ok (.putfield 19, 3) := by decide +kernel
theorem dX10_refuse_5 : decode cX10_refuse 5 = .ok (.iconst 0, 1) := by decide +kernel
theorem dX10_refuse_6 : decode cX10_refuse 6 = .ok (.ireturn, 1) := by decide +kernel
theorem dX10_is_0 : decode cX10_is 0 = .ok (.iload_n 0, 1) := by decide +kernel
theorem dX10_is_1 : decode cX10_is 1 = .ok (.iload_n 1, 1) := by decide +kernel
theorem dX10_is_2 : decode cX10_is 2 = .ok (.if_icmp .lt 12, 3) := by decide +kernel
theorem dX10_is_5 : decode cX10_is 5 = .ok (.iload_n 0, 1) := by decide +kernel
theorem dX10_is_6 : decode cX10_is 6 = .ok (.iload_n 2, 1) := by decide +kernel
theorem dX10_is_7 : decode cX10_is 7 = .ok (.if_icmp .gt 7, 3) := by decide +kernel
theorem dX10_is_10 : decode cX10_is 10 = .ok (.iconst 1, 1) := by decide +kernel
theorem dX10_is_11 : decode cX10_is 11 = .ok (.goto 4, 3) := by decide +kernel
theorem dX10_is_14 : decode cX10_is 14 = .ok (.iconst 0, 1) := by decide +kernel
theorem dX10_is_15 : decode cX10_is 15 = .ok (.ireturn, 1) := by decide +kernel
set_option maxRecDepth 20000 in
theorem ggX10_isMachine_Jx4a65c_size_8abf5 : GoodIn wsX10_isMachine wsJx4a65c_size_8abf5 := goodIn_r _ [6, 7, 19, 20, 21] (by decide +kernel) (by decide +kernel)
set_option maxRecDepth 20000 in
theorem gX10_isMachine_Jx4a65c_size_8abf5 : GoodIn wsX10_isMachine (wsV RX10 23 RJx4a65c yJx4a65c_size_8abf5 wsJx4a65c_size_8abf5) := goodIn_app (goodIn_of _ (by decide +kernel)) ggX10_isMachine_Jx4a65c_size_8abf5
set_option maxRecDepth 20000 in
theorem ggX10_isMachine_X10_is : GoodIn wsX10_isMachine wsX10_is := goodIn_r _ [11] (by decide +kernel) (by decide +kernel)
set_option maxRecDepth 20000 in
theorem gX10_isMachine_X10_is : GoodIn wsX10_isMachine (va_wsS RX10 27 yX10_is wsX10_is) := goodIn_app (goodIn_of _ (by decide +kernel)) ggX10_isMachine_X10_is
theorem dX10_isMachine_0 : decode cX10_isMachine 0 = .ok (.iload_n 1, 1) := by decide +kernel
theorem dX10_isMachine_1 : decode cX10_isMachine 1 = .ok (.iconst 0, 1) := by decide +kernel
theorem dX10_isMachine_2 : decode cX10_isMachine 2 = .ok (.aload_n 0, 1) := by decide +kernel
theorem dX10_isMachine_3 : decode cX10_isMachine 3 = .ok (.getfield 10, 3) := by decide +kernel
theorem dX10_isMachine_6 : decode cX10_isMachine 6 = .ok (.invokevirtual 23, 3) := by decide +kernel
theorem dX10_isMachine_9 : decode cX10_isMachine 9 = .ok (.iconst 1, 1) := by decide +kernel
theorem dX10_isMachine_10 : decode cX10_isMachine 10 = .ok (.isub, 1) := by decide +kernel
theorem dX10_isMachine_11 : decode cX10_isMachine 11 = .ok (.invokestatic 27, 3) := by decide +kernel
theorem dX10_isMachine_14 : decode cX10_isMachine 14 = .ok (.ireturn, 1) := by decide +kernel
set_option maxRecDepth 20000 in
theorem ggX10_machine_X10_is : GoodIn wsX10_machine wsX10_is := goodIn_r _ [9] (by decide +kernel) (by decide +kernel)
set_option maxRecDepth 20000 in
theorem gX10_machine_X10_is : GoodIn wsX10_machine (va_wsS RX10 27 yX10_is wsX10_is) := goodIn_app (goodIn_of _ (by decide +kernel)) ggX10_machine_X10_is
set_option maxRecDepth 20000 in
theorem ggX10_machine_X10_refuse : GoodIn wsX10_machine wsX10_refuse := goodIn_r _ [13, 1, 86, 87, 88, 89, 90, 91, 92] (by decide +kernel) (by decide +kernel)
set_option maxRecDepth 20000 in
theorem gX10_machine_X10_refuse : GoodIn wsX10_machine (wsV RX10 31 RX10 yX10_refuse wsX10_refuse) := goodIn_app (goodIn_of _ (by decide +kernel)) ggX10_machine_X10_refuse
set_option maxRecDepth 20000 in
theorem ggX10_machine_Jx4a65c_size_8abf5 : GoodIn wsX10_machine wsJx4a65c_size_8abf5 := goodIn_r _ [18, 19, 98, 99, 100] (by decide +kernel) (by decide +kernel)
set_option maxRecDepth 20000 in
theorem gX10_machine_Jx4a65c_size_8abf5 : GoodIn wsX10_machine (wsV RX10 23 RJx4a65c yJx4a65c_size_8abf5 wsJx4a65c_size_8abf5) := goodIn_app (goodIn_of _ (by decide +kernel)) ggX10_machine_Jx4a65c_size_8abf5
set_option maxRecDepth 20000 in
theorem ggX10_machine_X8_init : GoodIn wsX10_machine wsX8_init := goodIn_r _ [22, 23, 24, 25, 26, 27, 28, 29, 30, 31, 93, 94, 95, 96, 97] (by decide +kernel) (by decide +kernel)
set_option maxRecDepth 20000 in
theorem gX10_machine_X8_init : GoodIn wsX10_machine (wsX8_init) := ggX10_machine_X8_init
set_option maxRecDepth 20000 in
theorem ggX10_machine_Jx4a65c_add_9ea2d : GoodIn wsX10_machine wsJx4a65c_add_9ea2d := goodIn_r _ [35, 36, 37, 38, 19, 39, 40, 41, 17, 42, 43, 44, 45, 46, 47, 48, 49, 50, 51, 52, 53, 54, 55, 56, 57, 58, 59, 60, 61, 62, 63, 64, 65, 66, 67, 68, 69, 70, 71, 72, 73, 74, 75, 76, 77, 78, 79, 80, 81, 82, 83, 84, 85, 98, 99, 100] (by decide +kernel) (by decide +kernel)
set_option maxRecDepth 20000 in
theorem gX10_machine_Jx4a65c_add_9ea2d : GoodIn wsX10_machine (wsV RX10 40 RJx4a65c yJx4a65c_add_9ea2d wsJx4a65c_add_9ea2d) := goodIn_app (goodIn_of _ (by decide +kernel)) ggX10_machine_Jx4a65c_add_9ea2d
theorem dX10_machine_0 : decode cX10_machine 0 = .ok (.aload_n 0, 1) := by decide +kernel
theorem dX10_machine_1 : decode cX10_machine 1 = .ok (.iconst 0, 1) := by decide +kernel
theorem dX10_machine_2 : decode cX10_machine 2 = .ok (.putfield 19, 3) := by decide +kernel
theorem dX10_machine_5 : decode cX10_machine 5 = .ok (.iload_n 1, 1) := by decide +kernel
theorem dX10_machine_6 : decode cX10_machine 6 = .ok (.iconst 2, 1) := by decide +kernel
theorem dX10_machine_7 : decode cX10_machine 7 = .ok (.iconst 4, 1) := by decide +kernel
theorem dX10_machine_8 : decode cX10_machine 8 = .ok (.invokestatic 27, 3) := by decide +kernel
theorem dX10_machine_11 : decode cX10_machine 11 = .ok (.ifCond .ne 9, 3) := by decide +kernel
theorem dX10_machine_14 : decode cX10_machine 14 = .ok (.aload_n 0, 1) := by decide +kernel
theorem dX10_machine_15 : decode cX10_machine 15 = .ok (.iconst 1, 1) := by decide +kernel
theorem dX10_machine_16 : decode cX10_machine 16 = .ok (.invokevirtual 31, 3) := by decide +kernel
theorem dX10_machine_19 : decode cX10_machine 19 = .ok (.ireturn, 1) := by decide +kernel
theorem dX10_machine_20 : decode cX10_machine 20 = .ok (.aload_n 0, 1) := by decide +kernel
theorem dX10_machine_21 : decode cX10_machine 21 = .ok (.getfield 10, 3) := by decide +kernel
theorem dX10_machine_24 : decode cX10_machine 24 = .ok (.invokevirtual 23, 3) := by decide +kernel
theorem dX10_machine_27 : decode cX10_machine 27 = .ok (.bipush 12, 2) := by decide +kernel
theorem dX10_machine_29 : decode cX10_machine 29 = .ok (.if_icmp .ne 9, 3) := by decide +kernel
theorem dX10_machine_32 : decode cX10_machine 32 = .ok (.aload_n 0, 1) := by decide +kernel
theorem dX10_machine_33 : decode cX10_machine 33 = .ok (.iconst 2, 1) := by decide +kernel
theorem dX10_machine_34 : decode cX10_machine 34 = .ok (.invokevirtual 31, 3) := by decide +kernel
theorem dX10_machine_37 : decode cX10_machine 37 = .ok (.ireturn, 1) := by decide +kernel
theorem dX10_machine_38 : decode cX10_machine 38 = .ok (.aload_n 0, 1) := by decide +kernel
theorem dX10_machine_39 : decode cX10_machine 39 = .ok (.getfield 10, 3) := by decide +kernel
theorem dX10_machine_42 : decode cX10_machine 42 = .ok (.new 35, 3) := by decide +kernel
theorem dX10_machine_45 : decode cX10_machine 45 = .ok (.dup, 1) := by decide +kernel
theorem dX10_machine_46 : decode cX10_machine 46 = .ok (.iload_n 1, 1) := by decide +kernel
theorem dX10_machine_47 : decode cX10_machine 47 = .ok (.invokespecial 37, 3) := by decide +kernel
theorem dX10_machine_50 : decode cX10_machine 50 = .ok (.invokevirtual 40, 3) := by decide +kernel
theorem dX10_machine_53 : decode cX10_machine 53 = .ok (.pop, 1) := by decide +kernel
theorem dX10_machine_54 : decode cX10_machine 54 = .ok (.aload_n 0, 1) := by decide +kernel
theorem dX10_machine_55 : decode cX10_machine 55 = .ok (.getfield 10, 3) := by decide +kernel
theorem dX10_machine_58 : decode cX10_machine 58 = .ok (.invokevirtual 23, 3) := by decide +kernel
theorem dX10_machine_61 : decode cX10_machine 61 = .ok (.iconst 1, 1) := by decide +kernel
theorem dX10_machine_62 : decode cX10_machine 62 = .ok (.isub, 1) := by decide +kernel
theorem dX10_machine_63 : decode cX10_machine 63 = .ok (.ireturn, 1) := by decide +kernel
set_option maxRecDepth 20000 in
theorem ggX10_refused_X10_isMachine : GoodIn wsX10_refused wsX10_isMachine := goodIn_r _ [7, 1, 8, 9, 10, 11, 12, 13, 14, 15, 6, 16, 40, 41, 42, 43, 44, 45, 46, 52, 53, 54] (by decide +kernel) (by decide +kernel)
set_option maxRecDepth 20000 in
theorem gX10_refused_X10_isMachine : GoodIn wsX10_refused (wsV RX10 44 RX10 yX10_isMachine wsX10_isMachine) := goodIn_app (goodIn_of _ (by decide +kernel)) ggX10_refused_X10_isMachine
set_option maxRecDepth 20000 in
theorem ggX10_refused_X10_is : GoodIn wsX10_refused wsX10_is := goodIn_r _ [16] (by decide +kernel) (by decide +kernel)
set_option maxRecDepth 20000 in
theorem gX10_refused_X10_is : GoodIn wsX10_refused (va_wsS RX10 27 yX10_is wsX10_is) := goodIn_app (goodIn_of _ (by decide +kernel)) ggX10_refused_X10_is
theorem dX10_refused_0 : decode cX10_refused 0 = .ok (.aload_n 0, 1) := by decide +kernel
theorem dX10_refused_1 : decode cX10_refused 1 = .ok (.iload_n 1, 1) := by decide +kernel
theorem dX10_refused_2 : decode cX10_refused 2 = .ok (.invokevirtual 44, 3) := by decide +kernel
theorem dX10_refused_5 : decode cX10_refused 5 = .ok (.ifCond .eq 36, 3) := by decide +kernel
theorem dX10_refused_8 : decode cX10_refused 8 = .ok (.iload_n 2, 1) := by decide +kernel
theorem dX10_refused_9 : decode cX10_refused 9 = .ok (.iconst 0, 1) := by decide +kernel
theorem dX10_refused_10 : decode cX10_refused 10 = .ok (.aload_n 0, 1) := by decide +kernel
theorem dX10_refused_11 : decode cX10_refused 11 = .ok (.getfield 10, 3) := by decide +kernel
theorem dX10_refused_14 : decode cX10_refused 14 = .ok (.iload_n 1, 1) := by decide +kernel
theorem dX10_refused_15 : decode cX10_refused 15 = .ok (.invokevirtual 48, 3) := by decide +kernel
theorem dX10_refused_18 : decode cX10_refused 18 = .ok (.checkcast 35, 3) := by decide +kernel
theorem dX10_refused_21 : decode cX10_refused 21 = .ok (.getfield 52, 3) := by decide +kernel
theorem dX10_refused_24 : decode cX10_refused 24 = .ok (.iconst 1, 1) := by decide +kernel
theorem dX10_refused_25 : decode cX10_refused 25 = .ok (.isub, 1) := by decide +kernel
theorem dX10_refused_26 : decode cX10_refused 26 = .ok (.invokestatic 27, 3) := by decide +kernel
theorem dX10_refused_29 : decode cX10_refused 29 = .ok (.ifCond .eq 12, 3) := by decide +kernel
theorem dX10_refused_32 : decode cX10_refused 32 = .ok (.iload_n 3, 1) := by decide +kernel
theorem dX10_refused_33 : decode cX10_refused 33 = .ok (.iconst 0, 1) := by decide +kernel
theorem dX10_refused_34 : decode cX10_refused 34 = .ok (.iconst 1, 1) := by decide +kernel
theorem dX10_refused_35 : decode cX10_refused 35 = .ok (.invokestatic 27, 3) := by decide +kernel
theorem dX10_refused_38 : decode cX10_refused 38 = .ok (.ifCond .ne 5, 3) := by decide +kernel
theorem dX10_refused_41 : decode cX10_refused 41 = .ok (.iconst 1, 1) := by decide +kernel
theorem dX10_refused_42 : decode cX10_refused 42 = .ok (.ireturn, 1) := by decide +kernel
theorem dX10_refused_43 : decode cX10_refused 43 = .ok (.aload_n 0, 1) := by decide +kernel
theorem dX10_refused_44 : decode cX10_refused 44 = .ok (.getfield 10, 3) := by decide +kernel
theorem dX10_refused_47 : decode cX10_refused 47 = .ok (.iload_n 1, 1) := by decide +kernel
theorem dX10_refused_48 : decode cX10_refused 48 = .ok (.invokevirtual 48, 3) := by decide +kernel
theorem dX10_refused_51 : decode cX10_refused 51 = .ok (.checkcast 35, 3) := by decide +kernel
theorem dX10_refused_54 : decode cX10_refused 54 = .ok (.astore 8, 2) := by decide +kernel
theorem dX10_refused_56 : decode cX10_refused 56 = .ok (.iload 4, 2) := by decide +kernel
theorem dX10_refused_58 : decode cX10_refused 58 = .ok (.iconst 0, 1) := by decide +kernel
theorem dX10_refused_59 : decode cX10_refused 59 = .ok (.iconst 1, 1) := by decide +kernel
theorem dX10_refused_60 : decode cX10_refused 60 = .ok (.invokestatic 27, 3) := by decide +kernel
theorem dX10_refused_63 : decode cX10_refused 63 = .ok (.ifCond .eq 29, 3) := by decide +kernel
theorem dX10_refused_66 : decode cX10_refused 66 = .ok (.iload 5, 2) := by decide +kernel
theorem dX10_refused_68 : decode cX10_refused 68 = .ok (.iconst 1, 1) := by decide +kernel
theorem dX10_refused_69 : decode cX10_refused 69 = .ok (.if_icmp .eq 9, 3) := by decide +kernel
theorem dX10_refused_72 : decode cX10_refused 72 = .ok (.iload 5, 2) := by decide +kernel
theorem dX10_refused_74 : decode cX10_refused 74 = .ok (.iconst (-1), 1) := by decide +kernel
theorem dX10_refused_75 : decode cX10_refused 75 = .ok (.if_icmp .ne 17, 3) := by decide +kernel
theorem dX10_refused_78 : decode cX10_refused 78 = .ok (.iload 6, 2) := by decide +kernel
theorem dX10_refused_80 : decode cX10_refused 80 = .ok (.iconst 0, 1) := by decide +kernel
theorem dX10_refused_81 : decode cX10_refused 81 = .ok (.aload 8, 2) := by decide +kernel
theorem dX10_refused_83 : decode cX10_refused 83 = .ok (.getfield 52, 3) := by decide +kernel
theorem dX10_refused_86 : decode cX10_refused 86 = .ok (.invokestatic 27, 3) := by decide +kernel
theorem dX10_refused_89 : decode cX10_refused 89 = .ok (.ifCond .ne 5, 3) := by decide +kernel
theorem dX10_refused_92 : decode cX10_refused 92 = .ok (.iconst 2, 1) := by decide +kernel
theorem dX10_refused_93 : decode cX10_refused 93 = .ok (.ireturn, 1) := by decide +kernel
theorem dX10_refused_94 : decode cX10_refused 94 = .ok (.aload 8, 2) := by decide +kernel
theorem dX10_refused_96 : decode cX10_refused 96 = .ok (.iload_n 2, 1) := by decide +kernel
theorem dX10_refused_97 : decode cX10_refused 97 = .ok (.iload_n 3, 1) := by decide +kernel
theorem dX10_refused_98 : decode cX10_refused 98 = .ok (.invokevirtual 55, 3) := by decide +kernel
theorem dX10_refused_101 : decode cX10_refused 101 = .ok (.ifnonnull 7, 3) := by decide +kernel
theorem dX10_refused_104 : decode cX10_refused 104 = .ok (.iconst 1, 1) := by decide +kernel
theorem dX10_refused_105 : decode cX10_refused 105 = .ok (.goto 4, 3) := by decide +kernel
theorem dX10_refused_108 : decode cX10_refused 108 = .ok (.iconst 0, 1) := by decide +kernel
theorem dX10_refused_109 : decode cX10_refused 109 = .ok (.iload 7, 2) := by decide +kernel
theorem dX10_refused_111 : decode cX10_refused 111 = .ok (.if_icmp .ne 7, 3) := by decide +kernel
theorem dX10_refused_114 : decode cX10_refused 114 = .ok (.iconst 0, 1) := by decide +kernel
theorem dX10_refused_115 : decode cX10_refused 115 = .ok (.goto 4, 3) := by decide +kernel
theorem dX10_refused_118 : decode cX10_refused 118 = .ok (.iconst 3, 1) := by decide +kernel
theorem dX10_refused_119 : decode cX10_refused 119 = .ok (.ireturn, 1) := by decide +kernel
set_option maxRecDepth 20000 in
theorem ggX10_tell_X10_refused : GoodIn wsX10_tell wsX10_refused := goodIn_r _ [8, 2, 3, 9, 10, 11, 7, 12, 13, 14, 15, 16, 17, 18, 19, 20, 21, 22, 23, 24, 25, 26, 27, 28, 29, 30, 31, 32, 33, 34, 35, 36, 37, 38, 39, 40, 41, 42, 43, 44, 62, 63, 64, 65, 66, 67, 68, 69, 70, 71, 72, 73, 74, 75, 76] (by decide +kernel) (by decide +kernel)
set_option maxRecDepth 20000 in
theorem gX10_tell_X10_refused : GoodIn wsX10_tell (wsV RX10 70 RX10 yX10_refused wsX10_refused) := goodIn_app (goodIn_of _ (by decide +kernel)) ggX10_tell_X10_refused
theorem dX10_tell_0 : decode cX10_tell 0 = .ok (.aload_n 0, 1) := by decide +kernel
theorem dX10_tell_1 : decode cX10_tell 1 = .ok (.aload_n 0, 1) := by decide +kernel
theorem dX10_tell_2 : decode cX10_tell 2 = .ok (.iload_n 1, 1) := by decide +kernel
theorem dX10_tell_3 : decode cX10_tell 3 = .ok (.iload_n 2, 1) := by decide +kernel
theorem dX10_tell_4 : decode cX10_tell 4 = .ok (.iload_n 3, 1) := by decide +kernel
theorem dX10_tell_5 : decode cX10_tell 5 = .ok (.iload 4, 2) := by decide +kernel
theorem dX10_tell_7 : decode cX10_tell 7 = .ok (.iload 5, 2) := by decide +kernel
theorem dX10_tell_9 : decode cX10_tell 9 = .ok (.iload 6, 2) := by decide +kernel
theorem dX10_tell_11 : decode cX10_tell 11 = .ok (.iconst 1, 1) := by decide +kernel
theorem dX10_tell_12 : decode cX10_tell 12 = .ok (.invokevirtual 70, 3) := by decide +kernel
theorem dX10_tell_15 : decode cX10_tell 15 = .ok (.putfield 19, 3) := by decide +kernel
theorem dX10_tell_18 : decode cX10_tell 18 = .ok (.aload_n 0, 1) := by decide +kernel
theorem dX10_tell_19 : decode cX10_tell 19 = .ok (.getfield 19, 3) := by decide +kernel
theorem dX10_tell_22 : decode cX10_tell 22 = .ok (.ifCond .le 5, 3) := by decide +kernel
theorem dX10_tell_25 : decode cX10_tell 25 = .ok (.iconst 0, 1) := by decide +kernel
theorem dX10_tell_26 : decode cX10_tell 26 = .ok (.ireturn, 1) := by decide +kernel
theorem dX10_tell_27 : decode cX10_tell 27 = .ok (.aload_n 0, 1) := by decide +kernel
theorem dX10_tell_28 : decode cX10_tell 28 = .ok (.aload_n 0, 1) := by decide +kernel
theorem dX10_tell_29 : decode cX10_tell 29 = .ok (.getfield 10, 3) := by decide +kernel
theorem dX10_tell_32 : decode cX10_tell 32 = .ok (.iload_n 1, 1) := by decide +kernel
theorem dX10_tell_33 : decode cX10_tell 33 = .ok (.invokevirtual 48, 3) := by decide +kernel
theorem dX10_tell_36 : decode cX10_tell 36 = .ok (.checkcast 35, 3) := by decide +kernel
theorem dX10_tell_39 : decode cX10_tell 39 = .ok (.iload_n 2, 1) := by decide +kernel
theorem dX10_tell_40 : decode cX10_tell 40 = .ok (.iload_n 3, 1) := by decide +kernel
theorem dX10_tell_41 : decode cX10_tell 41 = .ok (.iload 4, 2) := by decide +kernel
theorem dX10_tell_43 : decode cX10_tell 43 = .ok (.iload 5, 2) := by decide +kernel
theorem dX10_tell_45 : decode cX10_tell 45 = .ok (.iload 6, 2) := by decide +kernel
theorem dX10_tell_47 : decode cX10_tell 47 = .ok (.invokevirtual 74, 3) := by decide +kernel
theorem dX10_tell_50 : decode cX10_tell 50 = .ok (.pop, 1) := by decide +kernel
theorem dX10_tell_51 : decode cX10_tell 51 = .ok (.aload_n 0, 1) := by decide +kernel
theorem dX10_tell_52 : decode cX10_tell 52 = .ok (.getfield 10, 3) := by decide +kernel
theorem dX10_tell_55 : decode cX10_tell 55 = .ok (.iload_n 1, 1) := by decide +kernel
theorem dX10_tell_56 : decode cX10_tell 56 = .ok (.invokevirtual 48, 3) := by decide +kernel
theorem dX10_tell_59 : decode cX10_tell 59 = .ok (.checkcast 35, 3) := by decide +kernel
theorem dX10_tell_62 : decode cX10_tell 62 = .ok (.invokevirtual 78, 3) := by decide +kernel
theorem dX10_tell_65 : decode cX10_tell 65 = .ok (.ireturn, 1) := by decide +kernel
