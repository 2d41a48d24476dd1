theorem dX7_find_44 : decode cX7_find 44 = .ok (.ldc_w 303, 3) := by decide +kernel
theorem dX7_find_47 : decode cX7_find 47 = .ok (.invokespecial 305, 3) := by decide +kernel
theorem dX7_find_50 : decode cX7_find 50 = .ok (.athrow, 1) := by decide +kernel
theorem dX7_find_51 : decode cX7_find 51 = .ok (.aload_n 2, 1) := by decide +kernel
theorem dX7_find_52 : decode cX7_find 52 = .ok (.areturn, 1) := by decide +kernel
theorem dX7_findCell_0 : decode cX7_findCell 0 = .ok (.iload_n 1, 1) := by decide +kernel
theorem dX7_findCell_1 : decode cX7_findCell 1 = .ok (.iconst 0, 1) := by decide +kernel
theorem dX7_findCell_2 : decode cX7_findCell 2 = .ok (.aload_n 0, 1) := by decide +kernel
theorem dX7_findCell_3 : decode cX7_findCell 3 = .ok (.getfield 107, 3) := by decide +kernel
theorem dX7_findCell_6 : decode cX7_findCell 6 = .ok (.iconst 1, 1) := by decide +kernel
theorem dX7_findCell_7 : decode cX7_findCell 7 = .ok (.isub, 1) := by decide +kernel
theorem dX7_findCell_8 : decode cX7_findCell 8 = .ok (.invokestatic 49, 3) := by decide +kernel
theorem dX7_findCell_11 : decode cX7_findCell 11 = .ok (.ifCond .eq 12, 3) := by decide +kernel
theorem dX7_findCell_14 : decode cX7_findCell 14 = .ok (.iload_n 2, 1) := by decide +kernel
theorem dX7_findCell_15 : decode cX7_findCell 15 = .ok (.iconst 0, 1) := by decide +kernel
theorem dX7_findCell_16 : decode cX7_findCell 16 = .ok (.iconst 1, 1) := by decide +kernel
theorem dX7_findCell_17 : decode cX7_findCell 17 = .ok (.invokestatic 49, 3) := by decide +kernel
theorem dX7_findCell_20 : decode cX7_findCell 20 = .ok (.ifCond .ne 14, 3) := by decide +kernel
theorem dX7_findCell_23 : decode cX7_findCell 23 = .ok (.new 301, 3) := by decide +kernel
theorem dX7_findCell_26 : decode cX7_findCell 26 = .ok (.dup, 1) := by decide +kernel
theorem dX7_findCell_27 : decode cX7_findCell 27 = .ok (.ldc_w 306, 3) := by decide +kernel
theorem dX7_findCell_30 : decode cX7_findCell 30 = .ok (.invokespecial 305, 3) := by decide +kernel
theorem dX7_findCell_33 : decode cX7_findCell 33 = .ok (.athrow, 1) := by decide +kernel
theorem dX7_findCell_34 : decode cX7_findCell 34 = .ok (.iconst 2, 1) := by decide +kernel
theorem dX7_findCell_35 : decode cX7_findCell 35 = .ok (.iload_n 1, 1) := by decide +kernel
theorem dX7_findCell_36 : decode cX7_findCell 36 = .ok (.imul, 1) := by decide +kernel
theorem dX7_findCell_37 : decode cX7_findCell 37 = .ok (.iload_n 2, 1) := by decide +kernel
theorem dX7_findCell_38 : decode cX7_findCell 38 = .ok (.iadd, 1) := by decide +kernel
theorem dX7_findCell_39 : decode cX7_findCell 39 = .ok (.ireturn, 1) := by decide +kernel
theorem dX7_isFilling_0 : decode cX7_isFilling 0 = .ok (.iload_n 1, 1) := by decide +kernel
theorem dX7_isFilling_1 : decode cX7_isFilling 1 = .ok (.iconst 0, 1) := by decide +kernel
theorem dX7_isFilling_2 : decode cX7_isFilling 2 = .ok (.iconst 1, 1) := by decide +kernel
theorem dX7_isFilling_3 : decode cX7_isFilling 3 = .ok (.invokestatic 49, 3) := by decide +kernel
theorem dX7_isFilling_6 : decode cX7_isFilling 6 = .ok (.ifCond .eq 29, 3) := by decide +kernel
theorem dX7_isFilling_9 : decode cX7_isFilling 9 = .ok (.iload_n 2, 1) := by decide +kernel
theorem dX7_isFilling_10 : decode cX7_isFilling 10 = .ok (.iconst 1, 1) := by decide +kernel
theorem dX7_isFilling_11 : decode cX7_isFilling 11 = .ok (.if_icmp .eq 8, 3) := by decide +kernel
theorem dX7_isFilling_14 : decode cX7_isFilling 14 = .ok (.iload_n 2, 1) := by decide +kernel
theorem dX7_isFilling_15 : decode cX7_isFilling 15 = .ok (.iconst (-1), 1) := by decide +kernel
theorem dX7_isFilling_16 : decode cX7_isFilling 16 = .ok (.if_icmp .ne 19, 3) := by decide +kernel
theorem dX7_isFilling_19 : decode cX7_isFilling 19 = .ok (.iload_n 3, 1) := by decide +kernel
theorem dX7_isFilling_20 : decode cX7_isFilling 20 = .ok (.iconst 0, 1) := by decide +kernel
theorem dX7_isFilling_21 : decode cX7_isFilling 21 = .ok (.aload_n 0, 1) := by decide +kernel
theorem dX7_isFilling_22 : decode cX7_isFilling 22 = .ok (.getfield 107, 3) := by decide +kernel
theorem dX7_isFilling_25 : decode cX7_isFilling 25 = .ok (.invokestatic 49, 3) := by decide +kernel
theorem dX7_isFilling_28 : decode cX7_isFilling 28 = .ok (.ifCond .eq 7, 3) := by decide +kernel
theorem dX7_isFilling_31 : decode cX7_isFilling 31 = .ok (.iconst 1, 1) := by decide +kernel
theorem dX7_isFilling_32 : decode cX7_isFilling 32 = .ok (.goto 4, 3) := by decide +kernel
theorem dX7_isFilling_35 : decode cX7_isFilling 35 = .ok (.iconst 0, 1) := by decide +kernel
theorem dX7_isFilling_36 : decode cX7_isFilling 36 = .ok (.ireturn, 1) := by decide +kernel
theorem dX7_isCertificate_0 : decode cX7_isCertificate 0 = .ok (.iload_n 0, 1) := by decide +kernel
theorem dX7_isCertificate_1 : decode cX7_isCertificate 1 = .ok (.tableswitch 119 0 3 #[31, 52, 80, 100], 31) := by decide +kernel
theorem dX7_isCertificate_32 : decode cX7_isCertificate 32 = .ok (.iload_n 1, 1) := by decide +kernel
theorem dX7_isCertificate_33 : decode cX7_isCertificate 33 = .ok (.iconst 1, 1) := by decide +kernel
theorem dX7_isCertificate_34 : decode cX7_isCertificate 34 = .ok (.sipush 500, 3) := by decide +kernel
theorem dX7_isCertificate_37 : decode cX7_isCertificate 37 = .ok (.invokestatic 49, 3) := by decide +kernel
theorem dX7_isCertificate_40 : decode cX7_isCertificate 40 = .ok (.ifCond .eq 11, 3) := by decide +kernel
theorem dX7_isCertificate_43 : decode cX7_isCertificate 43 = .ok (.iload_n 2, 1) := by decide +kernel
theorem dX7_isCertificate_44 : decode cX7_isCertificate 44 = .ok (.ifCond .ne 7, 3) := by decide +kernel
theorem dX7_isCertificate_47 : decode cX7_isCertificate 47 = .ok (.iconst 1, 1) := by decide +kernel
theorem dX7_isCertificate_48 : decode cX7_isCertificate 48 = .ok (.goto 4, 3) := by decide +kernel
theorem dX7_isCertificate_51 : decode cX7_isCertificate 51 = .ok (.iconst 0, 1) := by decide +kernel
theorem dX7_isCertificate_52 : decode cX7_isCertificate 52 = .ok (.ireturn, 1) := by decide +kernel
theorem dX7_isCertificate_53 : decode cX7_isCertificate 53 = .ok (.iload_n 1, 1) := by decide +kernel
theorem dX7_isCertificate_54 : decode cX7_isCertificate 54 = .ok (.iconst 0, 1) := by decide +kernel
theorem dX7_isCertificate_55 : decode cX7_isCertificate 55 = .ok (.sipush 150, 3) := by decide +kernel
theorem dX7_isCertificate_58 : decode cX7_isCertificate 58 = .ok (.invokestatic 49, 3) := by decide +kernel
theorem dX7_isCertificate_61 : decode cX7_isCertificate 61 = .ok (.ifCond .eq 18, 3) := by decide +kernel
theorem dX7_isCertificate_64 : decode cX7_isCertificate 64 = .ok (.iload_n 2, 1) := by decide +kernel
theorem dX7_isCertificate_65 : decode cX7_isCertificate 65 = .ok (.iconst 1, 1) := by decide +kernel
theorem dX7_isCertificate_66 : decode cX7_isCertificate 66 = .ok (.sipush 150, 3) := by decide +kernel
theorem dX7_isCertificate_69 : decode cX7_isCertificate 69 = .ok (.invokestatic 49, 3) := by decide +kernel
theorem dX7_isCertificate_72 : decode cX7_isCertificate 72 = .ok (.ifCond .eq 7, 3) := by decide +kernel
theorem dX7_isCertificate_75 : decode cX7_isCertificate 75 = .ok (.iconst 1, 1) := by decide +kernel
theorem dX7_isCertificate_76 : decode cX7_isCertificate 76 = .ok (.goto 4, 3) := by decide +kernel
theorem dX7_isCertificate_79 : decode cX7_isCertificate 79 = .ok (.iconst 0, 1) := by decide +kernel
theorem dX7_isCertificate_80 : decode cX7_isCertificate 80 = .ok (.ireturn, 1) := by decide +kernel
theorem dX7_isCertificate_81 : decode cX7_isCertificate 81 = .ok (.iload_n 1, 1) := by decide +kernel
theorem dX7_isCertificate_82 : decode cX7_isCertificate 82 = .ok (.iconst 1, 1) := by decide +kernel
theorem dX7_isCertificate_83 : decode cX7_isCertificate 83 = .ok (.bipush 6, 2) := by decide +kernel
theorem dX7_isCertificate_85 : decode cX7_isCertificate 85 = .ok (.invokestatic 49, 3) := by decide +kernel
theorem dX7_isCertificate_88 : decode cX7_isCertificate 88 = .ok (.ifCond .eq 11, 3) := by decide +kernel
theorem dX7_isCertificate_91 : decode cX7_isCertificate 91 = .ok (.iload_n 2, 1) := by decide +kernel
theorem dX7_isCertificate_92 : decode cX7_isCertificate 92 = .ok (.ifCond .ne 7, 3) := by decide +kernel
theorem dX7_isCertificate_95 : decode cX7_isCertificate 95 = .ok (.iconst 1, 1) := by decide +kernel
theorem dX7_isCertificate_96 : decode cX7_isCertificate 96 = .ok (.goto 4, 3) := by decide +kernel
theorem dX7_isCertificate_99 : decode cX7_isCertificate 99 = .ok (.iconst 0, 1) := by decide +kernel
theorem dX7_isCertificate_100 : decode cX7_isCertificate 100 = .ok (.ireturn, 1) := by decide +kernel
theorem dX7_isCertificate_101 : decode cX7_isCertificate 101 = .ok (.iload_n 1, 1) := by decide +kernel
theorem dX7_isCertificate_102 : decode cX7_isCertificate 102 = .ok (.iconst 1, 1) := by decide +kernel
theorem dX7_isCertificate_103 : decode cX7_isCertificate 103 = .ok (.iconst 3, 1) := by decide +kernel
theorem dX7_isCertificate_104 : decode cX7_isCertificate 104 = .ok (.invokestatic 49, 3) := by decide +kernel
theorem dX7_isCertificate_107 : decode cX7_isCertificate 107 = .ok (.ifCond .eq 11, 3) := by decide +kernel
theorem dX7_isCertificate_110 : decode cX7_isCertificate 110 = .ok (.iload_n 2, 1) := by decide +kernel
theorem dX7_isCertificate_111 : decode cX7_isCertificate 111 = .ok (.ifCond .ne 7, 3) := by decide +kernel
theorem dX7_isCertificate_114 : decode cX7_isCertificate 114 = .ok (.iconst 1, 1) := by decide +kernel
theorem dX7_isCertificate_115 : decode cX7_isCertificate 115 = .ok (.goto 4, 3) := by decide +kernel
theorem dX7_isCertificate_118 : decode cX7_isCertificate 118 = .ok (.iconst 0, 1) := by decide +kernel
theorem dX7_isCertificate_119 : decode cX7_isCertificate 119 = .ok (.ireturn, 1) := by decide +kernel
theorem dX7_isCertificate_120 : decode cX7_isCertificate 120 = .ok (.iconst 0, 1) := by decide +kernel
theorem dX7_isCertificate_121 : decode cX7_isCertificate 121 = .ok (.ireturn, 1) := by decide +kernel
theorem dX7_append_0 : decode cX7_append 0 = .ok (.aload_n 0, 1) := by decide +kernel
theorem dX7_append_1 : decode cX7_append 1 = .ok (.getfield 148, 3) := by decide +kernel
theorem dX7_append_4 : decode cX7_append 4 = .ok (.ifCond .lt 32, 3) := by decide +kernel
theorem dX7_append_7 : decode cX7_append 7 = .ok (.aload_n 0, 1) := by decide +kernel
theorem dX7_append_8 : decode cX7_append 8 = .ok (.getfield 148, 3) := by decide +kernel
theorem dX7_append_11 : decode cX7_append 11 = .ok (.bipush 12, 2) := by decide +kernel
theorem dX7_append_13 : decode cX7_append 13 = .ok (.if_icmp .ge 23, 3) := by decide +kernel
theorem dX7_append_16 : decode cX7_append 16 = .ok (.aload_n 0, 1) := by decide +kernel
theorem dX7_append_17 : decode cX7_append 17 = .ok (.getfield 11, 3) := by decide +kernel
theorem dX7_append_20 : decode cX7_append 20 = .ok (.aload_n 0, 1) := by decide +kernel
theorem dX7_append_21 : decode cX7_append 21 = .ok (.getfield 148, 3) := by decide +kernel
theorem dX7_append_24 : decode cX7_append 24 = .ok (.aload_n 1, 1) := by decide +kernel
theorem dX7_append_25 : decode cX7_append 25 = .ok (.aastore, 1) := by decide +kernel
theorem dX7_append_26 : decode cX7_append 26 = .ok (.aload_n 0, 1) := by decide +kernel
theorem dX7_append_27 : decode cX7_append 27 = .ok (.dup, 1) := by decide +kernel
theorem dX7_append_28 : decode cX7_append 28 = .ok (.getfield 148, 3) := by decide +kernel
theorem dX7_append_31 : decode cX7_append 31 = .ok (.iconst 1, 1) := by decide +kernel
theorem dX7_append_32 : decode cX7_append 32 = .ok (.iadd, 1) := by decide +kernel
theorem dX7_append_33 : decode cX7_append 33 = .ok (.putfield 148, 3) := by decide +kernel
theorem dX7_append_36 : decode cX7_append 36 = .ok (.aload_n 0, 1) := by decide +kernel
theorem dX7_append_37 : decode cX7_append 37 = .ok (.getfield 148, 3) := by decide +kernel
theorem dX7_append_40 : decode cX7_append 40 = .ok (.iconst 1, 1) := by decide +kernel
theorem dX7_append_41 : decode cX7_append 41 = .ok (.isub, 1) := by decide +kernel
theorem dX7_append_42 : decode cX7_append 42 = .ok (.ireturn, 1) := by decide +kernel
theorem dX7_takeBack_0 : decode cX7_takeBack 0 = .ok (.aload_n 1, 1) := by decide +kernel
theorem dX7_takeBack_1 : decode cX7_takeBack 1 = .ok (.getfield 151, 3) := by decide +kernel
theorem dX7_takeBack_4 : decode cX7_takeBack 4 = .ok (.iconst (-1), 1) := by decide +kernel
theorem dX7_takeBack_5 : decode cX7_takeBack 5 = .ok (.if_icmp .ne 5, 3) := by decide +kernel
theorem dX7_takeBack_8 : decode cX7_takeBack 8 = .ok (.iconst 0, 1) := by decide +kernel
theorem dX7_takeBack_9 : decode cX7_takeBack 9 = .ok (.ireturn, 1) := by decide +kernel
theorem dX7_takeBack_10 : decode cX7_takeBack 10 = .ok (.aload_n 1, 1) := by decide +kernel
theorem dX7_takeBack_11 : decode cX7_takeBack 11 = .ok (.iconst (-1), 1) := by decide +kernel
theorem dX7_takeBack_12 : decode cX7_takeBack 12 = .ok (.iconst (-1), 1) := by decide +kernel
theorem dX7_takeBack_13 : decode cX7_takeBack 13 = .ok (.iconst (-1), 1) := by decide +kernel
theorem dX7_takeBack_14 : decode cX7_takeBack 14 = .ok (.invokevirtual 145, 3) := by decide +kernel
theorem dX7_takeBack_17 : decode cX7_takeBack 17 = .ok (.aload_n 0, 1) := by decide +kernel
theorem dX7_takeBack_18 : decode cX7_takeBack 18 = .ok (.dup, 1) := by decide +kernel
theorem dX7_takeBack_19 : decode cX7_takeBack 19 = .ok (.getfield 255, 3) := by decide +kernel
theorem dX7_takeBack_22 : decode cX7_takeBack 22 = .ok (.iconst 1, 1) := by decide +kernel
theorem dX7_takeBack_23 : decode cX7_takeBack 23 = .ok (.iadd, 1) := by decide +kernel
theorem dX7_takeBack_24 : decode cX7_takeBack 24 = .ok (.putfield 255, 3) := by decide +kernel
theorem dX7_takeBack_27 : decode cX7_takeBack 27 = .ok (.iconst 1, 1) := by decide +kernel
theorem dX7_takeBack_28 : decode cX7_takeBack 28 = .ok (.ireturn, 1) := by decide +kernel
theorem dX7_decideBy_0 : decode cX7_decideBy 0 = .ok (.aload_n 0, 1) := by decide +kernel
theorem dX7_decideBy_1 : decode cX7_decideBy 1 = .ok (.iload_n 1, 1) := by decide +kernel
theorem dX7_decideBy_2 : decode cX7_decideBy 2 = .ok (.iload_n 2, 1) := by decide +kernel
theorem dX7_decideBy_3 : decode cX7_decideBy 3 = .ok (.iload_n 3, 1) := by decide +kernel
theorem dX7_decideBy_4 : decode cX7_decideBy 4 = .ok (.invokevirtual 145, 3) := by decide +kernel
theorem dX7_decideBy_7 : decode cX7_decideBy 7 = .ok (.iload_n 1, 1) := by decide +kernel
theorem dX7_decideBy_8 : decode cX7_decideBy 8 = .ok (.ireturn, 1) := by decide +kernel
theorem dX7_isTaken_0 : decode cX7_isTaken 0 = .ok (.iload_n 2, 1) := by decide +kernel
theorem dX7_isTaken_1 : decode cX7_isTaken 1 = .ok (.tableswitch 83 0 2 #[27, 64, 76], 27) := by decide +kernel
theorem dX7_isTaken_28 : decode cX7_isTaken 28 = .ok (.aload_n 0, 1) := by decide +kernel
theorem dX7_isTaken_29 : decode cX7_isTaken 29 = .ok (.getfield 24, 3) := by decide +kernel
theorem dX7_isTaken_32 : decode cX7_isTaken 32 = .ok (.aload_n 1, 1) := by decide +kernel
theorem dX7_isTaken_33 : decode cX7_isTaken 33 = .ok (.iload_n 3, 1) := by decide +kernel
theorem dX7_isTaken_34 : decode cX7_isTaken 34 = .ok (.invokevirtual 154, 3) := by decide +kernel
theorem dX7_isTaken_37 : decode cX7_isTaken 37 = .ok (.aload_n 0, 1) := by decide +kernel
theorem dX7_isTaken_38 : decode cX7_isTaken 38 = .ok (.getfield 24, 3) := by decide +kernel
theorem dX7_isTaken_41 : decode cX7_isTaken 41 = .ok (.getfield 161, 3) := by decide +kernel
theorem dX7_isTaken_44 : decode cX7_isTaken 44 = .ok (.iload_n 3, 1) := by decide +kernel
theorem dX7_isTaken_45 : decode cX7_isTaken 45 = .ok (.if_icmp .ne 18, 3) := by decide +kernel
theorem dX7_isTaken_48 : decode cX7_isTaken 48 = .ok (.aload_n 0, 1) := by decide +kernel
theorem dX7_isTaken_49 : decode cX7_isTaken 49 = .ok (.getfield 24, 3) := by decide +kernel
theorem dX7_isTaken_52 : decode cX7_isTaken 52 = .ok (.aload_n 1, 1) := by decide +kernel
theorem dX7_isTaken_53 : decode cX7_isTaken 53 = .ok (.invokevirtual 158, 3) := by decide +kernel
theorem dX7_isTaken_56 : decode cX7_isTaken 56 = .ok (.ifCond .eq 7, 3) := by decide +kernel
theorem dX7_isTaken_59 : decode cX7_isTaken 59 = .ok (.iconst 1, 1) := by decide +kernel
theorem dX7_isTaken_60 : decode cX7_isTaken 60 = .ok (.goto 4, 3) := by decide +kernel
theorem dX7_isTaken_63 : decode cX7_isTaken 63 = .ok (.iconst 0, 1) := by decide +kernel
theorem dX7_isTaken_64 : decode cX7_isTaken 64 = .ok (.ireturn, 1) := by decide +kernel
theorem dX7_isTaken_65 : decode cX7_isTaken 65 = .ok (.aload_n 0, 1) := by decide +kernel
theorem dX7_isTaken_66 : decode cX7_isTaken 66 = .ok (.getfield 31, 3) := by decide +kernel
theorem dX7_isTaken_69 : decode cX7_isTaken 69 = .ok (.aload_n 1, 1) := by decide +kernel
theorem dX7_isTaken_70 : decode cX7_isTaken 70 = .ok (.iload_n 3, 1) := by decide +kernel
theorem dX7_isTaken_71 : decode cX7_isTaken 71 = .ok (.iload 4, 2) := by decide +kernel
theorem dX7_isTaken_73 : decode cX7_isTaken 73 = .ok (.invokevirtual 310, 3) := by decide +kernel
theorem dX7_isTaken_76 : decode cX7_isTaken 76 = .ok (.ireturn, 1) := by decide +kernel
theorem dX7_isTaken_77 : decode cX7_isTaken 77 = .ok (.aload_n 0, 1) := by decide +kernel
theorem dX7_isTaken_78 : decode cX7_isTaken 78 = .ok (.aload_n 1, 1) := by decide +kernel
theorem dX7_isTaken_79 : decode cX7_isTaken 79 = .ok (.iload_n 3, 1) := by decide +kernel
theorem dX7_isTaken_80 : decode cX7_isTaken 80 = .ok (.invokevirtual 314, 3) := by decide +kernel
theorem dX7_isTaken_83 : decode cX7_isTaken 83 = .ok (.ireturn, 1) := by decide +kernel
theorem dX7_isTaken_84 : decode cX7_isTaken 84 = .ok (.aload_n 0, 1) := by decide +kernel
theorem dX7_isTaken_85 : decode cX7_isTaken 85 = .ok (.getfield 45, 3) := by decide +kernel
theorem dX7_isTaken_88 : decode cX7_isTaken 88 = .ok (.aload_n 1, 1) := by decide +kernel
theorem dX7_isTaken_89 : decode cX7_isTaken 89 = .ok (.iload_n 3, 1) := by decide +kernel
theorem dX7_isTaken_90 : decode cX7_isTaken 90 = .ok (.invokevirtual 317, 3) := by decide +kernel
theorem dX7_isTaken_93 : decode cX7_isTaken 93 = .ok (.ireturn, 1) := by decide +kernel
theorem dX7_isBack_0 : decode cX7_isBack 0 = .ok (.aload_n 0, 1) := by decide +kernel
theorem dX7_isBack_1 : decode cX7_isBack 1 = .ok (.getfield 38, 3) := by decide +kernel
theorem dX7_isBack_4 : decode cX7_isBack 4 = .ok (.aload_n 1, 1) := by decide +kernel
theorem dX7_isBack_5 : decode cX7_isBack 5 = .ok (.invokevirtual 320, 3) := by decide +kernel
theorem dX7_isBack_8 : decode cX7_isBack 8 = .ok (.istore_n 3, 1) := by decide +kernel
theorem dX7_isBack_9 : decode cX7_isBack 9 = .ok (.iload_n 3, 1) := by decide +kernel
theorem dX7_isBack_10 : decode cX7_isBack 10 = .ok (.iconst (-1), 1) := by decide +kernel
theorem dX7_isBack_11 : decode cX7_isBack 11 = .ok (.if_icmp .eq 21, 3) := by decide +kernel
theorem dX7_isBack_14 : decode cX7_isBack 14 = .ok (.iload_n 3, 1) := by decide +kernel
theorem dX7_isBack_15 : decode cX7_isBack 15 = .ok (.iload_n 2, 1) := by decide +kernel
theorem dX7_isBack_16 : decode cX7_isBack 16 = .ok (.if_icmp .gt 16, 3) := by decide +kernel
theorem dX7_isBack_19 : decode cX7_isBack 19 = .ok (.aload_n 0, 1) := by decide +kernel
theorem dX7_isBack_20 : decode cX7_isBack 20 = .ok (.aload_n 1, 1) := by decide +kernel
theorem dX7_isBack_21 : decode cX7_isBack 21 = .ok (.iload_n 2, 1) := by decide +kernel
theorem dX7_isBack_22 : decode cX7_isBack 22 = .ok (.invokevirtual 323, 3) := by decide +kernel
theorem dX7_isBack_25 : decode cX7_isBack 25 = .ok (.ifCond .eq 7, 3) := by decide +kernel
theorem dX7_isBack_28 : decode cX7_isBack 28 = .ok (.iconst 1, 1) := by decide +kernel
theorem dX7_isBack_29 : decode cX7_isBack 29 = .ok (.goto 4, 3) := by decide +kernel
theorem dX7_isBack_32 : decode cX7_isBack 32 = .ok (.iconst 0, 1) := by decide +kernel
theorem dX7_isBack_33 : decode cX7_isBack 33 = .ok (.ireturn, 1) := by decide +kernel
theorem dX7_smallestBack_0 : decode cX7_smallestBack 0 = .ok (.aload_n 0, 1) := by decide +kernel
theorem dX7_smallestBack_1 : decode cX7_smallestBack 1 = .ok (.getfield 38, 3) := by decide +kernel
theorem dX7_smallestBack_4 : decode cX7_smallestBack 4 = .ok (.aload_n 1, 1) := by decide +kernel
theorem dX7_smallestBack_5 : decode cX7_smallestBack 5 = .ok (.invokevirtual 320, 3) := by decide +kernel
theorem dX7_smallestBack_8 : decode cX7_smallestBack 8 = .ok (.istore_n 2, 1) := by decide +kernel
theorem dX7_smallestBack_9 : decode cX7_smallestBack 9 = .ok (.iload_n 2, 1) := by decide +kernel
theorem dX7_smallestBack_10 : decode cX7_smallestBack 10 = .ok (.iconst (-1), 1) := by decide +kernel
theorem dX7_smallestBack_11 : decode cX7_smallestBack 11 = .ok (.if_icmp .eq 16, 3) := by decide +kernel
theorem dX7_smallestBack_14 : decode cX7_smallestBack 14 = .ok (.aload_n 0, 1) := by decide +kernel
theorem dX7_smallestBack_15 : decode cX7_smallestBack 15 = .ok (.aload_n 1, 1) := by decide +kernel
theorem dX7_smallestBack_16 : decode cX7_smallestBack 16 = .ok (.iload_n 2, 1) := by decide +kernel
theorem dX7_smallestBack_17 : decode cX7_smallestBack 17 = .ok (.invokevirtual 323, 3) := by decide +kernel
theorem dX7_smallestBack_20 : decode cX7_smallestBack 20 = .ok (.ifCond .eq 7, 3) := by decide +kernel
theorem dX7_smallestBack_23 : decode cX7_smallestBack 23 = .ok (.iload_n 2, 1) := by decide +kernel
theorem dX7_smallestBack_24 : decode cX7_smallestBack 24 = .ok (.goto 4, 3) := by decide +kernel
theorem dX7_smallestBack_27 : decode cX7_smallestBack 27 = .ok (.iconst (-1), 1) := by decide +kernel
theorem dX7_smallestBack_28 : decode cX7_smallestBack 28 = .ok (.ireturn, 1) := by decide +kernel
theorem dX7_goesOnFor_0 : decode cX7_goesOnFor 0 = .ok (.aload_n 0, 1) := by decide +kernel
theorem dX7_goesOnFor_1 : decode cX7_goesOnFor 1 = .ok (.getfield 24, 3) := by decide +kernel
theorem dX7_goesOnFor_4 : decode cX7_goesOnFor 4 = .ok (.aload_n 1, 1) := by decide +kernel
theorem dX7_goesOnFor_5 : decode cX7_goesOnFor 5 = .ok (.iload_n 2, 1) := by decide +kernel
theorem dX7_goesOnFor_6 : decode cX7_goesOnFor 6 = .ok (.invokevirtual 154, 3) := by decide +kernel
theorem dX7_goesOnFor_9 : decode cX7_goesOnFor 9 = .ok (.aload_n 0, 1) := by decide +kernel
theorem dX7_goesOnFor_10 : decode cX7_goesOnFor 10 = .ok (.getfield 24, 3) := by decide +kernel
theorem dX7_goesOnFor_13 : decode cX7_goesOnFor 13 = .ok (.getfield 161, 3) := by decide +kernel
theorem dX7_goesOnFor_16 : decode cX7_goesOnFor 16 = .ok (.iload_n 2, 1) := by decide +kernel
theorem dX7_goesOnFor_17 : decode cX7_goesOnFor 17 = .ok (.if_icmp .ne 18, 3) := by decide +kernel
theorem dX7_goesOnFor_20 : decode cX7_goesOnFor 20 = .ok (.aload_n 0, 1) := by decide +kernel
theorem dX7_goesOnFor_21 : decode cX7_goesOnFor 21 = .ok (.getfield 24, 3) := by decide +kernel
theorem dX7_goesOnFor_24 : decode cX7_goesOnFor 24 = .ok (.aload_n 1, 1) := by decide +kernel
theorem dX7_goesOnFor_25 : decode cX7_goesOnFor 25 = .ok (.invokevirtual 158, 3) := by decide +kernel
theorem dX7_goesOnFor_28 : decode cX7_goesOnFor 28 = .ok (.ifCond .ne 7, 3) := by decide +kernel
theorem dX7_goesOnFor_31 : decode cX7_goesOnFor 31 = .ok (.iconst 1, 1) := by decide +kernel
theorem dX7_goesOnFor_32 : decode cX7_goesOnFor 32 = .ok (.goto 4, 3) := by decide +kernel
theorem dX7_goesOnFor_35 : decode cX7_goesOnFor 35 = .ok (.iconst 0, 1) := by decide +kernel
theorem dX7_goesOnFor_36 : decode cX7_goesOnFor 36 = .ok (.ireturn, 1) := by decide +kernel
theorem dX7_countWays_0 : decode cX7_countWays 0 = .ok (.aload_n 0, 1) := by decide +kernel
theorem dX7_countWays_1 : decode cX7_countWays 1 = .ok (.getfield 24, 3) := by decide +kernel
theorem dX7_countWays_4 : decode cX7_countWays 4 = .ok (.aload_n 1, 1) := by decide +kernel
theorem dX7_countWays_5 : decode cX7_countWays 5 = .ok (.sipush 500, 3) := by decide +kernel
theorem dX7_countWays_8 : decode cX7_countWays 8 = .ok (.invokevirtual 154, 3) := by decide +kernel
theorem dX7_countWays_11 : decode cX7_countWays 11 = .ok (.aload_n 0, 1) := by decide +kernel
theorem dX7_countWays_12 : decode cX7_countWays 12 = .ok (.getfield 24, 3) := by decide +kernel
theorem dX7_countWays_15 : decode cX7_countWays 15 = .ok (.aload_n 1, 1) := by decide +kernel
theorem dX7_countWays_16 : decode cX7_countWays 16 = .ok (.invokevirtual 326, 3) := by decide +kernel
theorem dX7_countWays_19 : decode cX7_countWays 19 = .ok (.ifCond .eq 10, 3) := by decide +kernel
theorem dX7_countWays_22 : decode cX7_countWays 22 = .ok (.aload_n 1, 1) := by decide +kernel
theorem dX7_countWays_23 : decode cX7_countWays 23 = .ok (.invokevirtual 329, 3) := by decide +kernel
theorem dX7_countWays_26 : decode cX7_countWays 26 = .ok (.goto 4, 3) := by decide +kernel
theorem dX7_countWays_29 : decode cX7_countWays 29 = .ok (.iconst 0, 1) := by decide +kernel
theorem dX7_countWays_30 : decode cX7_countWays 30 = .ok (.ireturn, 1) := by decide +kernel
theorem dX7_asItStops_0 : decode cX7_asItStops 0 = .ok (.aload_n 0, 1) := by decide +kernel
theorem dX7_asItStops_1 : decode cX7_asItStops 1 = .ok (.getfield 24, 3) := by decide +kernel
theorem dX7_asItStops_4 : decode cX7_asItStops 4 = .ok (.aload_n 1, 1) := by decide +kernel
theorem dX7_asItStops_5 : decode cX7_asItStops 5 = .ok (.sipush 500, 3) := by decide +kernel
theorem dX7_asItStops_8 : decode cX7_asItStops 8 = .ok (.invokevirtual 154, 3) := by decide +kernel
theorem dX7_asItStops_11 : decode cX7_asItStops 11 = .ok (.aload_n 0, 1) := by decide +kernel
theorem dX7_asItStops_12 : decode cX7_asItStops 12 = .ok (.getfield 24, 3) := by decide +kernel
theorem dX7_asItStops_15 : decode cX7_asItStops 15 = .ok (.aload_n 1, 1) := by decide +kernel
theorem dX7_asItStops_16 : decode cX7_asItStops 16 = .ok (.invokevirtual 158, 3) := by decide +kernel
theorem dX7_asItStops_19 : decode cX7_asItStops 19 = .ok (.ifCond .ne 5, 3) := by decide +kernel
theorem dX7_asItStops_22 : decode cX7_asItStops 22 = .ok (.iconst (-1), 1) := by decide +kernel
theorem dX7_asItStops_23 : decode cX7_asItStops 23 = .ok (.ireturn, 1) := by decide +kernel
theorem dX7_asItStops_24 : decode cX7_asItStops 24 = .ok (.iload_n 2, 1) := by decide +kernel
theorem dX7_asItStops_25 : decode cX7_asItStops 25 = .ok (.lookupswitch 43 #[(6, 27), (7, 35)], 27) := by decide +kernel
theorem dX7_asItStops_52 : decode cX7_asItStops 52 = .ok (.aload_n 0, 1) := by decide +kernel
theorem dX7_asItStops_53 : decode cX7_asItStops 53 = .ok (.getfield 24, 3) := by decide +kernel
theorem dX7_asItStops_56 : decode cX7_asItStops 56 = .ok (.invokevirtual 209, 3) := by decide +kernel
theorem dX7_asItStops_59 : decode cX7_asItStops 59 = .ok (.ireturn, 1) := by decide +kernel
theorem dX7_asItStops_60 : decode cX7_asItStops 60 = .ok (.aload_n 0, 1) := by decide +kernel
theorem dX7_asItStops_61 : decode cX7_asItStops 61 = .ok (.getfield 24, 3) := by decide +kernel
theorem dX7_asItStops_64 : decode cX7_asItStops 64 = .ok (.getfield 161, 3) := by decide +kernel
theorem dX7_asItStops_67 : decode cX7_asItStops 67 = .ok (.ireturn, 1) := by decide +kernel
theorem dX7_asItStops_68 : decode cX7_asItStops 68 = .ok (.aload_n 0, 1) := by decide +kernel
theorem dX7_asItStops_69 : decode cX7_asItStops 69 = .ok (.getfield 24, 3) := by decide +kernel
theorem dX7_asItStops_72 : decode cX7_asItStops 72 = .ok (.getfield 206, 3) := by decide +kernel
theorem dX7_asItStops_75 : decode cX7_asItStops 75 = .ok (.invokestatic 332, 3) := by decide +kernel
theorem dX7_asItStops_78 : decode cX7_asItStops 78 = .ok (.ireturn, 1) := by decide +kernel
theorem dX7_countOfKind_0 : decode cX7_countOfKind 0 = .ok (.iconst 0, 1) := by decide +kernel
theorem dX7_countOfKind_1 : decode cX7_countOfKind 1 = .ok (.istore_n 2, 1) := by decide +kernel
theorem dX7_countOfKind_2 : decode cX7_countOfKind 2 = .ok (.iconst 0, 1) := by decide +kernel
theorem dX7_countOfKind_3 : decode cX7_countOfKind 3 = .ok (.istore_n 3, 1) := by decide +kernel
theorem dX7_countOfKind_4 : decode cX7_countOfKind 4 = .ok (.iload_n 3, 1) := by decide +kernel
theorem dX7_countOfKind_5 : decode cX7_countOfKind 5 = .ok (.aload_n 0, 1) := by decide +kernel
theorem dX7_countOfKind_6 : decode cX7_countOfKind 6 = .ok (.getfield 148, 3) := by decide +kernel
theorem dX7_countOfKind_9 : decode cX7_countOfKind 9 = .ok (.if_icmp .ge 24, 3) := by decide +kernel
theorem dX7_countOfKind_12 : decode cX7_countOfKind 12 = .ok (.aload_n 0, 1) := by decide +kernel
theorem dX7_countOfKind_13 : decode cX7_countOfKind 13 = .ok (.iload_n 3, 1) := by decide +kernel
theorem dX7_countOfKind_14 : decode cX7_countOfKind 14 = .ok (.invokevirtual 67, 3) := by decide +kernel
theorem dX7_countOfKind_17 : decode cX7_countOfKind 17 = .ok (.getfield 151, 3) := by decide +kernel
theorem dX7_countOfKind_20 : decode cX7_countOfKind 20 = .ok (.iload_n 1, 1) := by decide +kernel
theorem dX7_countOfKind_21 : decode cX7_countOfKind 21 = .ok (.if_icmp .ne 6, 3) := by decide +kernel
theorem dX7_countOfKind_24 : decode cX7_countOfKind 24 = .ok (.iinc 2 1, 3) := by decide +kernel
theorem dX7_countOfKind_27 : decode cX7_countOfKind 27 = .ok (.iinc 3 1, 3) := by decide +kernel
theorem dX7_countOfKind_30 : decode cX7_countOfKind 30 = .ok (.goto (-26), 3) := by decide +kernel
theorem dX7_countOfKind_33 : decode cX7_countOfKind 33 = .ok (.iload_n 2, 1) := by decide +kernel
theorem dX7_countOfKind_34 : decode cX7_countOfKind 34 = .ok (.ireturn, 1) := by decide +kernel
theorem dX7_countEmptyCells_0 : decode cX7_countEmptyCells 0 = .ok (.iconst 0, 1) := by decide +kernel
theorem dX7_countEmptyCells_1 : decode cX7_countEmptyCells 1 = .ok (.istore_n 1, 1) := by decide +kernel
theorem dX7_countEmptyCells_2 : decode cX7_countEmptyCells 2 = .ok (.iconst 0, 1) := by decide +kernel
theorem dX7_countEmptyCells_3 : decode cX7_countEmptyCells 3 = .ok (.istore_n 2, 1) := by decide +kernel
theorem dX7_countEmptyCells_4 : decode cX7_countEmptyCells 4 = .ok (.iload_n 2, 1) := by decide +kernel
theorem dX7_countEmptyCells_5 : decode cX7_countEmptyCells 5 = .ok (.aload_n 0, 1) := by decide +kernel
theorem dX7_countEmptyCells_6 : decode cX7_countEmptyCells 6 = .ok (.getfield 148, 3) := by decide +kernel
theorem dX7_countEmptyCells_9 : decode cX7_countEmptyCells 9 = .ok (.if_icmp .ge 20, 3) := by decide +kernel
theorem dX7_countEmptyCells_12 : decode cX7_countEmptyCells 12 = .ok (.iload_n 1, 1) := by decide +kernel
theorem dX7_countEmptyCells_13 : decode cX7_countEmptyCells 13 = .ok (.aload_n 0, 1) := by decide +kernel
theorem dX7_countEmptyCells_14 : decode cX7_countEmptyCells 14 = .ok (.iload_n 2, 1) := by decide +kernel
theorem dX7_countEmptyCells_15 : decode cX7_countEmptyCells 15 = .ok (.invokevirtual 67, 3) := by decide +kernel
theorem dX7_countEmptyCells_18 : decode cX7_countEmptyCells 18 = .ok (.invokevirtual 98, 3) := by decide +kernel
theorem dX7_countEmptyCells_21 : decode cX7_countEmptyCells 21 = .ok (.iadd, 1) := by decide +kernel
theorem dX7_countEmptyCells_22 : decode cX7_countEmptyCells 22 = .ok (.istore_n 1, 1) := by decide +kernel
theorem dX7_countEmptyCells_23 : decode cX7_countEmptyCells 23 = .ok (.iinc 2 1, 3) := by decide +kernel
theorem dX7_countEmptyCells_26 : decode cX7_countEmptyCells 26 = .ok (.goto (-22), 3) := by decide +kernel
theorem dX7_countEmptyCells_29 : decode cX7_countEmptyCells 29 = .ok (.iload_n 1, 1) := by decide +kernel
theorem dX7_countEmptyCells_30 : decode cX7_countEmptyCells 30 = .ok (.ireturn, 1) := by decide +kernel
