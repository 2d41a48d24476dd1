theorem dX7_amend_16 : decode cX7_amend 16 = .ok (.aload 7, 2) := by decide +kernel
theorem dX7_amend_18 : decode cX7_amend 18 = .ok (.iload 4, 2) := by decide +kernel
theorem dX7_amend_20 : decode cX7_amend 20 = .ok (.iload 5, 2) := by decide +kernel
theorem dX7_amend_22 : decode cX7_amend 22 = .ok (.iload 6, 2) := by decide +kernel
theorem dX7_amend_24 : decode cX7_amend 24 = .ok (.invokestatic 75, 3) := by decide +kernel
theorem dX7_amend_27 : decode cX7_amend 27 = .ok (.invokestatic 53, 3) := by decide +kernel
theorem dX7_amend_30 : decode cX7_amend 30 = .ok (.aload 7, 2) := by decide +kernel
theorem dX7_amend_32 : decode cX7_amend 32 = .ok (.iload 8, 2) := by decide +kernel
theorem dX7_amend_34 : decode cX7_amend 34 = .ok (.invokevirtual 79, 3) := by decide +kernel
theorem dX7_amend_37 : decode cX7_amend 37 = .ok (.ifCond .eq 13, 3) := by decide +kernel
theorem dX7_amend_40 : decode cX7_amend 40 = .ok (.new 83, 3) := by decide +kernel
theorem dX7_amend_43 : decode cX7_amend 43 = .ok (.dup, 1) := by decide +kernel
theorem dX7_amend_44 : decode cX7_amend 44 = .ok (.ldc 102, 2) := by decide +kernel
theorem dX7_amend_46 : decode cX7_amend 46 = .ok (.invokespecial 87, 3) := by decide +kernel
theorem dX7_amend_49 : decode cX7_amend 49 = .ok (.athrow, 1) := by decide +kernel
theorem dX7_amend_50 : decode cX7_amend 50 = .ok (.aload 7, 2) := by decide +kernel
theorem dX7_amend_52 : decode cX7_amend 52 = .ok (.iload 8, 2) := by decide +kernel
theorem dX7_amend_54 : decode cX7_amend 54 = .ok (.iload 4, 2) := by decide +kernel
theorem dX7_amend_56 : decode cX7_amend 56 = .ok (.iload 5, 2) := by decide +kernel
theorem dX7_amend_58 : decode cX7_amend 58 = .ok (.iload 6, 2) := by decide +kernel
theorem dX7_amend_60 : decode cX7_amend 60 = .ok (.invokevirtual 90, 3) := by decide +kernel
theorem dX7_amend_63 : decode cX7_amend 63 = .ok (.aload_n 0, 1) := by decide +kernel
theorem dX7_amend_64 : decode cX7_amend 64 = .ok (.aload 7, 2) := by decide +kernel
theorem dX7_amend_66 : decode cX7_amend 66 = .ok (.invokevirtual 94, 3) := by decide +kernel
theorem dX7_amend_69 : decode cX7_amend 69 = .ok (.ireturn, 1) := by decide +kernel
theorem dX7_child_0 : decode cX7_child 0 = .ok (.aload_n 0, 1) := by decide +kernel
theorem dX7_child_1 : decode cX7_child 1 = .ok (.iload_n 1, 1) := by decide +kernel
theorem dX7_child_2 : decode cX7_child 2 = .ok (.invokevirtual 67, 3) := by decide +kernel
theorem dX7_child_5 : decode cX7_child 5 = .ok (.astore_n 3, 1) := by decide +kernel
theorem dX7_child_6 : decode cX7_child 6 = .ok (.iload_n 2, 1) := by decide +kernel
theorem dX7_child_7 : decode cX7_child 7 = .ok (.iconst 0, 1) := by decide +kernel
theorem dX7_child_8 : decode cX7_child 8 = .ok (.aload_n 0, 1) := by decide +kernel
theorem dX7_child_9 : decode cX7_child 9 = .ok (.aload_n 3, 1) := by decide +kernel
theorem dX7_child_10 : decode cX7_child 10 = .ok (.invokevirtual 104, 3) := by decide +kernel
theorem dX7_child_13 : decode cX7_child 13 = .ok (.iconst 1, 1) := by decide +kernel
theorem dX7_child_14 : decode cX7_child 14 = .ok (.isub, 1) := by decide +kernel
theorem dX7_child_15 : decode cX7_child 15 = .ok (.invokestatic 49, 3) := by decide +kernel
theorem dX7_child_18 : decode cX7_child 18 = .ok (.invokestatic 53, 3) := by decide +kernel
theorem dX7_child_21 : decode cX7_child 21 = .ok (.aload_n 0, 1) := by decide +kernel
theorem dX7_child_22 : decode cX7_child 22 = .ok (.invokevirtual 57, 3) := by decide +kernel
theorem dX7_child_25 : decode cX7_child 25 = .ok (.new 9, 3) := by decide +kernel
theorem dX7_child_28 : decode cX7_child 28 = .ok (.dup, 1) := by decide +kernel
theorem dX7_child_29 : decode cX7_child 29 = .ok (.aload_n 3, 1) := by decide +kernel
theorem dX7_child_30 : decode cX7_child 30 = .ok (.getfield 107, 3) := by decide +kernel
theorem dX7_child_33 : decode cX7_child 33 = .ok (.invokespecial 60, 3) := by decide +kernel
theorem dX7_child_36 : decode cX7_child 36 = .ok (.astore 4, 2) := by decide +kernel
theorem dX7_child_38 : decode cX7_child 38 = .ok (.aload 4, 2) := by decide +kernel
theorem dX7_child_40 : decode cX7_child 40 = .ok (.aload_n 3, 1) := by decide +kernel
theorem dX7_child_41 : decode cX7_child 41 = .ok (.invokevirtual 111, 3) := by decide +kernel
theorem dX7_child_44 : decode cX7_child 44 = .ok (.aload 4, 2) := by decide +kernel
theorem dX7_child_46 : decode cX7_child 46 = .ok (.aload_n 0, 1) := by decide +kernel
theorem dX7_child_47 : decode cX7_child 47 = .ok (.getfield 24, 3) := by decide +kernel
theorem dX7_child_50 : decode cX7_child 50 = .ok (.invokevirtual 115, 3) := by decide +kernel
theorem dX7_child_53 : decode cX7_child 53 = .ok (.iload_n 2, 1) := by decide +kernel
theorem dX7_child_54 : decode cX7_child 54 = .ok (.invokevirtual 118, 3) := by decide +kernel
theorem dX7_child_57 : decode cX7_child 57 = .ok (.aload_n 0, 1) := by decide +kernel
theorem dX7_child_58 : decode cX7_child 58 = .ok (.aload 4, 2) := by decide +kernel
theorem dX7_child_60 : decode cX7_child 60 = .ok (.invokevirtual 63, 3) := by decide +kernel
theorem dX7_child_63 : decode cX7_child 63 = .ok (.ireturn, 1) := by decide +kernel
theorem dX7_prove_0 : decode cX7_prove 0 = .ok (.aload_n 0, 1) := by decide +kernel
theorem dX7_prove_1 : decode cX7_prove 1 = .ok (.iload_n 1, 1) := by decide +kernel
theorem dX7_prove_2 : decode cX7_prove 2 = .ok (.invokevirtual 67, 3) := by decide +kernel
theorem dX7_prove_5 : decode cX7_prove 5 = .ok (.astore 5, 2) := by decide +kernel
theorem dX7_prove_7 : decode cX7_prove 7 = .ok (.iload_n 2, 1) := by decide +kernel
theorem dX7_prove_8 : decode cX7_prove 8 = .ok (.iload_n 3, 1) := by decide +kernel
theorem dX7_prove_9 : decode cX7_prove 9 = .ok (.iload 4, 2) := by decide +kernel
theorem dX7_prove_11 : decode cX7_prove 11 = .ok (.invokestatic 130, 3) := by decide +kernel
theorem dX7_prove_14 : decode cX7_prove 14 = .ok (.invokestatic 53, 3) := by decide +kernel
theorem dX7_prove_17 : decode cX7_prove 17 = .ok (.aload 5, 2) := by decide +kernel
theorem dX7_prove_19 : decode cX7_prove 19 = .ok (.invokestatic 133, 3) := by decide +kernel
theorem dX7_prove_22 : decode cX7_prove 22 = .ok (.aload_n 0, 1) := by decide +kernel
theorem dX7_prove_23 : decode cX7_prove 23 = .ok (.dup, 1) := by decide +kernel
theorem dX7_prove_24 : decode cX7_prove 24 = .ok (.getfield 136, 3) := by decide +kernel
theorem dX7_prove_27 : decode cX7_prove 27 = .ok (.iconst 1, 1) := by decide +kernel
theorem dX7_prove_28 : decode cX7_prove 28 = .ok (.iadd, 1) := by decide +kernel
theorem dX7_prove_29 : decode cX7_prove 29 = .ok (.putfield 136, 3) := by decide +kernel
theorem dX7_prove_32 : decode cX7_prove 32 = .ok (.aload_n 0, 1) := by decide +kernel
theorem dX7_prove_33 : decode cX7_prove 33 = .ok (.aload 5, 2) := by decide +kernel
theorem dX7_prove_35 : decode cX7_prove 35 = .ok (.iload_n 2, 1) := by decide +kernel
theorem dX7_prove_36 : decode cX7_prove 36 = .ok (.iload_n 3, 1) := by decide +kernel
theorem dX7_prove_37 : decode cX7_prove 37 = .ok (.iload 4, 2) := by decide +kernel
theorem dX7_prove_39 : decode cX7_prove 39 = .ok (.invokevirtual 139, 3) := by decide +kernel
theorem dX7_prove_42 : decode cX7_prove 42 = .ok (.ifCond .ne 5, 3) := by decide +kernel
theorem dX7_prove_45 : decode cX7_prove 45 = .ok (.iconst 0, 1) := by decide +kernel
theorem dX7_prove_46 : decode cX7_prove 46 = .ok (.ireturn, 1) := by decide +kernel
theorem dX7_prove_47 : decode cX7_prove 47 = .ok (.aload_n 0, 1) := by decide +kernel
theorem dX7_prove_48 : decode cX7_prove 48 = .ok (.dup, 1) := by decide +kernel
theorem dX7_prove_49 : decode cX7_prove 49 = .ok (.getfield 142, 3) := by decide +kernel
theorem dX7_prove_52 : decode cX7_prove 52 = .ok (.iconst 1, 1) := by decide +kernel
theorem dX7_prove_53 : decode cX7_prove 53 = .ok (.iadd, 1) := by decide +kernel
theorem dX7_prove_54 : decode cX7_prove 54 = .ok (.putfield 142, 3) := by decide +kernel
theorem dX7_prove_57 : decode cX7_prove 57 = .ok (.aload 5, 2) := by decide +kernel
theorem dX7_prove_59 : decode cX7_prove 59 = .ok (.iload_n 2, 1) := by decide +kernel
theorem dX7_prove_60 : decode cX7_prove 60 = .ok (.iload_n 3, 1) := by decide +kernel
theorem dX7_prove_61 : decode cX7_prove 61 = .ok (.iload 4, 2) := by decide +kernel
theorem dX7_prove_63 : decode cX7_prove 63 = .ok (.invokevirtual 145, 3) := by decide +kernel
theorem dX7_prove_66 : decode cX7_prove 66 = .ok (.iconst 1, 1) := by decide +kernel
theorem dX7_prove_67 : decode cX7_prove 67 = .ok (.ireturn, 1) := by decide +kernel
theorem dX7_doubt_0 : decode cX7_doubt 0 = .ok (.iload_n 1, 1) := by decide +kernel
theorem dX7_doubt_1 : decode cX7_doubt 1 = .ok (.iconst 0, 1) := by decide +kernel
theorem dX7_doubt_2 : decode cX7_doubt 2 = .ok (.iconst 3, 1) := by decide +kernel
theorem dX7_doubt_3 : decode cX7_doubt 3 = .ok (.invokestatic 49, 3) := by decide +kernel
theorem dX7_doubt_6 : decode cX7_doubt 6 = .ok (.invokestatic 53, 3) := by decide +kernel
theorem dX7_doubt_9 : decode cX7_doubt 9 = .ok (.iconst 0, 1) := by decide +kernel
theorem dX7_doubt_10 : decode cX7_doubt 10 = .ok (.istore_n 2, 1) := by decide +kernel
theorem dX7_doubt_11 : decode cX7_doubt 11 = .ok (.iconst 0, 1) := by decide +kernel
theorem dX7_doubt_12 : decode cX7_doubt 12 = .ok (.istore_n 3, 1) := by decide +kernel
theorem dX7_doubt_13 : decode cX7_doubt 13 = .ok (.iload_n 3, 1) := by decide +kernel
theorem dX7_doubt_14 : decode cX7_doubt 14 = .ok (.aload_n 0, 1) := by decide +kernel
theorem dX7_doubt_15 : decode cX7_doubt 15 = .ok (.getfield 148, 3) := by decide +kernel
theorem dX7_doubt_18 : decode cX7_doubt 18 = .ok (.if_icmp .ge 35, 3) := by decide +kernel
theorem dX7_doubt_21 : decode cX7_doubt 21 = .ok (.aload_n 0, 1) := by decide +kernel
theorem dX7_doubt_22 : decode cX7_doubt 22 = .ok (.iload_n 3, 1) := by decide +kernel
theorem dX7_doubt_23 : decode cX7_doubt 23 = .ok (.invokevirtual 67, 3) := by decide +kernel
theorem dX7_doubt_26 : decode cX7_doubt 26 = .ok (.astore 4, 2) := by decide +kernel
theorem dX7_doubt_28 : decode cX7_doubt 28 = .ok (.aload 4, 2) := by decide +kernel
theorem dX7_doubt_30 : decode cX7_doubt 30 = .ok (.getfield 151, 3) := by decide +kernel
theorem dX7_doubt_33 : decode cX7_doubt 33 = .ok (.iload_n 1, 1) := by decide +kernel
theorem dX7_doubt_34 : decode cX7_doubt 34 = .ok (.if_icmp .ne 13, 3) := by decide +kernel
theorem dX7_doubt_37 : decode cX7_doubt 37 = .ok (.aload_n 0, 1) := by decide +kernel
theorem dX7_doubt_38 : decode cX7_doubt 38 = .ok (.aload 4, 2) := by decide +kernel
theorem dX7_doubt_40 : decode cX7_doubt 40 = .ok (.invokevirtual 94, 3) := by decide +kernel
theorem dX7_doubt_43 : decode cX7_doubt 43 = .ok (.pop, 1) := by decide +kernel
theorem dX7_doubt_44 : decode cX7_doubt 44 = .ok (.iinc 2 1, 3) := by decide +kernel
theorem dX7_doubt_47 : decode cX7_doubt 47 = .ok (.iinc 3 1, 3) := by decide +kernel
theorem dX7_doubt_50 : decode cX7_doubt 50 = .ok (.goto (-37), 3) := by decide +kernel
theorem dX7_doubt_53 : decode cX7_doubt 53 = .ok (.iload_n 2, 1) := by decide +kernel
theorem dX7_doubt_54 : decode cX7_doubt 54 = .ok (.ireturn, 1) := by decide +kernel
theorem dX7_decide_0 : decode cX7_decide 0 = .ok (.aload_n 0, 1) := by decide +kernel
theorem dX7_decide_1 : decode cX7_decide 1 = .ok (.iload_n 1, 1) := by decide +kernel
theorem dX7_decide_2 : decode cX7_decide 2 = .ok (.invokevirtual 67, 3) := by decide +kernel
theorem dX7_decide_5 : decode cX7_decide 5 = .ok (.astore_n 2, 1) := by decide +kernel
theorem dX7_decide_6 : decode cX7_decide 6 = .ok (.aload_n 2, 1) := by decide +kernel
theorem dX7_decide_7 : decode cX7_decide 7 = .ok (.invokestatic 133, 3) := by decide +kernel
theorem dX7_decide_10 : decode cX7_decide 10 = .ok (.aload_n 0, 1) := by decide +kernel
theorem dX7_decide_11 : decode cX7_decide 11 = .ok (.getfield 24, 3) := by decide +kernel
theorem dX7_decide_14 : decode cX7_decide 14 = .ok (.aload_n 2, 1) := by decide +kernel
theorem dX7_decide_15 : decode cX7_decide 15 = .ok (.sipush 500, 3) := by decide +kernel
theorem dX7_decide_18 : decode cX7_decide 18 = .ok (.invokevirtual 154, 3) := by decide +kernel
theorem dX7_decide_21 : decode cX7_decide 21 = .ok (.aload_n 0, 1) := by decide +kernel
theorem dX7_decide_22 : decode cX7_decide 22 = .ok (.getfield 24, 3) := by decide +kernel
theorem dX7_decide_25 : decode cX7_decide 25 = .ok (.aload_n 2, 1) := by decide +kernel
theorem dX7_decide_26 : decode cX7_decide 26 = .ok (.invokevirtual 158, 3) := by decide +kernel
theorem dX7_decide_29 : decode cX7_decide 29 = .ok (.ifCond .eq 17, 3) := by decide +kernel
theorem dX7_decide_32 : decode cX7_decide 32 = .ok (.aload_n 2, 1) := by decide +kernel
theorem dX7_decide_33 : decode cX7_decide 33 = .ok (.iconst 0, 1) := by decide +kernel
theorem dX7_decide_34 : decode cX7_decide 34 = .ok (.aload_n 0, 1) := by decide +kernel
theorem dX7_decide_35 : decode cX7_decide 35 = .ok (.getfield 24, 3) := by decide +kernel
theorem dX7_decide_38 : decode cX7_decide 38 = .ok (.getfield 161, 3) := by decide +kernel
theorem dX7_decide_41 : decode cX7_decide 41 = .ok (.iconst 0, 1) := by decide +kernel
theorem dX7_decide_42 : decode cX7_decide 42 = .ok (.invokestatic 164, 3) := by decide +kernel
theorem dX7_decide_45 : decode cX7_decide 45 = .ok (.ireturn, 1) := by decide +kernel
theorem dX7_decide_46 : decode cX7_decide 46 = .ok (.aload_n 0, 1) := by decide +kernel
theorem dX7_decide_47 : decode cX7_decide 47 = .ok (.getfield 31, 3) := by decide +kernel
theorem dX7_decide_50 : decode cX7_decide 50 = .ok (.aload_n 2, 1) := by decide +kernel
theorem dX7_decide_51 : decode cX7_decide 51 = .ok (.bipush 30, 2) := by decide +kernel
theorem dX7_decide_53 : decode cX7_decide 53 = .ok (.invokevirtual 168, 3) := by decide +kernel
theorem dX7_decide_56 : decode cX7_decide 56 = .ok (.istore_n 3, 1) := by decide +kernel
theorem dX7_decide_57 : decode cX7_decide 57 = .ok (.iload_n 3, 1) := by decide +kernel
theorem dX7_decide_58 : decode cX7_decide 58 = .ok (.iconst (-1), 1) := by decide +kernel
theorem dX7_decide_59 : decode cX7_decide 59 = .ok (.if_icmp .eq 19, 3) := by decide +kernel
theorem dX7_decide_62 : decode cX7_decide 62 = .ok (.aload_n 2, 1) := by decide +kernel
theorem dX7_decide_63 : decode cX7_decide 63 = .ok (.iconst 1, 1) := by decide +kernel
theorem dX7_decide_64 : decode cX7_decide 64 = .ok (.iload_n 3, 1) := by decide +kernel
theorem dX7_decide_65 : decode cX7_decide 65 = .ok (.sipush 200, 3) := by decide +kernel
theorem dX7_decide_68 : decode cX7_decide 68 = .ok (.idiv, 1) := by decide +kernel
theorem dX7_decide_69 : decode cX7_decide 69 = .ok (.iload_n 3, 1) := by decide +kernel
theorem dX7_decide_70 : decode cX7_decide 70 = .ok (.sipush 200, 3) := by decide +kernel
theorem dX7_decide_73 : decode cX7_decide 73 = .ok (.irem, 1) := by decide +kernel
theorem dX7_decide_74 : decode cX7_decide 74 = .ok (.invokestatic 164, 3) := by decide +kernel
theorem dX7_decide_77 : decode cX7_decide 77 = .ok (.ireturn, 1) := by decide +kernel
theorem dX7_decide_78 : decode cX7_decide 78 = .ok (.aload_n 0, 1) := by decide +kernel
theorem dX7_decide_79 : decode cX7_decide 79 = .ok (.aload_n 2, 1) := by decide +kernel
theorem dX7_decide_80 : decode cX7_decide 80 = .ok (.invokevirtual 172, 3) := by decide +kernel
theorem dX7_decide_83 : decode cX7_decide 83 = .ok (.istore 4, 2) := by decide +kernel
theorem dX7_decide_85 : decode cX7_decide 85 = .ok (.iload 4, 2) := by decide +kernel
theorem dX7_decide_87 : decode cX7_decide 87 = .ok (.iconst (-1), 1) := by decide +kernel
theorem dX7_decide_88 : decode cX7_decide 88 = .ok (.if_icmp .eq 12, 3) := by decide +kernel
theorem dX7_decide_91 : decode cX7_decide 91 = .ok (.aload_n 2, 1) := by decide +kernel
theorem dX7_decide_92 : decode cX7_decide 92 = .ok (.iconst 2, 1) := by decide +kernel
theorem dX7_decide_93 : decode cX7_decide 93 = .ok (.iload 4, 2) := by decide +kernel
theorem dX7_decide_95 : decode cX7_decide 95 = .ok (.iconst 0, 1) := by decide +kernel
theorem dX7_decide_96 : decode cX7_decide 96 = .ok (.invokestatic 164, 3) := by decide +kernel
theorem dX7_decide_99 : decode cX7_decide 99 = .ok (.ireturn, 1) := by decide +kernel
theorem dX7_decide_100 : decode cX7_decide 100 = .ok (.aload_n 0, 1) := by decide +kernel
theorem dX7_decide_101 : decode cX7_decide 101 = .ok (.getfield 45, 3) := by decide +kernel
theorem dX7_decide_104 : decode cX7_decide 104 = .ok (.aload_n 2, 1) := by decide +kernel
theorem dX7_decide_105 : decode cX7_decide 105 = .ok (.invokevirtual 175, 3) := by decide +kernel
theorem dX7_decide_108 : decode cX7_decide 108 = .ok (.istore 5, 2) := by decide +kernel
theorem dX7_decide_110 : decode cX7_decide 110 = .ok (.iload 5, 2) := by decide +kernel
theorem dX7_decide_112 : decode cX7_decide 112 = .ok (.iconst (-1), 1) := by decide +kernel
theorem dX7_decide_113 : decode cX7_decide 113 = .ok (.if_icmp .eq 12, 3) := by decide +kernel
theorem dX7_decide_116 : decode cX7_decide 116 = .ok (.aload_n 2, 1) := by decide +kernel
theorem dX7_decide_117 : decode cX7_decide 117 = .ok (.iconst 3, 1) := by decide +kernel
theorem dX7_decide_118 : decode cX7_decide 118 = .ok (.iload 5, 2) := by decide +kernel
theorem dX7_decide_120 : decode cX7_decide 120 = .ok (.iconst 0, 1) := by decide +kernel
theorem dX7_decide_121 : decode cX7_decide 121 = .ok (.invokestatic 164, 3) := by decide +kernel
theorem dX7_decide_124 : decode cX7_decide 124 = .ok (.ireturn, 1) := by decide +kernel
theorem dX7_decide_125 : decode cX7_decide 125 = .ok (.iconst (-1), 1) := by decide +kernel
theorem dX7_decide_126 : decode cX7_decide 126 = .ok (.ireturn, 1) := by decide +kernel
theorem dX7_cell_0 : decode cX7_cell 0 = .ok (.aload_n 0, 1) := by decide +kernel
theorem dX7_cell_1 : decode cX7_cell 1 = .ok (.iload_n 1, 1) := by decide +kernel
theorem dX7_cell_2 : decode cX7_cell 2 = .ok (.invokevirtual 67, 3) := by decide +kernel
theorem dX7_cell_5 : decode cX7_cell 5 = .ok (.astore 5, 2) := by decide +kernel
theorem dX7_cell_7 : decode cX7_cell 7 = .ok (.aload 5, 2) := by decide +kernel
theorem dX7_cell_9 : decode cX7_cell 9 = .ok (.iload_n 2, 1) := by decide +kernel
theorem dX7_cell_10 : decode cX7_cell 10 = .ok (.iload_n 3, 1) := by decide +kernel
theorem dX7_cell_11 : decode cX7_cell 11 = .ok (.invokestatic 71, 3) := by decide +kernel
theorem dX7_cell_14 : decode cX7_cell 14 = .ok (.istore 6, 2) := by decide +kernel
theorem dX7_cell_16 : decode cX7_cell 16 = .ok (.iload 4, 2) := by decide +kernel
theorem dX7_cell_18 : decode cX7_cell 18 = .ok (.iconst 0, 1) := by decide +kernel
theorem dX7_cell_19 : decode cX7_cell 19 = .ok (.iconst 2, 1) := by decide +kernel
theorem dX7_cell_20 : decode cX7_cell 20 = .ok (.invokestatic 49, 3) := by decide +kernel
theorem dX7_cell_23 : decode cX7_cell 23 = .ok (.invokestatic 53, 3) := by decide +kernel
theorem dX7_cell_26 : decode cX7_cell 26 = .ok (.aload 5, 2) := by decide +kernel
theorem dX7_cell_28 : decode cX7_cell 28 = .ok (.iload 6, 2) := by decide +kernel
theorem dX7_cell_30 : decode cX7_cell 30 = .ok (.invokevirtual 79, 3) := by decide +kernel
theorem dX7_cell_33 : decode cX7_cell 33 = .ok (.ifCond .eq 5, 3) := by decide +kernel
theorem dX7_cell_36 : decode cX7_cell 36 = .ok (.iconst (-1), 1) := by decide +kernel
theorem dX7_cell_37 : decode cX7_cell 37 = .ok (.ireturn, 1) := by decide +kernel
theorem dX7_cell_38 : decode cX7_cell 38 = .ok (.iload 4, 2) := by decide +kernel
theorem dX7_cell_40 : decode cX7_cell 40 = .ok (.lookupswitch 48 #[(0, 28), (1, 36)], 28) := by decide +kernel
theorem dX7_cell_68 : decode cX7_cell 68 = .ok (.aload 5, 2) := by decide +kernel
theorem dX7_cell_70 : decode cX7_cell 70 = .ok (.iload 6, 2) := by decide +kernel
theorem dX7_cell_72 : decode cX7_cell 72 = .ok (.invokevirtual 178, 3) := by decide +kernel
theorem dX7_cell_75 : decode cX7_cell 75 = .ok (.ireturn, 1) := by decide +kernel
theorem dX7_cell_76 : decode cX7_cell 76 = .ok (.aload 5, 2) := by decide +kernel
theorem dX7_cell_78 : decode cX7_cell 78 = .ok (.iload 6, 2) := by decide +kernel
theorem dX7_cell_80 : decode cX7_cell 80 = .ok (.invokevirtual 182, 3) := by decide +kernel
theorem dX7_cell_83 : decode cX7_cell 83 = .ok (.iconst 0, 1) := by decide +kernel
theorem dX7_cell_84 : decode cX7_cell 84 = .ok (.invokestatic 185, 3) := by decide +kernel
theorem dX7_cell_87 : decode cX7_cell 87 = .ok (.ireturn, 1) := by decide +kernel
theorem dX7_cell_88 : decode cX7_cell 88 = .ok (.aload 5, 2) := by decide +kernel
theorem dX7_cell_90 : decode cX7_cell 90 = .ok (.iload 6, 2) := by decide +kernel
theorem dX7_cell_92 : decode cX7_cell 92 = .ok (.invokevirtual 191, 3) := by decide +kernel
theorem dX7_cell_95 : decode cX7_cell 95 = .ok (.ireturn, 1) := by decide +kernel
theorem dX7_ofMachine_0 : decode cX7_ofMachine 0 = .ok (.aload_n 0, 1) := by decide +kernel
theorem dX7_ofMachine_1 : decode cX7_ofMachine 1 = .ok (.iload_n 1, 1) := by decide +kernel
theorem dX7_ofMachine_2 : decode cX7_ofMachine 2 = .ok (.invokevirtual 67, 3) := by decide +kernel
theorem dX7_ofMachine_5 : decode cX7_ofMachine 5 = .ok (.astore_n 3, 1) := by decide +kernel
theorem dX7_ofMachine_6 : decode cX7_ofMachine 6 = .ok (.iload_n 2, 1) := by decide +kernel
theorem dX7_ofMachine_7 : decode cX7_ofMachine 7 = .ok (.iconst 0, 1) := by decide +kernel
theorem dX7_ofMachine_8 : decode cX7_ofMachine 8 = .ok (.bipush 8, 2) := by decide +kernel
theorem dX7_ofMachine_10 : decode cX7_ofMachine 10 = .ok (.invokestatic 49, 3) := by decide +kernel
theorem dX7_ofMachine_13 : decode cX7_ofMachine 13 = .ok (.invokestatic 53, 3) := by decide +kernel
theorem dX7_ofMachine_16 : decode cX7_ofMachine 16 = .ok (.iload_n 2, 1) := by decide +kernel
theorem dX7_ofMachine_17 : decode cX7_ofMachine 17 = .ok (.tableswitch 70 0 5 #[39, 44, 49, 54, 59, 64], 39) := by decide +kernel
theorem dX7_ofMachine_56 : decode cX7_ofMachine 56 = .ok (.aload_n 3, 1) := by decide +kernel
theorem dX7_ofMachine_57 : decode cX7_ofMachine 57 = .ok (.getfield 107, 3) := by decide +kernel
theorem dX7_ofMachine_60 : decode cX7_ofMachine 60 = .ok (.ireturn, 1) := by decide +kernel
theorem dX7_ofMachine_61 : decode cX7_ofMachine 61 = .ok (.aload_n 3, 1) := by decide +kernel
theorem dX7_ofMachine_62 : decode cX7_ofMachine 62 = .ok (.invokevirtual 98, 3) := by decide +kernel
theorem dX7_ofMachine_65 : decode cX7_ofMachine 65 = .ok (.ireturn, 1) := by decide +kernel
theorem dX7_ofMachine_66 : decode cX7_ofMachine 66 = .ok (.aload_n 3, 1) := by decide +kernel
theorem dX7_ofMachine_67 : decode cX7_ofMachine 67 = .ok (.getfield 151, 3) := by decide +kernel
theorem dX7_ofMachine_70 : decode cX7_ofMachine 70 = .ok (.ireturn, 1) := by decide +kernel
theorem dX7_ofMachine_71 : decode cX7_ofMachine 71 = .ok (.aload_n 3, 1) := by decide +kernel
theorem dX7_ofMachine_72 : decode cX7_ofMachine 72 = .ok (.getfield 194, 3) := by decide +kernel
theorem dX7_ofMachine_75 : decode cX7_ofMachine 75 = .ok (.ireturn, 1) := by decide +kernel
theorem dX7_ofMachine_76 : decode cX7_ofMachine 76 = .ok (.aload_n 3, 1) := by decide +kernel
theorem dX7_ofMachine_77 : decode cX7_ofMachine 77 = .ok (.getfield 197, 3) := by decide +kernel
theorem dX7_ofMachine_80 : decode cX7_ofMachine 80 = .ok (.ireturn, 1) := by decide +kernel
theorem dX7_ofMachine_81 : decode cX7_ofMachine 81 = .ok (.aload_n 0, 1) := by decide +kernel
theorem dX7_ofMachine_82 : decode cX7_ofMachine 82 = .ok (.aload_n 3, 1) := by decide +kernel
theorem dX7_ofMachine_83 : decode cX7_ofMachine 83 = .ok (.invokevirtual 104, 3) := by decide +kernel
theorem dX7_ofMachine_86 : decode cX7_ofMachine 86 = .ok (.ireturn, 1) := by decide +kernel
theorem dX7_ofMachine_87 : decode cX7_ofMachine 87 = .ok (.aload_n 0, 1) := by decide +kernel
theorem dX7_ofMachine_88 : decode cX7_ofMachine 88 = .ok (.aload_n 3, 1) := by decide +kernel
theorem dX7_ofMachine_89 : decode cX7_ofMachine 89 = .ok (.iload_n 2, 1) := by decide +kernel
theorem dX7_ofMachine_90 : decode cX7_ofMachine 90 = .ok (.invokevirtual 200, 3) := by decide +kernel
theorem dX7_ofMachine_93 : decode cX7_ofMachine 93 = .ok (.ireturn, 1) := by decide +kernel
theorem dX7_at_0 : decode cX7_at 0 = .ok (.aload_n 0, 1) := by decide +kernel
theorem dX7_at_1 : decode cX7_at 1 = .ok (.iload_n 1, 1) := by decide +kernel
theorem dX7_at_2 : decode cX7_at 2 = .ok (.invokevirtual 67, 3) := by decide +kernel
theorem dX7_at_5 : decode cX7_at 5 = .ok (.astore 4, 2) := by decide +kernel
theorem dX7_at_7 : decode cX7_at 7 = .ok (.iload_n 2, 1) := by decide +kernel
theorem dX7_at_8 : decode cX7_at 8 = .ok (.iconst 0, 1) := by decide +kernel
theorem dX7_at_9 : decode cX7_at 9 = .ok (.sipush 500, 3) := by decide +kernel
theorem dX7_at_12 : decode cX7_at 12 = .ok (.invokestatic 49, 3) := by decide +kernel
theorem dX7_at_15 : decode cX7_at 15 = .ok (.invokestatic 53, 3) := by decide +kernel
theorem dX7_at_18 : decode cX7_at 18 = .ok (.iload_n 3, 1) := by decide +kernel
theorem dX7_at_19 : decode cX7_at 19 = .ok (.iconst 0, 1) := by decide +kernel
theorem dX7_at_20 : decode cX7_at 20 = .ok (.bipush 7, 2) := by decide +kernel
theorem dX7_at_22 : decode cX7_at 22 = .ok (.invokestatic 49, 3) := by decide +kernel
theorem dX7_at_25 : decode cX7_at 25 = .ok (.invokestatic 53, 3) := by decide +kernel
theorem dX7_at_28 : decode cX7_at 28 = .ok (.aload_n 0, 1) := by decide +kernel
theorem dX7_at_29 : decode cX7_at 29 = .ok (.getfield 24, 3) := by decide +kernel
theorem dX7_at_32 : decode cX7_at 32 = .ok (.aload 4, 2) := by decide +kernel
theorem dX7_at_34 : decode cX7_at 34 = .ok (.iload_n 2, 1) := by decide +kernel
theorem dX7_at_35 : decode cX7_at 35 = .ok (.invokevirtual 154, 3) := by decide +kernel
theorem dX7_at_38 : decode cX7_at 38 = .ok (.iload_n 3, 1) := by decide +kernel
theorem dX7_at_39 : decode cX7_at 39 = .ok (.tableswitch 97 0 6 #[41, 49, 57, 65, 73, 81, 89], 41) := by decide +kernel
theorem dX7_at_80 : decode cX7_at 80 = .ok (.aload_n 0, 1) := by decide +kernel
theorem dX7_at_81 : decode cX7_at 81 = .ok (.getfield 24, 3) := by decide +kernel
theorem dX7_at_84 : decode cX7_at 84 = .ok (.getfield 161, 3) := by decide +kernel
theorem dX7_at_87 : decode cX7_at 87 = .ok (.ireturn, 1) := by decide +kernel
theorem dX7_at_88 : decode cX7_at 88 = .ok (.aload_n 0, 1) := by decide +kernel
theorem dX7_at_89 : decode cX7_at 89 = .ok (.getfield 24, 3) := by decide +kernel
theorem dX7_at_92 : decode cX7_at 92 = .ok (.getfield 203, 3) := by decide +kernel
theorem dX7_at_95 : decode cX7_at 95 = .ok (.ireturn, 1) := by decide +kernel
theorem dX7_at_96 : decode cX7_at 96 = .ok (.aload_n 0, 1) := by decide +kernel
theorem dX7_at_97 : decode cX7_at 97 = .ok (.getfield 24, 3) := by decide +kernel
theorem dX7_at_100 : decode cX7_at 100 = .ok (.getfield 206, 3) := by decide +kernel
theorem dX7_at_103 : decode cX7_at 103 = .ok (.ireturn, 1) := by decide +kernel
theorem dX7_at_104 : decode cX7_at 104 = .ok (.aload_n 0, 1) := by decide +kernel
theorem dX7_at_105 : decode cX7_at 105 = .ok (.getfield 24, 3) := by decide +kernel
theorem dX7_at_108 : decode cX7_at 108 = .ok (.invokevirtual 209, 3) := by decide +kernel
theorem dX7_at_111 : decode cX7_at 111 = .ok (.ireturn, 1) := by decide +kernel
theorem dX7_at_112 : decode cX7_at 112 = .ok (.aload_n 0, 1) := by decide +kernel
theorem dX7_at_113 : decode cX7_at 113 = .ok (.getfield 24, 3) := by decide +kernel
theorem dX7_at_116 : decode cX7_at 116 = .ok (.invokevirtual 212, 3) := by decide +kernel
theorem dX7_at_119 : decode cX7_at 119 = .ok (.ireturn, 1) := by decide +kernel
theorem dX7_at_120 : decode cX7_at 120 = .ok (.aload_n 0, 1) := by decide +kernel
theorem dX7_at_121 : decode cX7_at 121 = .ok (.getfield 24, 3) := by decide +kernel
theorem dX7_at_124 : decode cX7_at 124 = .ok (.getfield 215, 3) := by decide +kernel
theorem dX7_at_127 : decode cX7_at 127 = .ok (.ireturn, 1) := by decide +kernel
theorem dX7_at_128 : decode cX7_at 128 = .ok (.aload_n 0, 1) := by decide +kernel
theorem dX7_at_129 : decode cX7_at 129 = .ok (.getfield 24, 3) := by decide +kernel
theorem dX7_at_132 : decode cX7_at 132 = .ok (.getfield 218, 3) := by decide +kernel
theorem dX7_at_135 : decode cX7_at 135 = .ok (.ireturn, 1) := by decide +kernel
theorem dX7_at_136 : decode cX7_at 136 = .ok (.aload_n 0, 1) := by decide +kernel
theorem dX7_at_137 : decode cX7_at 137 = .ok (.getfield 24, 3) := by decide +kernel
theorem dX7_at_140 : decode cX7_at 140 = .ok (.invokevirtual 221, 3) := by decide +kernel
theorem dX7_at_143 : decode cX7_at 143 = .ok (.ireturn, 1) := by decide +kernel
theorem dX7_symbol_0 : decode cX7_symbol 0 = .ok (.aload_n 0, 1) := by decide +kernel
theorem dX7_symbol_1 : decode cX7_symbol 1 = .ok (.iload_n 1, 1) := by decide +kernel
theorem dX7_symbol_2 : decode cX7_symbol 2 = .ok (.invokevirtual 67, 3) := by decide +kernel
theorem dX7_symbol_5 : decode cX7_symbol 5 = .ok (.astore 4, 2) := by decide +kernel
theorem dX7_symbol_7 : decode cX7_symbol 7 = .ok (.iload_n 2, 1) := by decide +kernel
theorem dX7_symbol_8 : decode cX7_symbol 8 = .ok (.iconst 0, 1) := by decide +kernel
theorem dX7_symbol_9 : decode cX7_symbol 9 = .ok (.sipush 500, 3) := by decide +kernel
theorem dX7_symbol_12 : decode cX7_symbol 12 = .ok (.invokestatic 49, 3) := by decide +kernel
theorem dX7_symbol_15 : decode cX7_symbol 15 = .ok (.invokestatic 53, 3) := by decide +kernel
theorem dX7_symbol_18 : decode cX7_symbol 18 = .ok (.iload_n 3, 1) := by decide +kernel
theorem dX7_symbol_19 : decode cX7_symbol 19 = .ok (.sipush (-501), 3) := by decide +kernel
theorem dX7_symbol_22 : decode cX7_symbol 22 = .ok (.sipush 501, 3) := by decide +kernel
theorem dX7_symbol_25 : decode cX7_symbol 25 = .ok (.invokestatic 49, 3) := by decide +kernel
theorem dX7_symbol_28 : decode cX7_symbol 28 = .ok (.invokestatic 53, 3) := by decide +kernel
theorem dX7_symbol_31 : decode cX7_symbol 31 = .ok (.aload_n 0, 1) := by decide +kernel
theorem dX7_symbol_32 : decode cX7_symbol 32 = .ok (.getfield 24, 3) := by decide +kernel
theorem dX7_symbol_35 : decode cX7_symbol 35 = .ok (.aload 4, 2) := by decide +kernel
theorem dX7_symbol_37 : decode cX7_symbol 37 = .ok (.iload_n 2, 1) := by decide +kernel
theorem dX7_symbol_38 : decode cX7_symbol 38 = .ok (.invokevirtual 154, 3) := by decide +kernel
theorem dX7_symbol_41 : decode cX7_symbol 41 = .ok (.aload_n 0, 1) := by decide +kernel
theorem dX7_symbol_42 : decode cX7_symbol 42 = .ok (.getfield 24, 3) := by decide +kernel
theorem dX7_symbol_45 : decode cX7_symbol 45 = .ok (.iload_n 3, 1) := by decide +kernel
theorem dX7_symbol_46 : decode cX7_symbol 46 = .ok (.invokevirtual 224, 3) := by decide +kernel
theorem dX7_symbol_49 : decode cX7_symbol 49 = .ok (.ireturn, 1) := by decide +kernel
theorem dX7_champion_0 : decode cX7_champion 0 = .ok (.iload_n 1, 1) := by decide +kernel
theorem dX7_champion_1 : decode cX7_champion 1 = .ok (.iconst 0, 1) := by decide +kernel
theorem dX7_champion_2 : decode cX7_champion 2 = .ok (.iconst 1, 1) := by decide +kernel
theorem dX7_champion_3 : decode cX7_champion 3 = .ok (.invokestatic 49, 3) := by decide +kernel
theorem dX7_champion_6 : decode cX7_champion 6 = .ok (.invokestatic 53, 3) := by decide +kernel
theorem dX7_champion_9 : decode cX7_champion 9 = .ok (.iconst (-1), 1) := by decide +kernel
theorem dX7_champion_10 : decode cX7_champion 10 = .ok (.istore_n 2, 1) := by decide +kernel
theorem dX7_champion_11 : decode cX7_champion 11 = .ok (.iconst (-1), 1) := by decide +kernel
theorem dX7_champion_12 : decode cX7_champion 12 = .ok (.istore_n 3, 1) := by decide +kernel
theorem dX7_champion_13 : decode cX7_champion 13 = .ok (.iconst 0, 1) := by decide +kernel
theorem dX7_champion_14 : decode cX7_champion 14 = .ok (.istore 4, 2) := by decide +kernel
theorem dX7_champion_16 : decode cX7_champion 16 = .ok (.iload 4, 2) := by decide +kernel
theorem dX7_champion_18 : decode cX7_champion 18 = .ok (.aload_n 0, 1) := by decide +kernel
theorem dX7_champion_19 : decode cX7_champion 19 = .ok (.getfield 148, 3) := by decide +kernel
theorem dX7_champion_22 : decode cX7_champion 22 = .ok (.if_icmp .ge 56, 3) := by decide +kernel
theorem dX7_champion_25 : decode cX7_champion 25 = .ok (.aload_n 0, 1) := by decide +kernel
theorem dX7_champion_26 : decode cX7_champion 26 = .ok (.iload 4, 2) := by decide +kernel
theorem dX7_champion_28 : decode cX7_champion 28 = .ok (.invokevirtual 67, 3) := by decide +kernel
theorem dX7_champion_31 : decode cX7_champion 31 = .ok (.astore 5, 2) := by decide +kernel
theorem dX7_champion_33 : decode cX7_champion 33 = .ok (.aload 5, 2) := by decide +kernel
theorem dX7_champion_35 : decode cX7_champion 35 = .ok (.getfield 151, 3) := by decide +kernel
theorem dX7_champion_38 : decode cX7_champion 38 = .ok (.ifCond .ne 34, 3) := by decide +kernel
theorem dX7_champion_41 : decode cX7_champion 41 = .ok (.aload_n 0, 1) := by decide +kernel
theorem dX7_champion_42 : decode cX7_champion 42 = .ok (.aload 5, 2) := by decide +kernel
theorem dX7_champion_44 : decode cX7_champion 44 = .ok (.iload_n 1, 1) := by decide +kernel
theorem dX7_champion_45 : decode cX7_champion 45 = .ok (.ifCond .ne 8, 3) := by decide +kernel
theorem dX7_champion_48 : decode cX7_champion 48 = .ok (.bipush 6, 2) := by decide +kernel
theorem dX7_champion_50 : decode cX7_champion 50 = .ok (.goto 5, 3) := by decide +kernel
theorem dX7_champion_53 : decode cX7_champion 53 = .ok (.bipush 7, 2) := by decide +kernel
theorem dX7_champion_55 : decode cX7_champion 55 = .ok (.invokevirtual 200, 3) := by decide +kernel
theorem dX7_champion_58 : decode cX7_champion 58 = .ok (.istore 6, 2) := by decide +kernel
theorem dX7_champion_60 : decode cX7_champion 60 = .ok (.iload 6, 2) := by decide +kernel
theorem dX7_champion_62 : decode cX7_champion 62 = .ok (.iload_n 3, 1) := by decide +kernel
theorem dX7_champion_63 : decode cX7_champion 63 = .ok (.if_icmp .le 9, 3) := by decide +kernel
theorem dX7_champion_66 : decode cX7_champion 66 = .ok (.iload 6, 2) := by decide +kernel
theorem dX7_champion_68 : decode cX7_champion 68 = .ok (.istore_n 3, 1) := by decide +kernel
theorem dX7_champion_69 : decode cX7_champion 69 = .ok (.iload 4, 2) := by decide +kernel
theorem dX7_champion_71 : decode cX7_champion 71 = .ok (.istore_n 2, 1) := by decide +kernel
theorem dX7_champion_72 : decode cX7_champion 72 = .ok (.iinc 4 1, 3) := by decide +kernel
theorem dX7_champion_75 : decode cX7_champion 75 = .ok (.goto (-59), 3) := by decide +kernel
theorem dX7_champion_78 : decode cX7_champion 78 = .ok (.iload_n 2, 1) := by decide +kernel
theorem dX7_champion_79 : decode cX7_champion 79 = .ok (.ireturn, 1) := by decide +kernel
theorem dX7_many_0 : decode cX7_many 0 = .ok (.iload_n 1, 1) := by decide +kernel
theorem dX7_many_1 : decode cX7_many 1 = .ok (.iconst 0, 1) := by decide +kernel
theorem dX7_many_2 : decode cX7_many 2 = .ok (.bipush 10, 2) := by decide +kernel
theorem dX7_many_4 : decode cX7_many 4 = .ok (.invokestatic 49, 3) := by decide +kernel
theorem dX7_many_7 : decode cX7_many 7 = .ok (.invokestatic 53, 3) := by decide +kernel
theorem dX7_many_10 : decode cX7_many 10 = .ok (.iload_n 1, 1) := by decide +kernel
theorem dX7_many_11 : decode cX7_many 11 = .ok (.tableswitch 93 0 10 #[57, 62, 93, 93, 93, 93, 68, 73, 78, 83, 88], 57) := by decide +kernel
theorem dX7_many_68 : decode cX7_many 68 = .ok (.aload_n 0, 1) := by decide +kernel
theorem dX7_many_69 : decode cX7_many 69 = .ok (.getfield 148, 3) := by decide +kernel
theorem dX7_many_72 : decode cX7_many 72 = .ok (.ireturn, 1) := by decide +kernel
theorem dX7_many_73 : decode cX7_many 73 = .ok (.aload_n 0, 1) := by decide +kernel
theorem dX7_many_74 : decode cX7_many 74 = .ok (.iconst (-1), 1) := by decide +kernel
theorem dX7_many_75 : decode cX7_many 75 = .ok (.invokevirtual 252, 3) := by decide +kernel
theorem dX7_many_78 : decode cX7_many 78 = .ok (.ireturn, 1) := by decide +kernel
theorem dX7_many_79 : decode cX7_many 79 = .ok (.aload_n 0, 1) := by decide +kernel
theorem dX7_many_80 : decode cX7_many 80 = .ok (.getfield 122, 3) := by decide +kernel
theorem dX7_many_83 : decode cX7_many 83 = .ok (.ireturn, 1) := by decide +kernel
theorem dX7_many_84 : decode cX7_many 84 = .ok (.aload_n 0, 1) := by decide +kernel
theorem dX7_many_85 : decode cX7_many 85 = .ok (.getfield 136, 3) := by decide +kernel
theorem dX7_many_88 : decode cX7_many 88 = .ok (.ireturn, 1) := by decide +kernel
theorem dX7_many_89 : decode cX7_many 89 = .ok (.aload_n 0, 1) := by decide +kernel
theorem dX7_many_90 : decode cX7_many 90 = .ok (.getfield 142, 3) := by decide +kernel
theorem dX7_many_93 : decode cX7_many 93 = .ok (.ireturn, 1) := by decide +kernel
theorem dX7_many_94 : decode cX7_many 94 = .ok (.aload_n 0, 1) := by decide +kernel
theorem dX7_many_95 : decode cX7_many 95 = .ok (.getfield 255, 3) := by decide +kernel
theorem dX7_many_98 : decode cX7_many 98 = .ok (.ireturn, 1) := by decide +kernel
theorem dX7_many_99 : decode cX7_many 99 = .ok (.aload_n 0, 1) := by decide +kernel
theorem dX7_many_100 : decode cX7_many 100 = .ok (.invokevirtual 258, 3) := by decide +kernel
theorem dX7_many_103 : decode cX7_many 103 = .ok (.ireturn, 1) := by decide +kernel
theorem dX7_many_104 : decode cX7_many 104 = .ok (.aload_n 0, 1) := by decide +kernel
theorem dX7_many_105 : decode cX7_many 105 = .ok (.iload_n 1, 1) := by decide +kernel
theorem dX7_many_106 : decode cX7_many 106 = .ok (.iconst 2, 1) := by decide +kernel
theorem dX7_many_107 : decode cX7_many 107 = .ok (.isub, 1) := by decide +kernel
theorem dX7_many_108 : decode cX7_many 108 = .ok (.invokevirtual 252, 3) := by decide +kernel
theorem dX7_many_111 : decode cX7_many 111 = .ok (.ireturn, 1) := by decide +kernel
theorem dX7_meanStop_0 : decode cX7_meanStop 0 = .ok (.iconst 0, 1) := by decide +kernel
theorem dX7_meanStop_1 : decode cX7_meanStop 1 = .ok (.istore_n 1, 1) := by decide +kernel
theorem dX7_meanStop_2 : decode cX7_meanStop 2 = .ok (.iconst 0, 1) := by decide +kernel
theorem dX7_meanStop_3 : decode cX7_meanStop 3 = .ok (.istore_n 2, 1) := by decide +kernel
theorem dX7_meanStop_4 : decode cX7_meanStop 4 = .ok (.iconst 0, 1) := by decide +kernel
theorem dX7_meanStop_5 : decode cX7_meanStop 5 = .ok (.istore_n 3, 1) := by decide +kernel
theorem dX7_meanStop_6 : decode cX7_meanStop 6 = .ok (.iload_n 3, 1) := by decide +kernel
theorem dX7_meanStop_7 : decode cX7_meanStop 7 = .ok (.aload_n 0, 1) := by decide +kernel
theorem dX7_meanStop_8 : decode cX7_meanStop 8 = .ok (.getfield 148, 3) := by decide +kernel
theorem dX7_meanStop_11 : decode cX7_meanStop 11 = .ok (.if_icmp .ge 35, 3) := by decide +kernel
theorem dX7_meanStop_14 : decode cX7_meanStop 14 = .ok (.aload_n 0, 1) := by decide +kernel
theorem dX7_meanStop_15 : decode cX7_meanStop 15 = .ok (.iload_n 3, 1) := by decide +kernel
theorem dX7_meanStop_16 : decode cX7_meanStop 16 = .ok (.invokevirtual 67, 3) := by decide +kernel
theorem dX7_meanStop_19 : decode cX7_meanStop 19 = .ok (.astore 4, 2) := by decide +kernel
theorem dX7_meanStop_21 : decode cX7_meanStop 21 = .ok (.aload 4, 2) := by decide +kernel
theorem dX7_meanStop_23 : decode cX7_meanStop 23 = .ok (.getfield 151, 3) := by decide +kernel
theorem dX7_meanStop_26 : decode cX7_meanStop 26 = .ok (.ifCond .ne 14, 3) := by decide +kernel
theorem dX7_meanStop_29 : decode cX7_meanStop 29 = .ok (.iload_n 1, 1) := by decide +kernel
theorem dX7_meanStop_30 : decode cX7_meanStop 30 = .ok (.aload 4, 2) := by decide +kernel
theorem dX7_meanStop_32 : decode cX7_meanStop 32 = .ok (.getfield 194, 3) := by decide +kernel
theorem dX7_meanStop_35 : decode cX7_meanStop 35 = .ok (.iadd, 1) := by decide +kernel
theorem dX7_meanStop_36 : decode cX7_meanStop 36 = .ok (.istore_n 1, 1) := by decide +kernel
theorem dX7_meanStop_37 : decode cX7_meanStop 37 = .ok (.iinc 2 1, 3) := by decide +kernel
theorem dX7_meanStop_40 : decode cX7_meanStop 40 = .ok (.iinc 3 1, 3) := by decide +kernel
theorem dX7_meanStop_43 : decode cX7_meanStop 43 = .ok (.goto (-37), 3) := by decide +kernel
theorem dX7_meanStop_46 : decode cX7_meanStop 46 = .ok (.iload_n 2, 1) := by decide +kernel
theorem dX7_meanStop_47 : decode cX7_meanStop 47 = .ok (.ifCond .ne 7, 3) := by decide +kernel
theorem dX7_meanStop_50 : decode cX7_meanStop 50 = .ok (.dconst 0, 1) := by decide +kernel
theorem dX7_meanStop_51 : decode cX7_meanStop 51 = .ok (.goto 8, 3) := by decide +kernel
theorem dX7_meanStop_54 : decode cX7_meanStop 54 = .ok (.iload_n 1, 1) := by decide +kernel
theorem dX7_meanStop_55 : decode cX7_meanStop 55 = .ok (.i2d, 1) := by decide +kernel
theorem dX7_meanStop_56 : decode cX7_meanStop 56 = .ok (.iload_n 2, 1) := by decide +kernel
theorem dX7_meanStop_57 : decode cX7_meanStop 57 = .ok (.i2d, 1) := by decide +kernel
theorem dX7_meanStop_58 : decode cX7_meanStop 58 = .ok (.ddiv, 1) := by decide +kernel
theorem dX7_meanStop_59 : decode cX7_meanStop 59 = .ok (.dreturn, 1) := by decide +kernel
theorem dX7_digest_0 : decode cX7_digest 0 = .ok (.ldc2_w 261, 3) := by decide +kernel
theorem dX7_digest_3 : decode cX7_digest 3 = .ok (.lstore_n 1, 1) := by decide +kernel
theorem dX7_digest_4 : decode cX7_digest 4 = .ok (.iconst 0, 1) := by decide +kernel
theorem dX7_digest_5 : decode cX7_digest 5 = .ok (.istore_n 3, 1) := by decide +kernel
theorem dX7_digest_6 : decode cX7_digest 6 = .ok (.iload_n 3, 1) := by decide +kernel
theorem dX7_digest_7 : decode cX7_digest 7 = .ok (.bipush 10, 2) := by decide +kernel
theorem dX7_digest_9 : decode cX7_digest 9 = .ok (.if_icmp .gt 22, 3) := by decide +kernel
theorem dX7_digest_12 : decode cX7_digest 12 = .ok (.lload_n 1, 1) := by decide +kernel
theorem dX7_digest_13 : decode cX7_digest 13 = .ok (.ldc2_w 263, 3) := by decide +kernel
theorem dX7_digest_16 : decode cX7_digest 16 = .ok (.lmul, 1) := by decide +kernel
theorem dX7_digest_17 : decode cX7_digest 17 = .ok (.aload_n 0, 1) := by decide +kernel
theorem dX7_digest_18 : decode cX7_digest 18 = .ok (.iload_n 3, 1) := by decide +kernel
theorem dX7_digest_19 : decode cX7_digest 19 = .ok (.invokevirtual 265, 3) := by decide +kernel
theorem dX7_digest_22 : decode cX7_digest 22 = .ok (.i2l, 1) := by decide +kernel
theorem dX7_digest_23 : decode cX7_digest 23 = .ok (.ladd, 1) := by decide +kernel
theorem dX7_digest_24 : decode cX7_digest 24 = .ok (.lstore_n 1, 1) := by decide +kernel
theorem dX7_digest_25 : decode cX7_digest 25 = .ok (.iinc 3 1, 3) := by decide +kernel
theorem dX7_digest_28 : decode cX7_digest 28 = .ok (.goto (-22), 3) := by decide +kernel
theorem dX7_digest_31 : decode cX7_digest 31 = .ok (.iconst 0, 1) := by decide +kernel
theorem dX7_digest_32 : decode cX7_digest 32 = .ok (.istore_n 3, 1) := by decide +kernel
theorem dX7_digest_33 : decode cX7_digest 33 = .ok (.iload_n 3, 1) := by decide +kernel
theorem dX7_digest_34 : decode cX7_digest 34 = .ok (.aload_n 0, 1) := by decide +kernel
theorem dX7_digest_35 : decode cX7_digest 35 = .ok (.getfield 148, 3) := by decide +kernel
theorem dX7_digest_38 : decode cX7_digest 38 = .ok (.if_icmp .ge 23, 3) := by decide +kernel
theorem dX7_digest_41 : decode cX7_digest 41 = .ok (.aload_n 0, 1) := by decide +kernel
theorem dX7_digest_42 : decode cX7_digest 42 = .ok (.lload_n 1, 1) := by decide +kernel
theorem dX7_digest_43 : decode cX7_digest 43 = .ok (.iload_n 3, 1) := by decide +kernel
theorem dX7_digest_44 : decode cX7_digest 44 = .ok (.invokevirtual 268, 3) := by decide +kernel
theorem dX7_digest_47 : decode cX7_digest 47 = .ok (.lstore_n 1, 1) := by decide +kernel
theorem dX7_digest_48 : decode cX7_digest 48 = .ok (.aload_n 0, 1) := by decide +kernel
theorem dX7_digest_49 : decode cX7_digest 49 = .ok (.lload_n 1, 1) := by decide +kernel
theorem dX7_digest_50 : decode cX7_digest 50 = .ok (.iload_n 3, 1) := by decide +kernel
theorem dX7_digest_51 : decode cX7_digest 51 = .ok (.invokevirtual 272, 3) := by decide +kernel
theorem dX7_digest_54 : decode cX7_digest 54 = .ok (.lstore_n 1, 1) := by decide +kernel
theorem dX7_digest_55 : decode cX7_digest 55 = .ok (.iinc 3 1, 3) := by decide +kernel
theorem dX7_digest_58 : decode cX7_digest 58 = .ok (.goto (-25), 3) := by decide +kernel
theorem dX7_digest_61 : decode cX7_digest 61 = .ok (.iconst 0, 1) := by decide +kernel
theorem dX7_digest_62 : decode cX7_digest 62 = .ok (.istore_n 3, 1) := by decide +kernel
theorem dX7_digest_63 : decode cX7_digest 63 = .ok (.iload_n 3, 1) := by decide +kernel
theorem dX7_digest_64 : decode cX7_digest 64 = .ok (.aload_n 0, 1) := by decide +kernel
theorem dX7_digest_65 : decode cX7_digest 65 = .ok (.getfield 122, 3) := by decide +kernel
theorem dX7_digest_68 : decode cX7_digest 68 = .ok (.if_icmp .ge 26, 3) := by decide +kernel
theorem dX7_digest_71 : decode cX7_digest 71 = .ok (.lload_n 1, 1) := by decide +kernel
theorem dX7_digest_72 : decode cX7_digest 72 = .ok (.ldc2_w 263, 3) := by decide +kernel
theorem dX7_digest_75 : decode cX7_digest 75 = .ok (.lmul, 1) := by decide +kernel
theorem dX7_digest_76 : decode cX7_digest 76 = .ok (.aload_n 0, 1) := by decide +kernel
theorem dX7_digest_77 : decode cX7_digest 77 = .ok (.iload_n 3, 1) := by decide +kernel
theorem dX7_digest_78 : decode cX7_digest 78 = .ok (.bipush 10, 2) := by decide +kernel
theorem dX7_digest_80 : decode cX7_digest 80 = .ok (.bipush 9, 2) := by decide +kernel
theorem dX7_digest_82 : decode cX7_digest 82 = .ok (.invokevirtual 275, 3) := by decide +kernel
theorem dX7_digest_85 : decode cX7_digest 85 = .ok (.i2l, 1) := by decide +kernel
theorem dX7_digest_86 : decode cX7_digest 86 = .ok (.ladd, 1) := by decide +kernel
theorem dX7_digest_87 : decode cX7_digest 87 = .ok (.lstore_n 1, 1) := by decide +kernel
theorem dX7_digest_88 : decode cX7_digest 88 = .ok (.iinc 3 1, 3) := by decide +kernel
theorem dX7_digest_91 : decode cX7_digest 91 = .ok (.goto (-28), 3) := by decide +kernel
theorem dX7_digest_94 : decode cX7_digest 94 = .ok (.lload_n 1, 1) := by decide +kernel
theorem dX7_digest_95 : decode cX7_digest 95 = .ok (.ldc2_w 263, 3) := by decide +kernel
theorem dX7_digest_98 : decode cX7_digest 98 = .ok (.lmul, 1) := by decide +kernel
theorem dX7_digest_99 : decode cX7_digest 99 = .ok (.aload_n 0, 1) := by decide +kernel
theorem dX7_digest_100 : decode cX7_digest 100 = .ok (.iconst 0, 1) := by decide +kernel
theorem dX7_digest_101 : decode cX7_digest 101 = .ok (.invokevirtual 279, 3) := by decide +kernel
theorem dX7_digest_104 : decode cX7_digest 104 = .ok (.i2l, 1) := by decide +kernel
theorem dX7_digest_105 : decode cX7_digest 105 = .ok (.ladd, 1) := by decide +kernel
theorem dX7_digest_106 : decode cX7_digest 106 = .ok (.lstore_n 1, 1) := by decide +kernel
theorem dX7_digest_107 : decode cX7_digest 107 = .ok (.lload_n 1, 1) := by decide +kernel
theorem dX7_digest_108 : decode cX7_digest 108 = .ok (.ldc2_w 263, 3) := by decide +kernel
theorem dX7_digest_111 : decode cX7_digest 111 = .ok (.lmul, 1) := by decide +kernel
theorem dX7_digest_112 : decode cX7_digest 112 = .ok (.aload_n 0, 1) := by decide +kernel
theorem dX7_digest_113 : decode cX7_digest 113 = .ok (.iconst 1, 1) := by decide +kernel
theorem dX7_digest_114 : decode cX7_digest 114 = .ok (.invokevirtual 279, 3) := by decide +kernel
theorem dX7_digest_117 : decode cX7_digest 117 = .ok (.i2l, 1) := by decide +kernel
theorem dX7_digest_118 : decode cX7_digest 118 = .ok (.ladd, 1) := by decide +kernel
theorem dX7_digest_119 : decode cX7_digest 119 = .ok (.lreturn, 1) := by decide +kernel
theorem dX7_digestTable_0 : decode cX7_digestTable 0 = .ok (.lload_n 1, 1) := by decide +kernel
theorem dX7_digestTable_1 : decode cX7_digestTable 1 = .ok (.lstore 4, 2) := by decide +kernel
theorem dX7_digestTable_3 : decode cX7_digestTable 3 = .ok (.iconst 0, 1) := by decide +kernel
theorem dX7_digestTable_4 : decode cX7_digestTable 4 = .ok (.istore 6, 2) := by decide +kernel
theorem dX7_digestTable_6 : decode cX7_digestTable 6 = .ok (.iload 6, 2) := by decide +kernel
theorem dX7_digestTable_8 : decode cX7_digestTable 8 = .ok (.bipush 8, 2) := by decide +kernel
theorem dX7_digestTable_10 : decode cX7_digestTable 10 = .ok (.if_icmp .gt 26, 3) := by decide +kernel
theorem dX7_digestTable_13 : decode cX7_digestTable 13 = .ok (.lload 4, 2) := by decide +kernel
theorem dX7_digestTable_15 : decode cX7_digestTable 15 = .ok (.ldc2_w 263, 3) := by decide +kernel
theorem dX7_digestTable_18 : decode cX7_digestTable 18 = .ok (.lmul, 1) := by decide +kernel
theorem dX7_digestTable_19 : decode cX7_digestTable 19 = .ok (.aload_n 0, 1) := by decide +kernel
theorem dX7_digestTable_20 : decode cX7_digestTable 20 = .ok (.iload_n 3, 1) := by decide +kernel
theorem dX7_digestTable_21 : decode cX7_digestTable 21 = .ok (.iload 6, 2) := by decide +kernel
theorem dX7_digestTable_23 : decode cX7_digestTable 23 = .ok (.invokevirtual 282, 3) := by decide +kernel
theorem dX7_digestTable_26 : decode cX7_digestTable 26 = .ok (.i2l, 1) := by decide +kernel
theorem dX7_digestTable_27 : decode cX7_digestTable 27 = .ok (.ladd, 1) := by decide +kernel
theorem dX7_digestTable_28 : decode cX7_digestTable 28 = .ok (.lstore 4, 2) := by decide +kernel
theorem dX7_digestTable_30 : decode cX7_digestTable 30 = .ok (.iinc 6 1, 3) := by decide +kernel
theorem dX7_digestTable_33 : decode cX7_digestTable 33 = .ok (.goto (-27), 3) := by decide +kernel
theorem dX7_digestTable_36 : decode cX7_digestTable 36 = .ok (.aload_n 0, 1) := by decide +kernel
theorem dX7_digestTable_37 : decode cX7_digestTable 37 = .ok (.iload_n 3, 1) := by decide +kernel
theorem dX7_digestTable_38 : decode cX7_digestTable 38 = .ok (.invokevirtual 67, 3) := by decide +kernel
theorem dX7_digestTable_41 : decode cX7_digestTable 41 = .ok (.getfield 107, 3) := by decide +kernel
theorem dX7_digestTable_44 : decode cX7_digestTable 44 = .ok (.istore 6, 2) := by decide +kernel
theorem dX7_digestTable_46 : decode cX7_digestTable 46 = .ok (.iconst 0, 1) := by decide +kernel
theorem dX7_digestTable_47 : decode cX7_digestTable 47 = .ok (.istore 7, 2) := by decide +kernel
theorem dX7_digestTable_49 : decode cX7_digestTable 49 = .ok (.iload 7, 2) := by decide +kernel
theorem dX7_digestTable_51 : decode cX7_digestTable 51 = .ok (.iload 6, 2) := by decide +kernel
theorem dX7_digestTable_53 : decode cX7_digestTable 53 = .ok (.if_icmp .ge 60, 3) := by decide +kernel
theorem dX7_digestTable_56 : decode cX7_digestTable 56 = .ok (.iconst 0, 1) := by decide +kernel
theorem dX7_digestTable_57 : decode cX7_digestTable 57 = .ok (.istore 8, 2) := by decide +kernel
theorem dX7_digestTable_59 : decode cX7_digestTable 59 = .ok (.iload 8, 2) := by decide +kernel
theorem dX7_digestTable_61 : decode cX7_digestTable 61 = .ok (.iconst 1, 1) := by decide +kernel
theorem dX7_digestTable_62 : decode cX7_digestTable 62 = .ok (.if_icmp .gt 45, 3) := by decide +kernel
theorem dX7_digestTable_65 : decode cX7_digestTable 65 = .ok (.iconst 0, 1) := by decide +kernel
theorem dX7_digestTable_66 : decode cX7_digestTable 66 = .ok (.istore 9, 2) := by decide +kernel
theorem dX7_digestTable_68 : decode cX7_digestTable 68 = .ok (.iload 9, 2) := by decide +kernel
theorem dX7_digestTable_70 : decode cX7_digestTable 70 = .ok (.iconst 2, 1) := by decide +kernel
theorem dX7_digestTable_71 : decode cX7_digestTable 71 = .ok (.if_icmp .gt 30, 3) := by decide +kernel
theorem dX7_digestTable_74 : decode cX7_digestTable 74 = .ok (.lload 4, 2) := by decide +kernel
theorem dX7_digestTable_76 : decode cX7_digestTable 76 = .ok (.ldc2_w 263, 3) := by decide +kernel
theorem dX7_digestTable_79 : decode cX7_digestTable 79 = .ok (.lmul, 1) := by decide +kernel
theorem dX7_digestTable_80 : decode cX7_digestTable 80 = .ok (.aload_n 0, 1) := by decide +kernel
theorem dX7_digestTable_81 : decode cX7_digestTable 81 = .ok (.iload_n 3, 1) := by decide +kernel
theorem dX7_digestTable_82 : decode cX7_digestTable 82 = .ok (.iload 7, 2) := by decide +kernel
theorem dX7_digestTable_84 : decode cX7_digestTable 84 = .ok (.iload 8, 2) := by decide +kernel
theorem dX7_digestTable_86 : decode cX7_digestTable 86 = .ok (.iload 9, 2) := by decide +kernel
theorem dX7_digestTable_88 : decode cX7_digestTable 88 = .ok (.invokevirtual 285, 3) := by decide +kernel
theorem dX7_digestTable_91 : decode cX7_digestTable 91 = .ok (.i2l, 1) := by decide +kernel
theorem dX7_digestTable_92 : decode cX7_digestTable 92 = .ok (.ladd, 1) := by decide +kernel
theorem dX7_digestTable_93 : decode cX7_digestTable 93 = .ok (.lstore 4, 2) := by decide +kernel
theorem dX7_digestTable_95 : decode cX7_digestTable 95 = .ok (.iinc 9 1, 3) := by decide +kernel
theorem dX7_digestTable_98 : decode cX7_digestTable 98 = .ok (.goto (-30), 3) := by decide +kernel
theorem dX7_digestTable_101 : decode cX7_digestTable 101 = .ok (.iinc 8 1, 3) := by decide +kernel
theorem dX7_digestTable_104 : decode cX7_digestTable 104 = .ok (.goto (-45), 3) := by decide +kernel
theorem dX7_digestTable_107 : decode cX7_digestTable 107 = .ok (.iinc 7 1, 3) := by decide +kernel
theorem dX7_digestTable_110 : decode cX7_digestTable 110 = .ok (.goto (-61), 3) := by decide +kernel
theorem dX7_digestTable_113 : decode cX7_digestTable 113 = .ok (.lload 4, 2) := by decide +kernel
theorem dX7_digestTable_115 : decode cX7_digestTable 115 = .ok (.lreturn, 1) := by decide +kernel
theorem dX7_digestRuns_0 : decode cX7_digestRuns 0 = .ok (.lload_n 1, 1) := by decide +kernel
theorem dX7_digestRuns_1 : decode cX7_digestRuns 1 = .ok (.lstore 4, 2) := by decide +kernel
theorem dX7_digestRuns_3 : decode cX7_digestRuns 3 = .ok (.iconst 0, 1) := by decide +kernel
theorem dX7_digestRuns_4 : decode cX7_digestRuns 4 = .ok (.istore 6, 2) := by decide +kernel
theorem dX7_digestRuns_6 : decode cX7_digestRuns 6 = .ok (.iload 6, 2) := by decide +kernel
theorem dX7_digestRuns_8 : decode cX7_digestRuns 8 = .ok (.bipush 7, 2) := by decide +kernel
theorem dX7_digestRuns_10 : decode cX7_digestRuns 10 = .ok (.if_icmp .gt 28, 3) := by decide +kernel
theorem dX7_digestRuns_13 : decode cX7_digestRuns 13 = .ok (.lload 4, 2) := by decide +kernel
theorem dX7_digestRuns_15 : decode cX7_digestRuns 15 = .ok (.ldc2_w 263, 3) := by decide +kernel
theorem dX7_digestRuns_18 : decode cX7_digestRuns 18 = .ok (.lmul, 1) := by decide +kernel
theorem dX7_digestRuns_19 : decode cX7_digestRuns 19 = .ok (.aload_n 0, 1) := by decide +kernel
theorem dX7_digestRuns_20 : decode cX7_digestRuns 20 = .ok (.iload_n 3, 1) := by decide +kernel
theorem dX7_digestRuns_21 : decode cX7_digestRuns 21 = .ok (.bipush 40, 2) := by decide +kernel
theorem dX7_digestRuns_23 : decode cX7_digestRuns 23 = .ok (.iload 6, 2) := by decide +kernel
theorem dX7_digestRuns_25 : decode cX7_digestRuns 25 = .ok (.invokevirtual 289, 3) := by decide +kernel
theorem dX7_digestRuns_28 : decode cX7_digestRuns 28 = .ok (.i2l, 1) := by decide +kernel
theorem dX7_digestRuns_29 : decode cX7_digestRuns 29 = .ok (.ladd, 1) := by decide +kernel
theorem dX7_digestRuns_30 : decode cX7_digestRuns 30 = .ok (.lstore 4, 2) := by decide +kernel
theorem dX7_digestRuns_32 : decode cX7_digestRuns 32 = .ok (.iinc 6 1, 3) := by decide +kernel
theorem dX7_digestRuns_35 : decode cX7_digestRuns 35 = .ok (.goto (-29), 3) := by decide +kernel
theorem dX7_digestRuns_38 : decode cX7_digestRuns 38 = .ok (.aload_n 0, 1) := by decide +kernel
theorem dX7_digestRuns_39 : decode cX7_digestRuns 39 = .ok (.iload_n 3, 1) := by decide +kernel
theorem dX7_digestRuns_40 : decode cX7_digestRuns 40 = .ok (.invokevirtual 67, 3) := by decide +kernel
theorem dX7_digestRuns_43 : decode cX7_digestRuns 43 = .ok (.astore 6, 2) := by decide +kernel
theorem dX7_digestRuns_45 : decode cX7_digestRuns 45 = .ok (.lload 4, 2) := by decide +kernel
theorem dX7_digestRuns_47 : decode cX7_digestRuns 47 = .ok (.ldc2_w 263, 3) := by decide +kernel
theorem dX7_digestRuns_50 : decode cX7_digestRuns 50 = .ok (.lmul, 1) := by decide +kernel
theorem dX7_digestRuns_51 : decode cX7_digestRuns 51 = .ok (.aload_n 0, 1) := by decide +kernel
theorem dX7_digestRuns_52 : decode cX7_digestRuns 52 = .ok (.getfield 31, 3) := by decide +kernel
theorem dX7_digestRuns_55 : decode cX7_digestRuns 55 = .ok (.aload 6, 2) := by decide +kernel
theorem dX7_digestRuns_57 : decode cX7_digestRuns 57 = .ok (.bipush 8, 2) := by decide +kernel
theorem dX7_digestRuns_59 : decode cX7_digestRuns 59 = .ok (.invokevirtual 168, 3) := by decide +kernel
theorem dX7_digestRuns_62 : decode cX7_digestRuns 62 = .ok (.i2l, 1) := by decide +kernel
theorem dX7_digestRuns_63 : decode cX7_digestRuns 63 = .ok (.ladd, 1) := by decide +kernel
theorem dX7_digestRuns_64 : decode cX7_digestRuns 64 = .ok (.lstore 4, 2) := by decide +kernel
theorem dX7_digestRuns_66 : decode cX7_digestRuns 66 = .ok (.lload 4, 2) := by decide +kernel
theorem dX7_digestRuns_68 : decode cX7_digestRuns 68 = .ok (.ldc2_w 263, 3) := by decide +kernel
theorem dX7_digestRuns_71 : decode cX7_digestRuns 71 = .ok (.lmul, 1) := by decide +kernel
theorem dX7_digestRuns_72 : decode cX7_digestRuns 72 = .ok (.aload_n 0, 1) := by decide +kernel
theorem dX7_digestRuns_73 : decode cX7_digestRuns 73 = .ok (.aload 6, 2) := by decide +kernel
theorem dX7_digestRuns_75 : decode cX7_digestRuns 75 = .ok (.invokevirtual 172, 3) := by decide +kernel
theorem dX7_digestRuns_78 : decode cX7_digestRuns 78 = .ok (.i2l, 1) := by decide +kernel
theorem dX7_digestRuns_79 : decode cX7_digestRuns 79 = .ok (.ladd, 1) := by decide +kernel
theorem dX7_digestRuns_80 : decode cX7_digestRuns 80 = .ok (.lreturn, 1) := by decide +kernel
theorem dX7_isWithin_0 : decode cX7_isWithin 0 = .ok (.iload_n 0, 1) := by decide +kernel
theorem dX7_isWithin_1 : decode cX7_isWithin 1 = .ok (.iload_n 1, 1) := by decide +kernel
theorem dX7_isWithin_2 : decode cX7_isWithin 2 = .ok (.if_icmp .lt 12, 3) := by decide +kernel
theorem dX7_isWithin_5 : decode cX7_isWithin 5 = .ok (.iload_n 0, 1) := by decide +kernel
theorem dX7_isWithin_6 : decode cX7_isWithin 6 = .ok (.iload_n 2, 1) := by decide +kernel
theorem dX7_isWithin_7 : decode cX7_isWithin 7 = .ok (.if_icmp .gt 7, 3) := by decide +kernel
theorem dX7_isWithin_10 : decode cX7_isWithin 10 = .ok (.iconst 1, 1) := by decide +kernel
theorem dX7_isWithin_11 : decode cX7_isWithin 11 = .ok (.goto 4, 3) := by decide +kernel
theorem dX7_isWithin_14 : decode cX7_isWithin 14 = .ok (.iconst 0, 1) := by decide +kernel
theorem dX7_isWithin_15 : decode cX7_isWithin 15 = .ok (.ireturn, 1) := by decide +kernel
theorem dX7_require_0 : decode cX7_require 0 = .ok (.iload_n 0, 1) := by decide +kernel
theorem dX7_require_1 : decode cX7_require 1 = .ok (.ifCond .ne 14, 3) := by decide +kernel
theorem dX7_require_4 : decode cX7_require 4 = .ok (.new 292, 3) := by decide +kernel
theorem dX7_require_7 : decode cX7_require 7 = .ok (.dup, 1) := by decide +kernel
theorem dX7_require_8 : decode cX7_require 8 = .ok (.ldc_w 294, 3) := by decide +kernel
theorem dX7_require_11 : decode cX7_require 11 = .ok (.invokespecial 296, 3) := by decide +kernel
theorem dX7_require_14 : decode cX7_require 14 = .ok (.athrow, 1) := by decide +kernel
theorem dX7_require_15 : decode cX7_require 15 = .ok (.return_, 1) := by decide +kernel
theorem dX7_requireOpen_0 : decode cX7_requireOpen 0 = .ok (.aload_n 0, 1) := by decide +kernel
theorem dX7_requireOpen_1 : decode cX7_requireOpen 1 = .ok (.getfield 151, 3) := by decide +kernel
theorem dX7_requireOpen_4 : decode cX7_requireOpen 4 = .ok (.iconst (-1), 1) := by decide +kernel
theorem dX7_requireOpen_5 : decode cX7_requireOpen 5 = .ok (.if_icmp .eq 14, 3) := by decide +kernel
theorem dX7_requireOpen_8 : decode cX7_requireOpen 8 = .ok (.new 83, 3) := by decide +kernel
theorem dX7_requireOpen_11 : decode cX7_requireOpen 11 = .ok (.dup, 1) := by decide +kernel
theorem dX7_requireOpen_12 : decode cX7_requireOpen 12 = .ok (.ldc_w 297, 3) := by decide +kernel
theorem dX7_requireOpen_15 : decode cX7_requireOpen 15 = .ok (.invokespecial 87, 3) := by decide +kernel
theorem dX7_requireOpen_18 : decode cX7_requireOpen 18 = .ok (.athrow, 1) := by decide +kernel
theorem dX7_requireOpen_19 : decode cX7_requireOpen 19 = .ok (.return_, 1) := by decide +kernel
theorem dX7_requireRoomForMachine_0 : decode cX7_requireRoomForMachine 0 = .ok (.aload_n 0, 1) := by decide +kernel
theorem dX7_requireRoomForMachine_1 : decode cX7_requireRoomForMachine 1 = .ok (.getfield 148, 3) := by decide +kernel
theorem dX7_requireRoomForMachine_4 : decode cX7_requireRoomForMachine 4 = .ok (.ifCond .lt 12, 3) := by decide +kernel
theorem dX7_requireRoomForMachine_7 : decode cX7_requireRoomForMachine 7 = .ok (.aload_n 0, 1) := by decide +kernel
theorem dX7_requireRoomForMachine_8 : decode cX7_requireRoomForMachine 8 = .ok (.getfield 148, 3) := by decide +kernel
theorem dX7_requireRoomForMachine_11 : decode cX7_requireRoomForMachine 11 = .ok (.bipush 12, 2) := by decide +kernel
theorem dX7_requireRoomForMachine_13 : decode cX7_requireRoomForMachine 13 = .ok (.if_icmp .lt 14, 3) := by decide +kernel
theorem dX7_requireRoomForMachine_16 : decode cX7_requireRoomForMachine 16 = .ok (.new 83, 3) := by decide +kernel
theorem dX7_requireRoomForMachine_19 : decode cX7_requireRoomForMachine 19 = .ok (.dup, 1) := by decide +kernel
theorem dX7_requireRoomForMachine_20 : decode cX7_requireRoomForMachine 20 = .ok (.ldc_w 299, 3) := by decide +kernel
theorem dX7_requireRoomForMachine_23 : decode cX7_requireRoomForMachine 23 = .ok (.invokespecial 87, 3) := by decide +kernel
theorem dX7_requireRoomForMachine_26 : decode cX7_requireRoomForMachine 26 = .ok (.athrow, 1) := by decide +kernel
theorem dX7_requireRoomForMachine_27 : decode cX7_requireRoomForMachine 27 = .ok (.return_, 1) := by decide +kernel
theorem dX7_find_0 : decode cX7_find 0 = .ok (.iload_n 1, 1) := by decide +kernel
theorem dX7_find_1 : decode cX7_find 1 = .ok (.ifCond .lt 17, 3) := by decide +kernel
theorem dX7_find_4 : decode cX7_find 4 = .ok (.iload_n 1, 1) := by decide +kernel
theorem dX7_find_5 : decode cX7_find 5 = .ok (.aload_n 0, 1) := by decide +kernel
theorem dX7_find_6 : decode cX7_find 6 = .ok (.getfield 148, 3) := by decide +kernel
theorem dX7_find_9 : decode cX7_find 9 = .ok (.if_icmp .ge 9, 3) := by decide +kernel
theorem dX7_find_12 : decode cX7_find 12 = .ok (.iload_n 1, 1) := by decide +kernel
theorem dX7_find_13 : decode cX7_find 13 = .ok (.bipush 12, 2) := by decide +kernel
theorem dX7_find_15 : decode cX7_find 15 = .ok (.if_icmp .lt 14, 3) := by decide +kernel
theorem dX7_find_18 : decode cX7_find 18 = .ok (.new 301, 3) := by decide +kernel
theorem dX7_find_21 : decode cX7_find 21 = .ok (.dup, 1) := by decide +kernel
theorem dX7_find_22 : decode cX7_find 22 = .ok (.ldc_w 303, 3) := by decide +kernel
theorem dX7_find_25 : decode cX7_find 25 = .ok (.invokespecial 305, 3) := by decide +kernel
theorem dX7_find_28 : decode cX7_find 28 = .ok (.athrow, 1) := by decide +kernel
theorem dX7_find_29 : decode cX7_find 29 = .ok (.aload_n 0, 1) := by decide +kernel
theorem dX7_find_30 : decode cX7_find 30 = .ok (.getfield 11, 3) := by decide +kernel
theorem dX7_find_33 : decode cX7_find 33 = .ok (.iload_n 1, 1) := by decide +kernel
theorem dX7_find_34 : decode cX7_find 34 = .ok (.aaload, 1) := by decide +kernel
theorem dX7_find_35 : decode cX7_find 35 = .ok (.astore_n 2, 1) := by decide +kernel
theorem dX7_find_36 : decode cX7_find 36 = .ok (.aload_n 2, 1) := by decide +kernel
theorem dX7_find_37 : decode cX7_find 37 = .ok (.ifnonnull 14, 3) := by decide +kernel
theorem dX7_find_40 : decode cX7_find 40 = .ok (.new 301, 3) := by decide +kernel
theorem dX7_find_43 : decode cX7_find 43 = .ok (.dup, 1) := by decide +kernel
