theorem dX10_tell_25 : decode cX10_tell 25 = .ok (.iconst 0, 1) := by decide +kernel
theorem dX10_tell_26 : decode cX10_tell 26 = .ok (.ireturn, 1) := by decide +kernel
theorem dX10_amend_0 : decode cX10_amend 0 = .ok (.aload_n 0, 1) := by decide +kernel
theorem dX10_amend_1 : decode cX10_amend 1 = .ok (.aload_n 0, 1) := by decide +kernel
theorem dX10_amend_2 : decode cX10_amend 2 = .ok (.iload_n 1, 1) := by decide +kernel
theorem dX10_amend_3 : decode cX10_amend 3 = .ok (.iload_n 2, 1) := by decide +kernel
theorem dX10_amend_4 : decode cX10_amend 4 = .ok (.iload_n 3, 1) := by decide +kernel
theorem dX10_amend_5 : decode cX10_amend 5 = .ok (.iload 4, 2) := by decide +kernel
theorem dX10_amend_7 : decode cX10_amend 7 = .ok (.iload 5, 2) := by decide +kernel
theorem dX10_amend_9 : decode cX10_amend 9 = .ok (.iload 6, 2) := by decide +kernel
theorem dX10_amend_11 : decode cX10_amend 11 = .ok (.iconst 0, 1) := by decide +kernel
theorem dX10_amend_12 : decode cX10_amend 12 = .ok (.invokevirtual 70, 3) := by decide +kernel
theorem dX10_amend_15 : decode cX10_amend 15 = .ok (.putfield 19, 3) := by decide +kernel
theorem dX10_amend_18 : decode cX10_amend 18 = .ok (.aload_n 0, 1) := by decide +kernel
theorem dX10_amend_19 : decode cX10_amend 19 = .ok (.getfield 19, 3) := by decide +kernel
theorem dX10_amend_22 : decode cX10_amend 22 = .ok (.ifCond .ne 33, 3) := by decide +kernel
theorem dX10_amend_55 : decode cX10_amend 55 = .ok (.iconst 0, 1) := by decide +kernel
theorem dX10_amend_56 : decode cX10_amend 56 = .ok (.ireturn, 1) := by decide +kernel
theorem dX10_child_0 : decode cX10_child 0 = .ok (.aload_n 0, 1) := by decide +kernel
theorem dX10_child_1 : decode cX10_child 1 = .ok (.iconst 0, 1) := by decide +kernel
theorem dX10_child_2 : decode cX10_child 2 = .ok (.putfield 19, 3) := by decide +kernel
theorem dX10_child_5 : decode cX10_child 5 = .ok (.aload_n 0, 1) := by decide +kernel
theorem dX10_child_6 : decode cX10_child 6 = .ok (.iload_n 1, 1) := by decide +kernel
theorem dX10_child_7 : decode cX10_child 7 = .ok (.invokevirtual 44, 3) := by decide +kernel
theorem dX10_child_10 : decode cX10_child 10 = .ok (.ifCond .ne 9, 3) := by decide +kernel
theorem dX10_child_13 : decode cX10_child 13 = .ok (.aload_n 0, 1) := by decide +kernel
theorem dX10_child_14 : decode cX10_child 14 = .ok (.iconst 1, 1) := by decide +kernel
theorem dX10_child_15 : decode cX10_child 15 = .ok (.invokevirtual 31, 3) := by decide +kernel
theorem dX10_child_18 : decode cX10_child 18 = .ok (.ireturn, 1) := by decide +kernel
theorem dX10_tag_0 : decode cX10_tag 0 = .ok (.aload_n 0, 1) := by decide +kernel
theorem dX10_tag_1 : decode cX10_tag 1 = .ok (.iconst 0, 1) := by decide +kernel
theorem dX10_tag_2 : decode cX10_tag 2 = .ok (.putfield 19, 3) := by decide +kernel
theorem dX10_tag_5 : decode cX10_tag 5 = .ok (.iload_n 1, 1) := by decide +kernel
theorem dX10_tag_6 : decode cX10_tag 6 = .ok (.iconst 1, 1) := by decide +kernel
theorem dX10_tag_7 : decode cX10_tag 7 = .ok (.iconst 3, 1) := by decide +kernel
theorem dX10_tag_8 : decode cX10_tag 8 = .ok (.invokestatic 27, 3) := by decide +kernel
theorem dX10_tag_11 : decode cX10_tag 11 = .ok (.ifCond .eq 23, 3) := by decide +kernel
theorem dX10_tag_14 : decode cX10_tag 14 = .ok (.iload_n 2, 1) := by decide +kernel
theorem dX10_tag_15 : decode cX10_tag 15 = .ok (.iconst 1, 1) := by decide +kernel
theorem dX10_tag_16 : decode cX10_tag 16 = .ok (.bipush 63, 2) := by decide +kernel
theorem dX10_tag_18 : decode cX10_tag 18 = .ok (.invokestatic 27, 3) := by decide +kernel
theorem dX10_tag_21 : decode cX10_tag 21 = .ok (.ifCond .eq 13, 3) := by decide +kernel
theorem dX10_tag_24 : decode cX10_tag 24 = .ok (.iload_n 3, 1) := by decide +kernel
theorem dX10_tag_25 : decode cX10_tag 25 = .ok (.iconst 1, 1) := by decide +kernel
theorem dX10_tag_26 : decode cX10_tag 26 = .ok (.bipush 63, 2) := by decide +kernel
theorem dX10_tag_28 : decode cX10_tag 28 = .ok (.invokestatic 27, 3) := by decide +kernel
theorem dX10_tag_31 : decode cX10_tag 31 = .ok (.ifCond .ne 9, 3) := by decide +kernel
theorem dX10_tag_34 : decode cX10_tag 34 = .ok (.aload_n 0, 1) := by decide +kernel
theorem dX10_tag_35 : decode cX10_tag 35 = .ok (.iconst 1, 1) := by decide +kernel
theorem dX10_tag_36 : decode cX10_tag 36 = .ok (.invokevirtual 31, 3) := by decide +kernel
theorem dX10_tag_39 : decode cX10_tag 39 = .ok (.ireturn, 1) := by decide +kernel
theorem dX10_tag_40 : decode cX10_tag 40 = .ok (.aload_n 0, 1) := by decide +kernel
theorem dX10_tag_41 : decode cX10_tag 41 = .ok (.getfield 16, 3) := by decide +kernel
theorem dX10_tag_44 : decode cX10_tag 44 = .ok (.invokevirtual 23, 3) := by decide +kernel
theorem dX10_tag_47 : decode cX10_tag 47 = .ok (.iconst 4, 1) := by decide +kernel
theorem dX10_tag_48 : decode cX10_tag 48 = .ok (.if_icmp .ne 9, 3) := by decide +kernel
theorem dX10_tag_57 : decode cX10_tag 57 = .ok (.iconst 3, 1) := by decide +kernel
theorem dX10_tag_58 : decode cX10_tag 58 = .ok (.newarray .int, 2) := by decide +kernel
theorem dX10_tag_60 : decode cX10_tag 60 = .ok (.dup, 1) := by decide +kernel
theorem dX10_tag_61 : decode cX10_tag 61 = .ok (.iconst 0, 1) := by decide +kernel
theorem dX10_tag_62 : decode cX10_tag 62 = .ok (.iload_n 1, 1) := by decide +kernel
theorem dX10_tag_63 : decode cX10_tag 63 = .ok (.iastore, 1) := by decide +kernel
theorem dX10_tag_64 : decode cX10_tag 64 = .ok (.dup, 1) := by decide +kernel
theorem dX10_tag_65 : decode cX10_tag 65 = .ok (.iconst 1, 1) := by decide +kernel
theorem dX10_tag_66 : decode cX10_tag 66 = .ok (.iload_n 2, 1) := by decide +kernel
theorem dX10_tag_67 : decode cX10_tag 67 = .ok (.iastore, 1) := by decide +kernel
theorem dX10_tag_68 : decode cX10_tag 68 = .ok (.dup, 1) := by decide +kernel
theorem dX10_tag_69 : decode cX10_tag 69 = .ok (.iconst 2, 1) := by decide +kernel
theorem dX10_tag_70 : decode cX10_tag 70 = .ok (.iload_n 3, 1) := by decide +kernel
theorem dX10_tag_71 : decode cX10_tag 71 = .ok (.iastore, 1) := by decide +kernel
theorem dX10_tag_72 : decode cX10_tag 72 = .ok (.astore 4, 2) := by decide +kernel
theorem dX10_tag_74 : decode cX10_tag 74 = .ok (.aload_n 0, 1) := by decide +kernel
theorem dX10_tag_75 : decode cX10_tag 75 = .ok (.getfield 16, 3) := by decide +kernel
theorem dX10_tag_78 : decode cX10_tag 78 = .ok (.aload 4, 2) := by decide +kernel
theorem dX10_tag_80 : decode cX10_tag 80 = .ok (.invokevirtual 40, 3) := by decide +kernel
theorem dX10_tag_83 : decode cX10_tag 83 = .ok (.pop, 1) := by decide +kernel
theorem dX10_tag_84 : decode cX10_tag 84 = .ok (.aload_n 0, 1) := by decide +kernel
theorem dX10_tag_85 : decode cX10_tag 85 = .ok (.getfield 16, 3) := by decide +kernel
theorem dX10_tag_88 : decode cX10_tag 88 = .ok (.invokevirtual 23, 3) := by decide +kernel
theorem dX10_tag_91 : decode cX10_tag 91 = .ok (.iconst 1, 1) := by decide +kernel
theorem dX10_tag_92 : decode cX10_tag 92 = .ok (.isub, 1) := by decide +kernel
theorem dX10_tag_93 : decode cX10_tag 93 = .ok (.ireturn, 1) := by decide +kernel
theorem dX10_prove_0 : decode cX10_prove 0 = .ok (.aload_n 0, 1) := by decide +kernel
theorem dX10_prove_1 : decode cX10_prove 1 = .ok (.aload_n 0, 1) := by decide +kernel
theorem dX10_prove_2 : decode cX10_prove 2 = .ok (.iload_n 1, 1) := by decide +kernel
theorem dX10_prove_3 : decode cX10_prove 3 = .ok (.invokevirtual 44, 3) := by decide +kernel
theorem dX10_prove_6 : decode cX10_prove 6 = .ok (.ifCond .ne 7, 3) := by decide +kernel
theorem dX10_prove_9 : decode cX10_prove 9 = .ok (.iconst 1, 1) := by decide +kernel
theorem dX10_prove_10 : decode cX10_prove 10 = .ok (.goto 40, 3) := by decide +kernel
theorem dX10_prove_50 : decode cX10_prove 50 = .ok (.putfield 19, 3) := by decide +kernel
theorem dX10_prove_53 : decode cX10_prove 53 = .ok (.aload_n 0, 1) := by decide +kernel
theorem dX10_prove_54 : decode cX10_prove 54 = .ok (.getfield 19, 3) := by decide +kernel
theorem dX10_prove_57 : decode cX10_prove 57 = .ok (.ifCond .le 5, 3) := by decide +kernel
theorem dX10_prove_60 : decode cX10_prove 60 = .ok (.iconst 0, 1) := by decide +kernel
theorem dX10_prove_61 : decode cX10_prove 61 = .ok (.ireturn, 1) := by decide +kernel
theorem dX10_doubt_0 : decode cX10_doubt 0 = .ok (.aload_n 0, 1) := by decide +kernel
theorem dX10_doubt_1 : decode cX10_doubt 1 = .ok (.iconst 0, 1) := by decide +kernel
theorem dX10_doubt_2 : decode cX10_doubt 2 = .ok (.putfield 19, 3) := by decide +kernel
theorem dX10_doubt_5 : decode cX10_doubt 5 = .ok (.iload_n 1, 1) := by decide +kernel
theorem dX10_doubt_6 : decode cX10_doubt 6 = .ok (.iconst 0, 1) := by decide +kernel
theorem dX10_doubt_7 : decode cX10_doubt 7 = .ok (.iconst 3, 1) := by decide +kernel
theorem dX10_doubt_8 : decode cX10_doubt 8 = .ok (.invokestatic 27, 3) := by decide +kernel
theorem dX10_doubt_11 : decode cX10_doubt 11 = .ok (.ifCond .ne 9, 3) := by decide +kernel
theorem dX10_doubt_14 : decode cX10_doubt 14 = .ok (.aload_n 0, 1) := by decide +kernel
theorem dX10_doubt_15 : decode cX10_doubt 15 = .ok (.iconst 1, 1) := by decide +kernel
theorem dX10_doubt_16 : decode cX10_doubt 16 = .ok (.invokevirtual 31, 3) := by decide +kernel
theorem dX10_doubt_19 : decode cX10_doubt 19 = .ok (.ireturn, 1) := by decide +kernel
theorem dX10_doubt_20 : decode cX10_doubt 20 = .ok (.iconst 0, 1) := by decide +kernel
theorem dX10_doubt_21 : decode cX10_doubt 21 = .ok (.istore_n 2, 1) := by decide +kernel
theorem dX10_doubt_22 : decode cX10_doubt 22 = .ok (.aload_n 0, 1) := by decide +kernel
theorem dX10_doubt_23 : decode cX10_doubt 23 = .ok (.getfield 10, 3) := by decide +kernel
theorem dX10_doubt_26 : decode cX10_doubt 26 = .ok (.invokevirtual 158, 3) := by decide +kernel
theorem dX10_doubt_29 : decode cX10_doubt 29 = .ok (.astore_n 3, 1) := by decide +kernel
theorem dX10_doubt_30 : decode cX10_doubt 30 = .ok (.aload_n 3, 1) := by decide +kernel
theorem dX10_doubt_31 : decode cX10_doubt 31 = .ok (.invokeinterface 162 1, 5) := by decide +kernel
theorem dX10_doubt_36 : decode cX10_doubt 36 = .ok (.ifCond .eq 42, 3) := by decide +kernel
theorem dX10_doubt_78 : decode cX10_doubt 78 = .ok (.aload_n 0, 1) := by decide +kernel
theorem dX10_doubt_79 : decode cX10_doubt 79 = .ok (.dup, 1) := by decide +kernel
theorem dX10_doubt_80 : decode cX10_doubt 80 = .ok (.getfield 67, 3) := by decide +kernel
theorem dX10_doubt_83 : decode cX10_doubt 83 = .ok (.iload_n 2, 1) := by decide +kernel
theorem dX10_doubt_84 : decode cX10_doubt 84 = .ok (.iadd, 1) := by decide +kernel
theorem dX10_doubt_85 : decode cX10_doubt 85 = .ok (.putfield 67, 3) := by decide +kernel
theorem dX10_doubt_88 : decode cX10_doubt 88 = .ok (.iload_n 2, 1) := by decide +kernel
theorem dX10_doubt_89 : decode cX10_doubt 89 = .ok (.ireturn, 1) := by decide +kernel
theorem dX10_decide__0 : decode cX10_decide_ 0 = .ok (.aload_n 0, 1) := by decide +kernel
theorem dX10_decide__1 : decode cX10_decide_ 1 = .ok (.iconst 0, 1) := by decide +kernel
theorem dX10_decide__2 : decode cX10_decide_ 2 = .ok (.putfield 19, 3) := by decide +kernel
theorem dX10_decide__5 : decode cX10_decide_ 5 = .ok (.aload_n 0, 1) := by decide +kernel
theorem dX10_decide__6 : decode cX10_decide_ 6 = .ok (.iload_n 1, 1) := by decide +kernel
theorem dX10_decide__7 : decode cX10_decide_ 7 = .ok (.invokevirtual 44, 3) := by decide +kernel
theorem dX10_decide__10 : decode cX10_decide_ 10 = .ok (.ifCond .ne 9, 3) := by decide +kernel
theorem dX10_decide__13 : decode cX10_decide_ 13 = .ok (.aload_n 0, 1) := by decide +kernel
theorem dX10_decide__14 : decode cX10_decide_ 14 = .ok (.iconst 1, 1) := by decide +kernel
theorem dX10_decide__15 : decode cX10_decide_ 15 = .ok (.invokevirtual 31, 3) := by decide +kernel
theorem dX10_decide__18 : decode cX10_decide_ 18 = .ok (.ireturn, 1) := by decide +kernel
theorem dX10_cell_0 : decode cX10_cell 0 = .ok (.aload_n 0, 1) := by decide +kernel
theorem dX10_cell_1 : decode cX10_cell 1 = .ok (.iconst 0, 1) := by decide +kernel
theorem dX10_cell_2 : decode cX10_cell 2 = .ok (.putfield 19, 3) := by decide +kernel
theorem dX10_cell_5 : decode cX10_cell 5 = .ok (.aload_n 0, 1) := by decide +kernel
theorem dX10_cell_6 : decode cX10_cell 6 = .ok (.iload_n 1, 1) := by decide +kernel
theorem dX10_cell_7 : decode cX10_cell 7 = .ok (.invokevirtual 44, 3) := by decide +kernel
theorem dX10_cell_10 : decode cX10_cell 10 = .ok (.ifCond .eq 36, 3) := by decide +kernel
theorem dX10_cell_46 : decode cX10_cell 46 = .ok (.aload_n 0, 1) := by decide +kernel
theorem dX10_cell_47 : decode cX10_cell 47 = .ok (.iconst 1, 1) := by decide +kernel
theorem dX10_cell_48 : decode cX10_cell 48 = .ok (.invokevirtual 31, 3) := by decide +kernel
theorem dX10_cell_51 : decode cX10_cell 51 = .ok (.ireturn, 1) := by decide +kernel
theorem dX10_ofMachine_0 : decode cX10_ofMachine 0 = .ok (.aload_n 0, 1) := by decide +kernel
theorem dX10_ofMachine_1 : decode cX10_ofMachine 1 = .ok (.iconst 0, 1) := by decide +kernel
theorem dX10_ofMachine_2 : decode cX10_ofMachine 2 = .ok (.putfield 19, 3) := by decide +kernel
theorem dX10_ofMachine_5 : decode cX10_ofMachine 5 = .ok (.aload_n 0, 1) := by decide +kernel
theorem dX10_ofMachine_6 : decode cX10_ofMachine 6 = .ok (.iload_n 1, 1) := by decide +kernel
theorem dX10_ofMachine_7 : decode cX10_ofMachine 7 = .ok (.invokevirtual 44, 3) := by decide +kernel
theorem dX10_ofMachine_10 : decode cX10_ofMachine 10 = .ok (.ifCond .ne 9, 3) := by decide +kernel
theorem dX10_ofMachine_13 : decode cX10_ofMachine 13 = .ok (.aload_n 0, 1) := by decide +kernel
theorem dX10_ofMachine_14 : decode cX10_ofMachine 14 = .ok (.iconst 1, 1) := by decide +kernel
theorem dX10_ofMachine_15 : decode cX10_ofMachine 15 = .ok (.invokevirtual 31, 3) := by decide +kernel
theorem dX10_ofMachine_18 : decode cX10_ofMachine 18 = .ok (.ireturn, 1) := by decide +kernel
theorem dX10_at_0 : decode cX10_at 0 = .ok (.aload_n 0, 1) := by decide +kernel
theorem dX10_at_1 : decode cX10_at 1 = .ok (.iconst 0, 1) := by decide +kernel
theorem dX10_at_2 : decode cX10_at 2 = .ok (.putfield 19, 3) := by decide +kernel
theorem dX10_at_5 : decode cX10_at 5 = .ok (.aload_n 0, 1) := by decide +kernel
theorem dX10_at_6 : decode cX10_at 6 = .ok (.iload_n 1, 1) := by decide +kernel
theorem dX10_at_7 : decode cX10_at 7 = .ok (.invokevirtual 44, 3) := by decide +kernel
theorem dX10_at_10 : decode cX10_at 10 = .ok (.ifCond .ne 9, 3) := by decide +kernel
theorem dX10_at_13 : decode cX10_at 13 = .ok (.aload_n 0, 1) := by decide +kernel
theorem dX10_at_14 : decode cX10_at 14 = .ok (.iconst 1, 1) := by decide +kernel
theorem dX10_at_15 : decode cX10_at 15 = .ok (.invokevirtual 31, 3) := by decide +kernel
theorem dX10_at_18 : decode cX10_at 18 = .ok (.ireturn, 1) := by decide +kernel
theorem dX10_symbol_0 : decode cX10_symbol 0 = .ok (.aload_n 0, 1) := by decide +kernel
theorem dX10_symbol_1 : decode cX10_symbol 1 = .ok (.iconst 0, 1) := by decide +kernel
theorem dX10_symbol_2 : decode cX10_symbol 2 = .ok (.putfield 19, 3) := by decide +kernel
theorem dX10_symbol_5 : decode cX10_symbol 5 = .ok (.aload_n 0, 1) := by decide +kernel
theorem dX10_symbol_6 : decode cX10_symbol 6 = .ok (.iload_n 1, 1) := by decide +kernel
theorem dX10_symbol_7 : decode cX10_symbol 7 = .ok (.invokevirtual 44, 3) := by decide +kernel
theorem dX10_symbol_10 : decode cX10_symbol 10 = .ok (.ifCond .ne 9, 3) := by decide +kernel
theorem dX10_symbol_13 : decode cX10_symbol 13 = .ok (.aload_n 0, 1) := by decide +kernel
theorem dX10_symbol_14 : decode cX10_symbol 14 = .ok (.iconst 1, 1) := by decide +kernel
theorem dX10_symbol_15 : decode cX10_symbol 15 = .ok (.invokevirtual 31, 3) := by decide +kernel
theorem dX10_symbol_18 : decode cX10_symbol 18 = .ok (.ireturn, 1) := by decide +kernel
theorem dX10_lean_0 : decode cX10_lean 0 = .ok (.aload_n 0, 1) := by decide +kernel
theorem dX10_lean_1 : decode cX10_lean 1 = .ok (.aload_n 0, 1) := by decide +kernel
theorem dX10_lean_2 : decode cX10_lean 2 = .ok (.iload_n 1, 1) := by decide +kernel
theorem dX10_lean_3 : decode cX10_lean 3 = .ok (.invokevirtual 44, 3) := by decide +kernel
theorem dX10_lean_6 : decode cX10_lean 6 = .ok (.ifCond .ne 7, 3) := by decide +kernel
theorem dX10_lean_9 : decode cX10_lean 9 = .ok (.iconst 1, 1) := by decide +kernel
theorem dX10_lean_10 : decode cX10_lean 10 = .ok (.goto 19, 3) := by decide +kernel
theorem dX10_lean_29 : decode cX10_lean 29 = .ok (.putfield 19, 3) := by decide +kernel
theorem dX10_lean_32 : decode cX10_lean 32 = .ok (.aload_n 0, 1) := by decide +kernel
theorem dX10_lean_33 : decode cX10_lean 33 = .ok (.getfield 19, 3) := by decide +kernel
theorem dX10_lean_36 : decode cX10_lean 36 = .ok (.ifCond .le 5, 3) := by decide +kernel
theorem dX10_lean_39 : decode cX10_lean 39 = .ok (.dconst 0, 1) := by decide +kernel
theorem dX10_lean_40 : decode cX10_lean 40 = .ok (.dreturn, 1) := by decide +kernel
theorem dX10_meets_0 : decode cX10_meets 0 = .ok (.aload_n 0, 1) := by decide +kernel
theorem dX10_meets_1 : decode cX10_meets 1 = .ok (.iconst 0, 1) := by decide +kernel
theorem dX10_meets_2 : decode cX10_meets 2 = .ok (.putfield 19, 3) := by decide +kernel
theorem dX10_meets_5 : decode cX10_meets 5 = .ok (.aload_n 0, 1) := by decide +kernel
theorem dX10_meets_6 : decode cX10_meets 6 = .ok (.iload_n 1, 1) := by decide +kernel
theorem dX10_meets_7 : decode cX10_meets 7 = .ok (.invokevirtual 44, 3) := by decide +kernel
theorem dX10_meets_10 : decode cX10_meets 10 = .ok (.ifCond .eq 36, 3) := by decide +kernel
theorem dX10_meets_46 : decode cX10_meets 46 = .ok (.aload_n 0, 1) := by decide +kernel
theorem dX10_meets_47 : decode cX10_meets 47 = .ok (.iconst 1, 1) := by decide +kernel
theorem dX10_meets_48 : decode cX10_meets 48 = .ok (.invokevirtual 31, 3) := by decide +kernel
theorem dX10_meets_51 : decode cX10_meets 51 = .ok (.ireturn, 1) := by decide +kernel
theorem dX10_likeness_0 : decode cX10_likeness 0 = .ok (.aload_n 0, 1) := by decide +kernel
theorem dX10_likeness_1 : decode cX10_likeness 1 = .ok (.iconst 0, 1) := by decide +kernel
theorem dX10_likeness_2 : decode cX10_likeness 2 = .ok (.putfield 19, 3) := by decide +kernel
theorem dX10_likeness_5 : decode cX10_likeness 5 = .ok (.aload_n 0, 1) := by decide +kernel
theorem dX10_likeness_6 : decode cX10_likeness 6 = .ok (.iload_n 1, 1) := by decide +kernel
theorem dX10_likeness_7 : decode cX10_likeness 7 = .ok (.invokevirtual 44, 3) := by decide +kernel
theorem dX10_likeness_10 : decode cX10_likeness 10 = .ok (.ifCond .eq 11, 3) := by decide +kernel
theorem dX10_likeness_21 : decode cX10_likeness 21 = .ok (.aload_n 0, 1) := by decide +kernel
theorem dX10_likeness_22 : decode cX10_likeness 22 = .ok (.iconst 1, 1) := by decide +kernel
theorem dX10_likeness_23 : decode cX10_likeness 23 = .ok (.invokevirtual 31, 3) := by decide +kernel
theorem dX10_likeness_26 : decode cX10_likeness 26 = .ok (.ireturn, 1) := by decide +kernel
theorem dX10_championNow_0 : decode cX10_championNow 0 = .ok (.iconst (-1), 1) := by decide +kernel
theorem dX10_championNow_1 : decode cX10_championNow 1 = .ok (.istore_n 2, 1) := by decide +kernel
theorem dX10_championNow_2 : decode cX10_championNow 2 = .ok (.iconst (-1), 1) := by decide +kernel
theorem dX10_championNow_3 : decode cX10_championNow 3 = .ok (.istore_n 3, 1) := by decide +kernel
theorem dX10_championNow_4 : decode cX10_championNow 4 = .ok (.iconst 0, 1) := by decide +kernel
theorem dX10_championNow_5 : decode cX10_championNow 5 = .ok (.istore 4, 2) := by decide +kernel
theorem dX10_championNow_7 : decode cX10_championNow 7 = .ok (.iload 4, 2) := by decide +kernel
theorem dX10_championNow_9 : decode cX10_championNow 9 = .ok (.aload_n 0, 1) := by decide +kernel
theorem dX10_championNow_10 : decode cX10_championNow 10 = .ok (.getfield 10, 3) := by decide +kernel
theorem dX10_championNow_13 : decode cX10_championNow 13 = .ok (.invokevirtual 23, 3) := by decide +kernel
theorem dX10_championNow_16 : decode cX10_championNow 16 = .ok (.if_icmp .ge 62, 3) := by decide +kernel
theorem dX10_championNow_78 : decode cX10_championNow 78 = .ok (.iload_n 2, 1) := by decide +kernel
theorem dX10_championNow_79 : decode cX10_championNow 79 = .ok (.ireturn, 1) := by decide +kernel
theorem dX10_champion_0 : decode cX10_champion 0 = .ok (.aload_n 0, 1) := by decide +kernel
theorem dX10_champion_1 : decode cX10_champion 1 = .ok (.iconst 0, 1) := by decide +kernel
theorem dX10_champion_2 : decode cX10_champion 2 = .ok (.putfield 19, 3) := by decide +kernel
theorem dX10_champion_5 : decode cX10_champion 5 = .ok (.iload_n 1, 1) := by decide +kernel
theorem dX10_champion_6 : decode cX10_champion 6 = .ok (.iconst 0, 1) := by decide +kernel
theorem dX10_champion_7 : decode cX10_champion 7 = .ok (.iconst 1, 1) := by decide +kernel
theorem dX10_champion_8 : decode cX10_champion 8 = .ok (.invokestatic 27, 3) := by decide +kernel
theorem dX10_champion_11 : decode cX10_champion 11 = .ok (.ifCond .eq 11, 3) := by decide +kernel
theorem dX10_champion_14 : decode cX10_champion 14 = .ok (.aload_n 0, 1) := by decide +kernel
theorem dX10_champion_15 : decode cX10_champion 15 = .ok (.iload_n 1, 1) := by decide +kernel
theorem dX10_champion_16 : decode cX10_champion 16 = .ok (.invokevirtual 243, 3) := by decide +kernel
theorem dX10_champion_19 : decode cX10_champion 19 = .ok (.goto 8, 3) := by decide +kernel
theorem dX10_champion_22 : decode cX10_champion 22 = .ok (.aload_n 0, 1) := by decide +kernel
theorem dX10_champion_23 : decode cX10_champion 23 = .ok (.iconst 1, 1) := by decide +kernel
theorem dX10_champion_24 : decode cX10_champion 24 = .ok (.invokevirtual 31, 3) := by decide +kernel
theorem dX10_champion_27 : decode cX10_champion 27 = .ok (.ireturn, 1) := by decide +kernel
theorem dX10_tagged_0 : decode cX10_tagged 0 = .ok (.aload_n 0, 1) := by decide +kernel
theorem dX10_tagged_1 : decode cX10_tagged 1 = .ok (.iconst 0, 1) := by decide +kernel
theorem dX10_tagged_2 : decode cX10_tagged 2 = .ok (.putfield 19, 3) := by decide +kernel
theorem dX10_tagged_5 : decode cX10_tagged 5 = .ok (.iload_n 1, 1) := by decide +kernel
theorem dX10_tagged_6 : decode cX10_tagged 6 = .ok (.iconst 0, 1) := by decide +kernel
theorem dX10_tagged_7 : decode cX10_tagged 7 = .ok (.aload_n 0, 1) := by decide +kernel
theorem dX10_tagged_8 : decode cX10_tagged 8 = .ok (.getfield 16, 3) := by decide +kernel
theorem dX10_tagged_11 : decode cX10_tagged 11 = .ok (.invokevirtual 23, 3) := by decide +kernel
theorem dX10_tagged_14 : decode cX10_tagged 14 = .ok (.iconst 1, 1) := by decide +kernel
theorem dX10_tagged_15 : decode cX10_tagged 15 = .ok (.isub, 1) := by decide +kernel
theorem dX10_tagged_16 : decode cX10_tagged 16 = .ok (.invokestatic 27, 3) := by decide +kernel
theorem dX10_tagged_19 : decode cX10_tagged 19 = .ok (.ifCond .ne 9, 3) := by decide +kernel
theorem dX10_tagged_22 : decode cX10_tagged 22 = .ok (.aload_n 0, 1) := by decide +kernel
theorem dX10_tagged_23 : decode cX10_tagged 23 = .ok (.iconst 1, 1) := by decide +kernel
theorem dX10_tagged_24 : decode cX10_tagged 24 = .ok (.invokevirtual 31, 3) := by decide +kernel
theorem dX10_tagged_27 : decode cX10_tagged 27 = .ok (.ireturn, 1) := by decide +kernel
theorem dX10_manyNow_0 : decode cX10_manyNow 0 = .ok (.iconst 5, 1) := by decide +kernel
theorem dX10_manyNow_1 : decode cX10_manyNow 1 = .ok (.newarray .int, 2) := by decide +kernel
theorem dX10_manyNow_3 : decode cX10_manyNow 3 = .ok (.astore_n 2, 1) := by decide +kernel
theorem dX10_manyNow_4 : decode cX10_manyNow 4 = .ok (.iconst 0, 1) := by decide +kernel
theorem dX10_manyNow_5 : decode cX10_manyNow 5 = .ok (.istore_n 3, 1) := by decide +kernel
theorem dX10_manyNow_6 : decode cX10_manyNow 6 = .ok (.aload_n 0, 1) := by decide +kernel
theorem dX10_manyNow_7 : decode cX10_manyNow 7 = .ok (.getfield 10, 3) := by decide +kernel
theorem dX10_manyNow_10 : decode cX10_manyNow 10 = .ok (.invokevirtual 158, 3) := by decide +kernel
theorem dX10_manyNow_13 : decode cX10_manyNow 13 = .ok (.astore 4, 2) := by decide +kernel
theorem dX10_manyNow_15 : decode cX10_manyNow 15 = .ok (.aload 4, 2) := by decide +kernel
theorem dX10_manyNow_17 : decode cX10_manyNow 17 = .ok (.invokeinterface 162 1, 5) := by decide +kernel
theorem dX10_manyNow_22 : decode cX10_manyNow 22 = .ok (.ifCond .eq 39, 3) := by decide +kernel
theorem dX10_manyNow_61 : decode cX10_manyNow 61 = .ok (.bipush 11, 2) := by decide +kernel
theorem dX10_manyNow_63 : decode cX10_manyNow 63 = .ok (.newarray .int, 2) := by decide +kernel
theorem dX10_manyNow_65 : decode cX10_manyNow 65 = .ok (.dup, 1) := by decide +kernel
theorem dX10_manyNow_66 : decode cX10_manyNow 66 = .ok (.iconst 0, 1) := by decide +kernel
theorem dX10_manyNow_67 : decode cX10_manyNow 67 = .ok (.aload_n 0, 1) := by decide +kernel
theorem dX10_manyNow_68 : decode cX10_manyNow 68 = .ok (.getfield 10, 3) := by decide +kernel
theorem dX10_manyNow_71 : decode cX10_manyNow 71 = .ok (.invokevirtual 23, 3) := by decide +kernel
theorem dX10_manyNow_74 : decode cX10_manyNow 74 = .ok (.iastore, 1) := by decide +kernel
theorem dX10_manyNow_75 : decode cX10_manyNow 75 = .ok (.dup, 1) := by decide +kernel
theorem dX10_manyNow_76 : decode cX10_manyNow 76 = .ok (.iconst 1, 1) := by decide +kernel
theorem dX10_manyNow_77 : decode cX10_manyNow 77 = .ok (.aload_n 2, 1) := by decide +kernel
theorem dX10_manyNow_78 : decode cX10_manyNow 78 = .ok (.iconst 0, 1) := by decide +kernel
theorem dX10_manyNow_79 : decode cX10_manyNow 79 = .ok (.iaload, 1) := by decide +kernel
theorem dX10_manyNow_80 : decode cX10_manyNow 80 = .ok (.iastore, 1) := by decide +kernel
theorem dX10_manyNow_81 : decode cX10_manyNow 81 = .ok (.dup, 1) := by decide +kernel
theorem dX10_manyNow_82 : decode cX10_manyNow 82 = .ok (.iconst 2, 1) := by decide +kernel
theorem dX10_manyNow_83 : decode cX10_manyNow 83 = .ok (.aload_n 2, 1) := by decide +kernel
theorem dX10_manyNow_84 : decode cX10_manyNow 84 = .ok (.iconst 1, 1) := by decide +kernel
theorem dX10_manyNow_85 : decode cX10_manyNow 85 = .ok (.iaload, 1) := by decide +kernel
theorem dX10_manyNow_86 : decode cX10_manyNow 86 = .ok (.iastore, 1) := by decide +kernel
theorem dX10_manyNow_87 : decode cX10_manyNow 87 = .ok (.dup, 1) := by decide +kernel
theorem dX10_manyNow_88 : decode cX10_manyNow 88 = .ok (.iconst 3, 1) := by decide +kernel
theorem dX10_manyNow_89 : decode cX10_manyNow 89 = .ok (.aload_n 2, 1) := by decide +kernel
theorem dX10_manyNow_90 : decode cX10_manyNow 90 = .ok (.iconst 2, 1) := by decide +kernel
theorem dX10_manyNow_91 : decode cX10_manyNow 91 = .ok (.iaload, 1) := by decide +kernel
theorem dX10_manyNow_92 : decode cX10_manyNow 92 = .ok (.iastore, 1) := by decide +kernel
theorem dX10_manyNow_93 : decode cX10_manyNow 93 = .ok (.dup, 1) := by decide +kernel
theorem dX10_manyNow_94 : decode cX10_manyNow 94 = .ok (.iconst 4, 1) := by decide +kernel
theorem dX10_manyNow_95 : decode cX10_manyNow 95 = .ok (.aload_n 2, 1) := by decide +kernel
theorem dX10_manyNow_96 : decode cX10_manyNow 96 = .ok (.iconst 3, 1) := by decide +kernel
theorem dX10_manyNow_97 : decode cX10_manyNow 97 = .ok (.iaload, 1) := by decide +kernel
theorem dX10_manyNow_98 : decode cX10_manyNow 98 = .ok (.iastore, 1) := by decide +kernel
theorem dX10_manyNow_99 : decode cX10_manyNow 99 = .ok (.dup, 1) := by decide +kernel
theorem dX10_manyNow_100 : decode cX10_manyNow 100 = .ok (.iconst 5, 1) := by decide +kernel
theorem dX10_manyNow_101 : decode cX10_manyNow 101 = .ok (.aload_n 2, 1) := by decide +kernel
theorem dX10_manyNow_102 : decode cX10_manyNow 102 = .ok (.iconst 4, 1) := by decide +kernel
theorem dX10_manyNow_103 : decode cX10_manyNow 103 = .ok (.iaload, 1) := by decide +kernel
theorem dX10_manyNow_104 : decode cX10_manyNow 104 = .ok (.iastore, 1) := by decide +kernel
theorem dX10_manyNow_105 : decode cX10_manyNow 105 = .ok (.dup, 1) := by decide +kernel
theorem dX10_manyNow_106 : decode cX10_manyNow 106 = .ok (.bipush 6, 2) := by decide +kernel
theorem dX10_manyNow_108 : decode cX10_manyNow 108 = .ok (.aload_n 0, 1) := by decide +kernel
theorem dX10_manyNow_109 : decode cX10_manyNow 109 = .ok (.getfield 16, 3) := by decide +kernel
theorem dX10_manyNow_112 : decode cX10_manyNow 112 = .ok (.invokevirtual 23, 3) := by decide +kernel
theorem dX10_manyNow_115 : decode cX10_manyNow 115 = .ok (.iastore, 1) := by decide +kernel
theorem dX10_manyNow_116 : decode cX10_manyNow 116 = .ok (.dup, 1) := by decide +kernel
theorem dX10_manyNow_117 : decode cX10_manyNow 117 = .ok (.bipush 7, 2) := by decide +kernel
theorem dX10_manyNow_119 : decode cX10_manyNow 119 = .ok (.aload_n 0, 1) := by decide +kernel
theorem dX10_manyNow_120 : decode cX10_manyNow 120 = .ok (.getfield 191, 3) := by decide +kernel
theorem dX10_manyNow_123 : decode cX10_manyNow 123 = .ok (.iastore, 1) := by decide +kernel
theorem dX10_manyNow_124 : decode cX10_manyNow 124 = .ok (.dup, 1) := by decide +kernel
theorem dX10_manyNow_125 : decode cX10_manyNow 125 = .ok (.bipush 8, 2) := by decide +kernel
theorem dX10_manyNow_127 : decode cX10_manyNow 127 = .ok (.aload_n 0, 1) := by decide +kernel
theorem dX10_manyNow_128 : decode cX10_manyNow 128 = .ok (.getfield 194, 3) := by decide +kernel
theorem dX10_manyNow_131 : decode cX10_manyNow 131 = .ok (.iastore, 1) := by decide +kernel
theorem dX10_manyNow_132 : decode cX10_manyNow 132 = .ok (.dup, 1) := by decide +kernel
theorem dX10_manyNow_133 : decode cX10_manyNow 133 = .ok (.bipush 9, 2) := by decide +kernel
theorem dX10_manyNow_135 : decode cX10_manyNow 135 = .ok (.aload_n 0, 1) := by decide +kernel
theorem dX10_manyNow_136 : decode cX10_manyNow 136 = .ok (.getfield 67, 3) := by decide +kernel
theorem dX10_manyNow_139 : decode cX10_manyNow 139 = .ok (.iastore, 1) := by decide +kernel
theorem dX10_manyNow_140 : decode cX10_manyNow 140 = .ok (.dup, 1) := by decide +kernel
theorem dX10_manyNow_141 : decode cX10_manyNow 141 = .ok (.bipush 10, 2) := by decide +kernel
theorem dX10_manyNow_143 : decode cX10_manyNow 143 = .ok (.iload_n 3, 1) := by decide +kernel
theorem dX10_manyNow_144 : decode cX10_manyNow 144 = .ok (.iastore, 1) := by decide +kernel
theorem dX10_manyNow_145 : decode cX10_manyNow 145 = .ok (.astore 4, 2) := by decide +kernel
theorem dX10_manyNow_147 : decode cX10_manyNow 147 = .ok (.aload 4, 2) := by decide +kernel
theorem dX10_manyNow_149 : decode cX10_manyNow 149 = .ok (.iload_n 1, 1) := by decide +kernel
theorem dX10_manyNow_150 : decode cX10_manyNow 150 = .ok (.iaload, 1) := by decide +kernel
theorem dX10_manyNow_151 : decode cX10_manyNow 151 = .ok (.ireturn, 1) := by decide +kernel
theorem dX10_many_0 : decode cX10_many 0 = .ok (.aload_n 0, 1) := by decide +kernel
theorem dX10_many_1 : decode cX10_many 1 = .ok (.iconst 0, 1) := by decide +kernel
theorem dX10_many_2 : decode cX10_many 2 = .ok (.putfield 19, 3) := by decide +kernel
theorem dX10_many_5 : decode cX10_many 5 = .ok (.iload_n 1, 1) := by decide +kernel
theorem dX10_many_6 : decode cX10_many 6 = .ok (.iconst 0, 1) := by decide +kernel
theorem dX10_many_7 : decode cX10_many 7 = .ok (.bipush 10, 2) := by decide +kernel
theorem dX10_many_9 : decode cX10_many 9 = .ok (.invokestatic 27, 3) := by decide +kernel
theorem dX10_many_12 : decode cX10_many 12 = .ok (.ifCond .eq 11, 3) := by decide +kernel
theorem dX10_many_15 : decode cX10_many 15 = .ok (.aload_n 0, 1) := by decide +kernel
theorem dX10_many_16 : decode cX10_many 16 = .ok (.iload_n 1, 1) := by decide +kernel
theorem dX10_many_17 : decode cX10_many 17 = .ok (.invokevirtual 258, 3) := by decide +kernel
theorem dX10_many_20 : decode cX10_many 20 = .ok (.goto 8, 3) := by decide +kernel
theorem dX10_many_23 : decode cX10_many 23 = .ok (.aload_n 0, 1) := by decide +kernel
theorem dX10_many_24 : decode cX10_many 24 = .ok (.iconst 1, 1) := by decide +kernel
theorem dX10_many_25 : decode cX10_many 25 = .ok (.invokevirtual 31, 3) := by decide +kernel
theorem dX10_many_28 : decode cX10_many 28 = .ok (.ireturn, 1) := by decide +kernel
theorem dX10_meanStop_0 : decode cX10_meanStop 0 = .ok (.aload_n 0, 1) := by decide +kernel
theorem dX10_meanStop_1 : decode cX10_meanStop 1 = .ok (.iconst 0, 1) := by decide +kernel
theorem dX10_meanStop_2 : decode cX10_meanStop 2 = .ok (.putfield 19, 3) := by decide +kernel
theorem dX10_meanStop_5 : decode cX10_meanStop 5 = .ok (.iconst 0, 1) := by decide +kernel
theorem dX10_meanStop_6 : decode cX10_meanStop 6 = .ok (.istore_n 1, 1) := by decide +kernel
theorem dX10_meanStop_7 : decode cX10_meanStop 7 = .ok (.iconst 0, 1) := by decide +kernel
theorem dX10_meanStop_8 : decode cX10_meanStop 8 = .ok (.istore_n 2, 1) := by decide +kernel
theorem dX10_meanStop_9 : decode cX10_meanStop 9 = .ok (.aload_n 0, 1) := by decide +kernel
theorem dX10_meanStop_10 : decode cX10_meanStop 10 = .ok (.getfield 10, 3) := by decide +kernel
theorem dX10_meanStop_13 : decode cX10_meanStop 13 = .ok (.invokevirtual 158, 3) := by decide +kernel
theorem dX10_meanStop_16 : decode cX10_meanStop 16 = .ok (.astore_n 3, 1) := by decide +kernel
theorem dX10_meanStop_17 : decode cX10_meanStop 17 = .ok (.aload_n 3, 1) := by decide +kernel
theorem dX10_meanStop_18 : decode cX10_meanStop 18 = .ok (.invokeinterface 162 1, 5) := by decide +kernel
theorem dX10_meanStop_23 : decode cX10_meanStop 23 = .ok (.ifCond .eq 39, 3) := by decide +kernel
theorem dX10_meanStop_62 : decode cX10_meanStop 62 = .ok (.iload_n 2, 1) := by decide +kernel
theorem dX10_meanStop_63 : decode cX10_meanStop 63 = .ok (.ifCond .ne 7, 3) := by decide +kernel
theorem dX10_meanStop_66 : decode cX10_meanStop 66 = .ok (.dconst 0, 1) := by decide +kernel
theorem dX10_meanStop_67 : decode cX10_meanStop 67 = .ok (.goto 8, 3) := by decide +kernel
theorem dX10_meanStop_75 : decode cX10_meanStop 75 = .ok (.dreturn, 1) := by decide +kernel
theorem dX10_cycleIn_0 : decode cX10_cycleIn 0 = .ok (.aload_n 0, 1) := by decide +kernel
theorem dX10_cycleIn_1 : decode cX10_cycleIn 1 = .ok (.iconst 0, 1) := by decide +kernel
theorem dX10_cycleIn_2 : decode cX10_cycleIn 2 = .ok (.putfield 19, 3) := by decide +kernel
theorem dX10_cycleIn_5 : decode cX10_cycleIn 5 = .ok (.aload_n 0, 1) := by decide +kernel
theorem dX10_cycleIn_6 : decode cX10_cycleIn 6 = .ok (.iload_n 1, 1) := by decide +kernel
theorem dX10_cycleIn_7 : decode cX10_cycleIn 7 = .ok (.invokevirtual 44, 3) := by decide +kernel
theorem dX10_cycleIn_10 : decode cX10_cycleIn 10 = .ok (.ifCond .ne 9, 3) := by decide +kernel
theorem dX10_cycleIn_13 : decode cX10_cycleIn 13 = .ok (.aload_n 0, 1) := by decide +kernel
theorem dX10_cycleIn_14 : decode cX10_cycleIn 14 = .ok (.iconst 1, 1) := by decide +kernel
theorem dX10_cycleIn_15 : decode cX10_cycleIn 15 = .ok (.invokevirtual 31, 3) := by decide +kernel
theorem dX10_cycleIn_18 : decode cX10_cycleIn 18 = .ok (.ireturn, 1) := by decide +kernel
theorem dX10_backIn_0 : decode cX10_backIn 0 = .ok (.aload_n 0, 1) := by decide +kernel
theorem dX10_backIn_1 : decode cX10_backIn 1 = .ok (.iconst 0, 1) := by decide +kernel
theorem dX10_backIn_2 : decode cX10_backIn 2 = .ok (.putfield 19, 3) := by decide +kernel
theorem dX10_backIn_5 : decode cX10_backIn 5 = .ok (.aload_n 0, 1) := by decide +kernel
theorem dX10_backIn_6 : decode cX10_backIn 6 = .ok (.iload_n 1, 1) := by decide +kernel
theorem dX10_backIn_7 : decode cX10_backIn 7 = .ok (.invokevirtual 44, 3) := by decide +kernel
theorem dX10_backIn_10 : decode cX10_backIn 10 = .ok (.ifCond .eq 20, 3) := by decide +kernel
theorem dX10_backIn_30 : decode cX10_backIn 30 = .ok (.aload_n 0, 1) := by decide +kernel
theorem dX10_backIn_31 : decode cX10_backIn 31 = .ok (.iconst 1, 1) := by decide +kernel
theorem dX10_backIn_32 : decode cX10_backIn 32 = .ok (.invokevirtual 31, 3) := by decide +kernel
theorem dX10_backIn_35 : decode cX10_backIn 35 = .ok (.ireturn, 1) := by decide +kernel
theorem dX10_gramIn_0 : decode cX10_gramIn 0 = .ok (.aload_n 0, 1) := by decide +kernel
theorem dX10_gramIn_1 : decode cX10_gramIn 1 = .ok (.iconst 0, 1) := by decide +kernel
theorem dX10_gramIn_2 : decode cX10_gramIn 2 = .ok (.putfield 19, 3) := by decide +kernel
theorem dX10_gramIn_5 : decode cX10_gramIn 5 = .ok (.aload_n 0, 1) := by decide +kernel
theorem dX10_gramIn_6 : decode cX10_gramIn 6 = .ok (.iload_n 1, 1) := by decide +kernel
theorem dX10_gramIn_7 : decode cX10_gramIn 7 = .ok (.invokevirtual 44, 3) := by decide +kernel
theorem dX10_gramIn_10 : decode cX10_gramIn 10 = .ok (.ifCond .eq 20, 3) := by decide +kernel
theorem dX10_gramIn_30 : decode cX10_gramIn 30 = .ok (.aload_n 0, 1) := by decide +kernel
theorem dX10_gramIn_31 : decode cX10_gramIn 31 = .ok (.iconst 1, 1) := by decide +kernel
theorem dX10_gramIn_32 : decode cX10_gramIn 32 = .ok (.invokevirtual 31, 3) := by decide +kernel
theorem dX10_gramIn_35 : decode cX10_gramIn 35 = .ok (.ireturn, 1) := by decide +kernel
theorem dX10_add_0 : decode cX10_add 0 = .ok (.aload_n 0, 1) := by decide +kernel
theorem dX10_add_1 : decode cX10_add 1 = .ok (.aload_n 0, 1) := by decide +kernel
theorem dX10_add_2 : decode cX10_add 2 = .ok (.getfield 261, 3) := by decide +kernel
theorem dX10_add_5 : decode cX10_add 5 = .ok (.ldc2_w 265, 3) := by decide +kernel
theorem dX10_add_8 : decode cX10_add 8 = .ok (.lmul, 1) := by decide +kernel
theorem dX10_add_9 : decode cX10_add 9 = .ok (.iload_n 1, 1) := by decide +kernel
theorem dX10_add_10 : decode cX10_add 10 = .ok (.i2l, 1) := by decide +kernel
theorem dX10_add_11 : decode cX10_add 11 = .ok (.ladd, 1) := by decide +kernel
theorem dX10_add_12 : decode cX10_add 12 = .ok (.putfield 261, 3) := by decide +kernel
theorem dX10_add_15 : decode cX10_add 15 = .ok (.return_, 1) := by decide +kernel
theorem dX10_digest_0 : decode cX10_digest 0 = .ok (.aload_n 0, 1) := by decide +kernel
theorem dX10_digest_1 : decode cX10_digest 1 = .ok (.iconst 0, 1) := by decide +kernel
theorem dX10_digest_2 : decode cX10_digest 2 = .ok (.putfield 19, 3) := by decide +kernel
theorem dX10_digest_5 : decode cX10_digest 5 = .ok (.aload_n 0, 1) := by decide +kernel
theorem dX10_digest_6 : decode cX10_digest 6 = .ok (.ldc2_w 267, 3) := by decide +kernel
theorem dX10_digest_9 : decode cX10_digest 9 = .ok (.putfield 261, 3) := by decide +kernel
theorem dX10_digest_12 : decode cX10_digest 12 = .ok (.iconst 0, 1) := by decide +kernel
theorem dX10_digest_13 : decode cX10_digest 13 = .ok (.istore_n 1, 1) := by decide +kernel
theorem dX10_digest_14 : decode cX10_digest 14 = .ok (.iload_n 1, 1) := by decide +kernel
theorem dX10_digest_15 : decode cX10_digest 15 = .ok (.bipush 11, 2) := by decide +kernel
theorem dX10_digest_17 : decode cX10_digest 17 = .ok (.if_icmp .ge 18, 3) := by decide +kernel
theorem dX10_digest_20 : decode cX10_digest 20 = .ok (.aload_n 0, 1) := by decide +kernel
theorem dX10_digest_21 : decode cX10_digest 21 = .ok (.aload_n 0, 1) := by decide +kernel
theorem dX10_digest_22 : decode cX10_digest 22 = .ok (.iload_n 1, 1) := by decide +kernel
theorem dX10_digest_23 : decode cX10_digest 23 = .ok (.invokevirtual 258, 3) := by decide +kernel
theorem dX10_digest_26 : decode cX10_digest 26 = .ok (.invokevirtual 269, 3) := by decide +kernel
theorem dX10_digest_29 : decode cX10_digest 29 = .ok (.iinc 1 1, 3) := by decide +kernel
theorem dX10_digest_32 : decode cX10_digest 32 = .ok (.goto (-18), 3) := by decide +kernel
theorem dX10_digest_35 : decode cX10_digest 35 = .ok (.aload_n 0, 1) := by decide +kernel
theorem dX10_digest_36 : decode cX10_digest 36 = .ok (.getfield 10, 3) := by decide +kernel
theorem dX10_digest_39 : decode cX10_digest 39 = .ok (.invokevirtual 158, 3) := by decide +kernel
theorem dX10_digest_42 : decode cX10_digest 42 = .ok (.astore_n 1, 1) := by decide +kernel
theorem dX10_digest_43 : decode cX10_digest 43 = .ok (.aload_n 1, 1) := by decide +kernel
theorem dX10_digest_44 : decode cX10_digest 44 = .ok (.invokeinterface 162 1, 5) := by decide +kernel
theorem dX10_digest_49 : decode cX10_digest 49 = .ok (.ifCond .eq 139, 3) := by decide +kernel
theorem dX10_digest_188 : decode cX10_digest 188 = .ok (.iconst 0, 1) := by decide +kernel
theorem dX10_digest_189 : decode cX10_digest 189 = .ok (.istore_n 1, 1) := by decide +kernel
theorem dX10_digest_190 : decode cX10_digest 190 = .ok (.iload_n 1, 1) := by decide +kernel
theorem dX10_digest_191 : decode cX10_digest 191 = .ok (.aload_n 0, 1) := by decide +kernel
theorem dX10_digest_192 : decode cX10_digest 192 = .ok (.getfield 16, 3) := by decide +kernel
theorem dX10_digest_195 : decode cX10_digest 195 = .ok (.invokevirtual 23, 3) := by decide +kernel
theorem dX10_digest_198 : decode cX10_digest 198 = .ok (.if_icmp .ge 22, 3) := by decide +kernel
theorem dX10_digest_220 : decode cX10_digest 220 = .ok (.aload_n 0, 1) := by decide +kernel
theorem dX10_digest_221 : decode cX10_digest 221 = .ok (.aload_n 0, 1) := by decide +kernel
theorem dX10_digest_222 : decode cX10_digest 222 = .ok (.iconst 0, 1) := by decide +kernel
theorem dX10_digest_223 : decode cX10_digest 223 = .ok (.invokevirtual 243, 3) := by decide +kernel
theorem dX10_digest_226 : decode cX10_digest 226 = .ok (.invokevirtual 269, 3) := by decide +kernel
theorem dX10_digest_229 : decode cX10_digest 229 = .ok (.aload_n 0, 1) := by decide +kernel
theorem dX10_digest_230 : decode cX10_digest 230 = .ok (.aload_n 0, 1) := by decide +kernel
theorem dX10_digest_231 : decode cX10_digest 231 = .ok (.iconst 1, 1) := by decide +kernel
theorem dX10_digest_232 : decode cX10_digest 232 = .ok (.invokevirtual 243, 3) := by decide +kernel
theorem dX10_digest_235 : decode cX10_digest 235 = .ok (.invokevirtual 269, 3) := by decide +kernel
theorem dX10_digest_238 : decode cX10_digest 238 = .ok (.aload_n 0, 1) := by decide +kernel
theorem dX10_digest_239 : decode cX10_digest 239 = .ok (.getfield 261, 3) := by decide +kernel
theorem dX10_digest_242 : decode cX10_digest 242 = .ok (.lreturn, 1) := by decide +kernel
theorem dJxa1e45_init_da8c8_0 : decode cJxa1e45_init_da8c8 0 = .ok (.aload_n 0, 1) := by decide +kernel
theorem dJxa1e45_init_da8c8_1 : decode cJxa1e45_init_da8c8 1 = .ok (.invokespecial 1, 3) := by decide +kernel
theorem dJxa1e45_init_da8c8_4 : decode cJxa1e45_init_da8c8 4 = .ok (.return_, 1) := by decide +kernel
theorem dJxc12de_init_da8c8_0 : decode cJxc12de_init_da8c8 0 = .ok (.aload_n 0, 1) := by decide +kernel
theorem dJxc12de_init_da8c8_1 : decode cJxc12de_init_da8c8 1 = .ok (.invokespecial 1, 3) := by decide +kernel
theorem dJxc12de_init_da8c8_4 : decode cJxc12de_init_da8c8 4 = .ok (.aload_n 0, 1) := by decide +kernel
theorem dJxc12de_init_da8c8_5 : decode cJxc12de_init_da8c8 5 = .ok (.iconst 0, 1) := by decide +kernel
theorem dJxc12de_init_da8c8_6 : decode cJxc12de_init_da8c8 6 = .ok (.putfield 7, 3) := by decide +kernel
theorem dJxc12de_init_da8c8_9 : decode cJxc12de_init_da8c8 9 = .ok (.return_, 1) := by decide +kernel
theorem dJx35411_init_45d68_0 : decode cJx35411_init_45d68 0 = .ok (.aload_n 0, 1) := by decide +kernel
theorem dJx35411_init_45d68_1 : decode cJx35411_init_45d68 1 = .ok (.aload_n 1, 1) := by decide +kernel
theorem dJx35411_init_45d68_2 : decode cJx35411_init_45d68 2 = .ok (.putfield 1, 3) := by decide +kernel
theorem dJx35411_init_45d68_5 : decode cJx35411_init_45d68 5 = .ok (.aload_n 0, 1) := by decide +kernel
theorem dJx35411_init_45d68_6 : decode cJx35411_init_45d68 6 = .ok (.invokespecial 7, 3) := by decide +kernel
theorem dJx35411_init_45d68_9 : decode cJx35411_init_45d68 9 = .ok (.aload_n 0, 1) := by decide +kernel
theorem dJx35411_init_45d68_10 : decode cJx35411_init_45d68 10 = .ok (.iconst (-1), 1) := by decide +kernel
theorem dJx35411_init_45d68_11 : decode cJx35411_init_45d68 11 = .ok (.putfield 13, 3) := by decide +kernel
theorem dJx35411_init_45d68_14 : decode cJx35411_init_45d68 14 = .ok (.aload_n 0, 1) := by decide +kernel
theorem dJx35411_init_45d68_15 : decode cJx35411_init_45d68 15 = .ok (.aload_n 0, 1) := by decide +kernel
theorem dJx35411_init_45d68_16 : decode cJx35411_init_45d68 16 = .ok (.getfield 1, 3) := by decide +kernel
theorem dJx35411_init_45d68_19 : decode cJx35411_init_45d68 19 = .ok (.getfield 17, 3) := by decide +kernel
theorem dJx35411_init_45d68_22 : decode cJx35411_init_45d68 22 = .ok (.putfield 22, 3) := by decide +kernel
theorem dJx35411_init_45d68_25 : decode cJx35411_init_45d68 25 = .ok (.return_, 1) := by decide +kernel
theorem dJx35411_hasNext_aae02_0 : decode cJx35411_hasNext_aae02 0 = .ok (.aload_n 0, 1) := by decide +kernel
theorem dJx35411_hasNext_aae02_1 : decode cJx35411_hasNext_aae02 1 = .ok (.getfield 25, 3) := by decide +kernel
theorem dJx35411_hasNext_aae02_4 : decode cJx35411_hasNext_aae02 4 = .ok (.aload_n 0, 1) := by decide +kernel
theorem dJx35411_hasNext_aae02_5 : decode cJx35411_hasNext_aae02 5 = .ok (.getfield 1, 3) := by decide +kernel
theorem dJx35411_hasNext_aae02_8 : decode cJx35411_hasNext_aae02 8 = .ok (.getfield 28, 3) := by decide +kernel
theorem dJx35411_hasNext_aae02_11 : decode cJx35411_hasNext_aae02 11 = .ok (.if_icmp .eq 7, 3) := by decide +kernel
theorem dJx35411_hasNext_aae02_18 : decode cJx35411_hasNext_aae02 18 = .ok (.iconst 0, 1) := by decide +kernel
theorem dJx35411_hasNext_aae02_19 : decode cJx35411_hasNext_aae02 19 = .ok (.ireturn, 1) := by decide +kernel
theorem dJx4a65c_init_da8c8_0 : decode cJx4a65c_init_da8c8 0 = .ok (.aload_n 0, 1) := by decide +kernel
theorem dJx4a65c_init_da8c8_1 : decode cJx4a65c_init_da8c8 1 = .ok (.invokespecial 1, 3) := by decide +kernel
theorem dJx4a65c_init_da8c8_4 : decode cJx4a65c_init_da8c8 4 = .ok (.aload_n 0, 1) := by decide +kernel
theorem dJx4a65c_init_da8c8_5 : decode cJx4a65c_init_da8c8 5 = .ok (.getstatic 39, 3) := by decide +kernel
theorem dJx4a65c_init_da8c8_8 : decode cJx4a65c_init_da8c8 8 = .ok (.putfield 9, 3) := by decide +kernel
theorem dJx4a65c_init_da8c8_11 : decode cJx4a65c_init_da8c8 11 = .ok (.return_, 1) := by decide +kernel
theorem dJx4a65c_grow_92f84_0 : decode cJx4a65c_grow_92f84 0 = .ok (.aload_n 0, 1) := by decide +kernel
theorem dJx4a65c_grow_92f84_1 : decode cJx4a65c_grow_92f84 1 = .ok (.getfield 9, 3) := by decide +kernel
theorem dJx4a65c_grow_92f84_4 : decode cJx4a65c_grow_92f84 4 = .ok (.arraylength, 1) := by decide +kernel
theorem dJx4a65c_grow_92f84_5 : decode cJx4a65c_grow_92f84 5 = .ok (.istore_n 2, 1) := by decide +kernel
theorem dJx4a65c_grow_92f84_6 : decode cJx4a65c_grow_92f84 6 = .ok (.iload_n 2, 1) := by decide +kernel
theorem dJx4a65c_grow_92f84_7 : decode cJx4a65c_grow_92f84 7 = .ok (.ifCond .gt 13, 3) := by decide +kernel
theorem dJx4a65c_grow_92f84_10 : decode cJx4a65c_grow_92f84 10 = .ok (.aload_n 0, 1) := by decide +kernel
theorem dJx4a65c_grow_92f84_11 : decode cJx4a65c_grow_92f84 11 = .ok (.getfield 9, 3) := by decide +kernel
theorem dJx4a65c_grow_92f84_14 : decode cJx4a65c_grow_92f84 14 = .ok (.getstatic 39, 3) := by decide +kernel
theorem dJx4a65c_grow_92f84_17 : decode cJx4a65c_grow_92f84 17 = .ok (.if_acmp .eq 28, 3) := by decide +kernel
theorem dJx4a65c_grow_92f84_45 : decode cJx4a65c_grow_92f84 45 = .ok (.aload_n 0, 1) := by decide +kernel
theorem dJx4a65c_grow_92f84_46 : decode cJx4a65c_grow_92f84 46 = .ok (.bipush 10, 2) := by decide +kernel
theorem dJx4a65c_grow_92f84_48 : decode cJx4a65c_grow_92f84 48 = .ok (.iload_n 1, 1) := by decide +kernel
theorem dJx4a65c_grow_92f84_49 : decode cJx4a65c_grow_92f84 49 = .ok (.invokestatic 79, 3) := by decide +kernel
theorem dJx4a65c_grow_92f84_52 : decode cJx4a65c_grow_92f84 52 = .ok (.anewarray 7, 3) := by decide +kernel
theorem dJx4a65c_grow_92f84_55 : decode cJx4a65c_grow_92f84 55 = .ok (.dup_x1, 1) := by decide +kernel
theorem dJx4a65c_grow_92f84_56 : decode cJx4a65c_grow_92f84 56 = .ok (.putfield 9, 3) := by decide +kernel
theorem dJx4a65c_grow_92f84_59 : decode cJx4a65c_grow_92f84 59 = .ok (.areturn, 1) := by decide +kernel
theorem dJx4a65c_grow_d5877_0 : decode cJx4a65c_grow_d5877 0 = .ok (.aload_n 0, 1) := by decide +kernel
theorem dJx4a65c_grow_d5877_1 : decode cJx4a65c_grow_d5877 1 = .ok (.aload_n 0, 1) := by decide +kernel
theorem dJx4a65c_grow_d5877_2 : decode cJx4a65c_grow_d5877 2 = .ok (.getfield 48, 3) := by decide +kernel
theorem dJx4a65c_grow_d5877_5 : decode cJx4a65c_grow_d5877 5 = .ok (.iconst 1, 1) := by decide +kernel
theorem dJx4a65c_grow_d5877_6 : decode cJx4a65c_grow_d5877 6 = .ok (.iadd, 1) := by decide +kernel
theorem dJx4a65c_grow_d5877_7 : decode cJx4a65c_grow_d5877 7 = .ok (.invokevirtual 69, 3) := by decide +kernel
theorem dJx4a65c_grow_d5877_10 : decode cJx4a65c_grow_d5877 10 = .ok (.areturn, 1) := by decide +kernel
theorem dJx4a65c_size_8abf5_0 : decode cJx4a65c_size_8abf5 0 = .ok (.aload_n 0, 1) := by decide +kernel
theorem dJx4a65c_size_8abf5_1 : decode cJx4a65c_size_8abf5 1 = .ok (.getfield 48, 3) := by decide +kernel
theorem dJx4a65c_size_8abf5_4 : decode cJx4a65c_size_8abf5 4 = .ok (.ireturn, 1) := by decide +kernel
theorem dJx4a65c_add_72be8_0 : decode cJx4a65c_add_72be8 0 = .ok (.iload_n 3, 1) := by decide +kernel
theorem dJx4a65c_add_72be8_1 : decode cJx4a65c_add_72be8 1 = .ok (.aload_n 2, 1) := by decide +kernel
theorem dJx4a65c_add_72be8_2 : decode cJx4a65c_add_72be8 2 = .ok (.arraylength, 1) := by decide +kernel
theorem dJx4a65c_add_72be8_3 : decode cJx4a65c_add_72be8 3 = .ok (.if_icmp .ne 8, 3) := by decide +kernel
theorem dJx4a65c_add_72be8_6 : decode cJx4a65c_add_72be8 6 = .ok (.aload_n 0, 1) := by decide +kernel
theorem dJx4a65c_add_72be8_7 : decode cJx4a65c_add_72be8 7 = .ok (.invokevirtual 129, 3) := by decide +kernel
theorem dJx4a65c_add_72be8_10 : decode cJx4a65c_add_72be8 10 = .ok (.astore_n 2, 1) := by decide +kernel
theorem dJx4a65c_add_72be8_11 : decode cJx4a65c_add_72be8 11 = .ok (.aload_n 2, 1) := by decide +kernel
theorem dJx4a65c_add_72be8_12 : decode cJx4a65c_add_72be8 12 = .ok (.iload_n 3, 1) := by decide +kernel
theorem dJx4a65c_add_72be8_13 : decode cJx4a65c_add_72be8 13 = .ok (.aload_n 1, 1) := by decide +kernel
theorem dJx4a65c_add_72be8_14 : decode cJx4a65c_add_72be8 14 = .ok (.aastore, 1) := by decide +kernel
theorem dJx4a65c_add_72be8_15 : decode cJx4a65c_add_72be8 15 = .ok (.aload_n 0, 1) := by decide +kernel
theorem dJx4a65c_add_72be8_16 : decode cJx4a65c_add_72be8 16 = .ok (.iload_n 3, 1) := by decide +kernel
theorem dJx4a65c_add_72be8_17 : decode cJx4a65c_add_72be8 17 = .ok (.iconst 1, 1) := by decide +kernel
theorem dJx4a65c_add_72be8_18 : decode cJx4a65c_add_72be8 18 = .ok (.iadd, 1) := by decide +kernel
theorem dJx4a65c_add_72be8_19 : decode cJx4a65c_add_72be8 19 = .ok (.putfield 48, 3) := by decide +kernel
theorem dJx4a65c_add_72be8_22 : decode cJx4a65c_add_72be8 22 = .ok (.return_, 1) := by decide +kernel
theorem dJx4a65c_add_9ea2d_0 : decode cJx4a65c_add_9ea2d 0 = .ok (.aload_n 0, 1) := by decide +kernel
theorem dJx4a65c_add_9ea2d_1 : decode cJx4a65c_add_9ea2d 1 = .ok (.dup, 1) := by decide +kernel
theorem dJx4a65c_add_9ea2d_2 : decode cJx4a65c_add_9ea2d 2 = .ok (.getfield 63, 3) := by decide +kernel
theorem dJx4a65c_add_9ea2d_5 : decode cJx4a65c_add_9ea2d 5 = .ok (.iconst 1, 1) := by decide +kernel
theorem dJx4a65c_add_9ea2d_6 : decode cJx4a65c_add_9ea2d 6 = .ok (.iadd, 1) := by decide +kernel
theorem dJx4a65c_add_9ea2d_7 : decode cJx4a65c_add_9ea2d 7 = .ok (.putfield 63, 3) := by decide +kernel
theorem dJx4a65c_add_9ea2d_10 : decode cJx4a65c_add_9ea2d 10 = .ok (.aload_n 0, 1) := by decide +kernel
theorem dJx4a65c_add_9ea2d_11 : decode cJx4a65c_add_9ea2d 11 = .ok (.aload_n 1, 1) := by decide +kernel
theorem dJx4a65c_add_9ea2d_12 : decode cJx4a65c_add_9ea2d 12 = .ok (.aload_n 0, 1) := by decide +kernel
theorem dJx4a65c_add_9ea2d_13 : decode cJx4a65c_add_9ea2d 13 = .ok (.getfield 9, 3) := by decide +kernel
theorem dJx4a65c_add_9ea2d_16 : decode cJx4a65c_add_9ea2d 16 = .ok (.aload_n 0, 1) := by decide +kernel
theorem dJx4a65c_add_9ea2d_17 : decode cJx4a65c_add_9ea2d 17 = .ok (.getfield 48, 3) := by decide +kernel
theorem dJx4a65c_add_9ea2d_20 : decode cJx4a65c_add_9ea2d 20 = .ok (.invokevirtual 131, 3) := by decide +kernel
theorem dJx4a65c_add_9ea2d_23 : decode cJx4a65c_add_9ea2d 23 = .ok (.iconst 1, 1) := by decide +kernel
theorem dJx4a65c_add_9ea2d_24 : decode cJx4a65c_add_9ea2d 24 = .ok (.ireturn, 1) := by decide +kernel
theorem dJx4a65c_iterator_32c93_0 : decode cJx4a65c_iterator_32c93 0 = .ok (.new 267, 3) := by decide +kernel
theorem dJx4a65c_iterator_32c93_3 : decode cJx4a65c_iterator_32c93 3 = .ok (.dup, 1) := by decide +kernel
theorem dJx4a65c_iterator_32c93_4 : decode cJx4a65c_iterator_32c93 4 = .ok (.aload_n 0, 1) := by decide +kernel
theorem dJx4a65c_iterator_32c93_5 : decode cJx4a65c_iterator_32c93 5 = .ok (.invokespecial 269, 3) := by decide +kernel
theorem dJx4a65c_iterator_32c93_8 : decode cJx4a65c_iterator_32c93 8 = .ok (.areturn, 1) := by decide +kernel
theorem dL_machine_0 : decode cL_machine 0 = .ok (.aload_n 2, 1) := by decide +kernel
theorem dL_machine_1 : decode cL_machine 1 = .ok (.iconst 0, 1) := by decide +kernel
theorem dL_machine_2 : decode cL_machine 2 = .ok (.aload_n 0, 1) := by decide +kernel
theorem dL_machine_3 : decode cL_machine 3 = .ok (.iload_n 1, 1) := by decide +kernel
theorem dL_machine_4 : decode cL_machine 4 = .ok (.invokevirtual 7, 3) := by decide +kernel
theorem dL_machine_7 : decode cL_machine 7 = .ok (.i2l, 1) := by decide +kernel
theorem dL_machine_8 : decode cL_machine 8 = .ok (.lastore, 1) := by decide +kernel
theorem dL_machine_9 : decode cL_machine 9 = .ok (.goto 9, 3) := by decide +kernel
theorem dL_machine_12 : decode cL_machine 12 = .ok (.astore_n 3, 1) := by decide +kernel
theorem dL_machine_13 : decode cL_machine 13 = .ok (.iconst 1, 1) := by decide +kernel
theorem dL_machine_14 : decode cL_machine 14 = .ok (.ireturn, 1) := by decide +kernel
theorem dL_machine_18 : decode cL_machine 18 = .ok (.iconst 0, 1) := by decide +kernel
theorem dL_machine_19 : decode cL_machine 19 = .ok (.ireturn, 1) := by decide +kernel
theorem dL_tell_0 : decode cL_tell 0 = .ok (.aload 7, 2) := by decide +kernel
theorem dL_tell_2 : decode cL_tell 2 = .ok (.iconst 0, 1) := by decide +kernel
theorem dL_tell_3 : decode cL_tell 3 = .ok (.aload_n 0, 1) := by decide +kernel
theorem dL_tell_4 : decode cL_tell 4 = .ok (.iload_n 1, 1) := by decide +kernel
theorem dL_tell_5 : decode cL_tell 5 = .ok (.iload_n 2, 1) := by decide +kernel
theorem dL_tell_6 : decode cL_tell 6 = .ok (.iload_n 3, 1) := by decide +kernel
theorem dL_tell_7 : decode cL_tell 7 = .ok (.iload 4, 2) := by decide +kernel
theorem dL_tell_9 : decode cL_tell 9 = .ok (.iload 5, 2) := by decide +kernel
theorem dL_tell_11 : decode cL_tell 11 = .ok (.iload 6, 2) := by decide +kernel
theorem dL_tell_13 : decode cL_tell 13 = .ok (.invokevirtual 17, 3) := by decide +kernel
theorem dL_tell_21 : decode cL_tell 21 = .ok (.astore 8, 2) := by decide +kernel
theorem dL_tell_23 : decode cL_tell 23 = .ok (.iconst 1, 1) := by decide +kernel
theorem dL_tell_24 : decode cL_tell 24 = .ok (.ireturn, 1) := by decide +kernel
theorem dL_amend_0 : decode cL_amend 0 = .ok (.aload 7, 2) := by decide +kernel
theorem dL_amend_2 : decode cL_amend 2 = .ok (.iconst 0, 1) := by decide +kernel
theorem dL_amend_3 : decode cL_amend 3 = .ok (.aload_n 0, 1) := by decide +kernel
theorem dL_amend_4 : decode cL_amend 4 = .ok (.iload_n 1, 1) := by decide +kernel
theorem dL_amend_5 : decode cL_amend 5 = .ok (.iload_n 2, 1) := by decide +kernel
theorem dL_amend_6 : decode cL_amend 6 = .ok (.iload_n 3, 1) := by decide +kernel
theorem dL_amend_7 : decode cL_amend 7 = .ok (.iload 4, 2) := by decide +kernel
theorem dL_amend_9 : decode cL_amend 9 = .ok (.iload 5, 2) := by decide +kernel
theorem dL_amend_11 : decode cL_amend 11 = .ok (.iload 6, 2) := by decide +kernel
theorem dL_amend_13 : decode cL_amend 13 = .ok (.invokevirtual 23, 3) := by decide +kernel
